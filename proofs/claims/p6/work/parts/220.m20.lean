theorem ob_some {B : Bd} {R W : Int} (h : bi R W B) : ob (some B) := fun B2 e => by
  cases e
  exact ⟨R, W, h⟩
theorem ob_up {P : Nat → Option Bd} {i : Nat} {o : Option Bd} (h : ∀ k, ob (P k)) (ho : ob o) : ∀ k, ob (va_up P i o k) := fun k => by
  unfold va_up
  by_cases e : k = i
  · rw [if_pos e]
    exact ho
  · rw [if_neg e]
    exact h k
theorem fr_bi : bi 0 0 fr_B := by
  refine ⟨rfl, rfl, ⟨by decide, by decide⟩, by omega, ?_, ?_, ?_, ?_, ?_, by decide⟩
  · intro k _
    show 0 ≤ (0 : Int32).toInt ∧ (0 : Int32).toInt ≤ 40
    decide
  · intro k _
    show 0 ≤ (0 : Int32).toInt ∧ (0 : Int32).toInt ≤ 3
    decide
  · intro k _
    show 0 ≤ (0 : Int32).toInt ∧ (0 : Int32).toInt ≤ 39
    decide
  · intro k _
    show 0 ≤ (0 : Int32).toInt ∧ (0 : Int32).toInt ≤ 39
    decide
  · intro k _
    show 0 ≤ (0 : Int32).toInt ∧ (0 : Int32).toInt ≤ 39
    decide
theorem rem10 {x : Int32} (h : 0 ≤ x.toInt ∧ x.toInt ≤ 100) : (x - x / 10 * 10).toInt = x.toInt % 10 := by
  have e10 : (10 : Int32).toInt = 10 := rfl
  have e1 := tq_sub x (x / 10 * 10)
  have e2 := tq_mulr e10 (x / 10)
  have e3 : (x / 10).toInt = x.toInt / 10 := by
    rw [Int32.toInt_div, bm32, e10, Int.tdiv_eq_ediv_of_nonneg h.1]
    omega
  omega
theorem wq_X3_push {post : Pa → Prop} {s0 : Pa} {s1 : Bd} {R W : Int} (h0 : pa s0) (h1 : bi R W s1) (k : ∀ u : Pa, pa u → post u) : wp_X3_push post s0 s1 := by
  unfold wp_X3_push
  have d := h0.1
  have e1 : (1 : Int32).toInt = 1 := rfl
  have e10 : (10 : Int32).toInt = 10 := rfl
  have a1 := tq_add (s0.1 1) 1
  have a2 := tq_add (s0.1 0) 1
  have a3 := rem10 (x := s0.1 1 + 1) (by omega)
  have a4 := tq_ite (a := 10) (b := s0.1 0 + 1) (x := 10) (y := s0.1 0 + 1)
  have nn : ∀ P : Nat → Option Bd, (∀ k, ob (P k)) → pa ((va_up (va_up s0.1 0 (if 10 < ((s0.1 0) + 1) then 10 else ((s0.1 0) + 1))) 1 (((s0.1 1) + 1) - ((s0.1 1) + 1) / 10 * 10)), P) := fun P hP => ⟨by
    show 0 ≤ (if 10 < ((s0.1 0) + 1) then 10 else ((s0.1 0) + 1)).toInt ∧ (if 10 < ((s0.1 0) + 1) then 10 else ((s0.1 0) + 1)).toInt ≤ 10 ∧ 0 ≤ (((s0.1 1) + 1) - ((s0.1 1) + 1) / 10 * 10).toInt ∧ (((s0.1 1) + 1) - ((s0.1 1) + 1) / 10 * 10).toInt ≤ 9
    omega, hP⟩
  refine ⟨vi (by omega) (by omega), ?_⟩
  split
  · exact wq_X0_copyAll fr_bi h1 (fun u hu => k _ (nn _ (ob_up h0.2 (ob_some hu))))
  · rename_i B hB
    obtain ⟨R2, W2, hb⟩ := h0.2 _ B hB
    exact wq_X0_copyAll hb h1 (fun u hu => k _ (nn _ (ob_up h0.2 (ob_some hu))))
theorem wq_X3_pop {post : Int32 → Pa → Bd → Prop} {s0 : Pa} {s1 : Bd} {R W : Int} (h0 : pa s0) (h1 : bi R W s1) (k : ∀ (r : Int32) (ua : Pa) (ub : Bd) (R4 W4 : Int), pa ua → bi R4 W4 ub → post r ua ub) : wp_X3_pop post s0 s1 := by
  unfold wp_X3_pop
  have d := h0.1
  have e0 : (0 : Int32).toInt = 0 := rfl
  have e1 : (1 : Int32).toInt = 1 := rfl
  have e10 : (10 : Int32).toInt = 10 := rfl
  have a1 := tq_add (s0.1 1) 10
  have a2 := tq_sub (s0.1 1 + 10) 1
  have a5 := tq_sub (s0.1 0) 1
  have a3 := rem10 (x := s0.1 1 + 10 - 1) (by omega)
  refine ⟨fun c => ?_, fun c => k _ _ _ R W h0 h1⟩
  have c2 := q_neq c
  have nn : pa ((va_up (va_up s0.1 0 ((s0.1 0) - 1)) 1 ((((s0.1 1) + 10) - 1) - (((s0.1 1) + 10) - 1) / 10 * 10)), s0.2) := ⟨by
    show 0 ≤ ((s0.1 0) - 1).toInt ∧ ((s0.1 0) - 1).toInt ≤ 10 ∧ 0 ≤ ((((s0.1 1) + 10) - 1) - (((s0.1 1) + 10) - 1) / 10 * 10).toInt ∧ ((((s0.1 1) + 10) - 1) - (((s0.1 1) + 10) - 1) / 10 * 10).toInt ≤ 9
    omega, h0.2⟩
  refine ⟨vi (by omega) (by omega), ?_⟩
  split
  · exact k _ _ _ R W nn h1
  · rename_i B hB
    obtain ⟨R2, W2, hb⟩ := h0.2 _ B hB
    exact wq_X0_copyAll h1 hb (fun u hu => k _ _ _ R2 W2 nn hu)
theorem wq_X6_row {post : Int32 → Tp → Bd → Pa → Prop} {s1 : Tp} {s2 : Bd} {s6 : Pa} {x1 : Int32} {N R W : Int} (h4031 : tz (N) s1) (h4032 : bi (R) (W) s2) (h4033 : pa s6) (k : ∀ (r : Int32) (ua : Tp) (ub : Bd) (uc : Pa), tz ((0 : Int)) ua → bi (R) (W) ub → pa uc → post r ua ub uc) : wp_X6_row post s1 s2 s6 x1 := by
  unfold wp_X6_row
  have := h4031.1
  have := h4031.2
  have := h4032.1
  have := h4032.2.1
  have := h4032.2.2.1
  have := h4032.2.2.2.1
  have := h4032.2.2.2.2.2.2.2.2.2
  have := h4033.1
  refine wq_X6_whyNotRow h4031 h4032 (fun r_1 q4034 => ?_)
  refine ⟨fun c4035 => ?_, fun c4036 => ?_⟩
  · replace c4035 := q_neq c4035
    rw [li_0] at c4035
    have p4037 : (0 : Int32).toInt = (0 : Int) := by (have := li_0; omega)
    have p4038 : 0 ≤ (0 : Int) ∧ (0 : Int) ≤ 400 := by omega
    have B4039 : tz ((0 : Int)) ((va_up s1.1 0 0), s1.2) := ⟨p4037, p4038⟩
    exact k _ _ _ _ B4039 h4032 h4033
  · replace c4036 := q_eq c4036
    rw [li_0] at c4036
    refine wq_X3_push h4033 h4032 (fun s_6 q4040 => ?_)
    have := q4040.1
    have p4041 : 0 ≤ (x1).toInt ∧ (x1).toInt < R := by omega
    refine wq_X0_wantSigns h4032 h4031 p4041 (fun r_10 u_11 q4042 => ?_)
    have := q4042.1
    have := q4042.2.1
    have := q4042.2.2.1
    have := q4042.2.2.2.2.2.2.2.2.2
    have p4043 : (0 : Int32).toInt = (0 : Int) := by (have := li_0; omega)
    have p4044 : 0 ≤ (0 : Int) ∧ (0 : Int) ≤ 400 := by omega
    have B4045 : tz ((0 : Int)) ((va_up s1.1 0 0), s1.2) := ⟨p4043, p4044⟩
    exact k _ _ _ _ B4045 q4042 q4040
theorem wq_X6_scroll {post : Int32 → Tp → Bd → Pa → Prop} {s1 : Tp} {s2 : Bd} {s6 : Pa} {N R W : Int} (h4046 : tz (N) s1) (h4047 : bi (R) (W) s2) (h4048 : pa s6) (k : ∀ (r : Int32) (ua : Tp) (ub : Bd) (uc : Pa), tz ((0 : Int)) ua → bi (R) (W) ub → pa uc → post r ua ub uc) : wp_X6_scroll post s1 s2 s6 := by
  unfold wp_X6_scroll
  have := h4046.1
  have := h4046.2
  have := h4047.1
  have := h4047.2.1
  have := h4047.2.2.1
  have := h4047.2.2.2.1
  have := h4047.2.2.2.2.2.2.2.2.2
  have := h4048.1
  refine wq_X6_whyNotRow h4046 h4047 (fun r_1 q4049 => ?_)
  have e4050 := tq_subr li_1 (s2.1 0)
  try rw [Int.emod_eq_of_lt (show 0 ≤ (s2.1 0).toInt - 1 + 2147483648 by omega) (show (s2.1 0).toInt - 1 + 2147483648 < 4294967296 by omega)] at e4050
  refine ⟨fun c4051 => ?_, fun c4052 => ?_⟩
  · replace c4051 := q_neq c4051
    rw [li_0] at c4051
    have p4053 : (0 : Int32).toInt = (0 : Int) := by (have := li_0; omega)
    have p4054 : 0 ≤ (0 : Int) ∧ (0 : Int) ≤ 400 := by omega
    have B4055 : tz ((0 : Int)) ((va_up s1.1 0 0), s1.2) := ⟨p4053, p4054⟩
    exact k _ _ _ _ B4055 h4047 h4048
  · replace c4052 := q_eq c4052
    rw [li_0] at c4052
    refine wq_X3_push h4048 h4047 (fun s_6 q4056 => ?_)
    have := q4056.1
    have p4057 : 1 ≤ R := by omega
    refine wq_X0_scrollUp h4047 h4046 p4057 (fun r_10 u_11 q4058 => ?_)
    have := q4058.1
    have := q4058.2.1
    have := q4058.2.2.1
    have := q4058.2.2.2.2.2.2.2.2.2
    have p4059 : (0 : Int32).toInt = (0 : Int) := by (have := li_0; omega)
    have p4060 : 0 ≤ (0 : Int) ∧ (0 : Int) ≤ 400 := by omega
    have B4061 : tz ((0 : Int)) ((va_up s1.1 0 0), s1.2) := ⟨p4059, p4060⟩
    exact k _ _ _ _ B4061 q4058 q4056
theorem wq_X6_tick {post : Int32 → Bd → Mo → Pa → Prop} {s2 : Bd} {s4 : Mo} {s6 : Pa} {x1 : Int32} {R W : Int} (h4062 : bi (R) (W) s2) (h4063 : mo s4) (h4064 : pa s6) (k : ∀ (r : Int32) (ua : Bd) (ub : Mo) (uc : Pa), bi (R) (W) ua → mo ub → pa uc → post r ua ub uc) : wp_X6_tick post s2 s4 s6 x1 := by
  unfold wp_X6_tick
  have := h4062.1
  have := h4062.2.1
  have := h4062.2.2.1
  have := h4062.2.2.2.1
  have := h4062.2.2.2.2.2.2.2.2.2
  have := h4063.1
  have := h4064.1
  refine wq_X0_isThere h4062 (fun r_1 q4065 => ?_)
  refine ⟨fun c4066 => ?_, fun c4067 => ?_⟩
  · replace c4066 := q_eq c4066
    rw [li_0] at c4066
    exact k _ _ _ _ h4062 h4063 h4064
  · replace c4067 := q_neq c4067
    rw [li_0] at c4067
    refine ⟨fun c4068 => ?_, fun c4069 => ?_⟩
    · replace c4068 := q_lt c4068
      rw [li_1] at c4068
      exact k _ _ _ _ h4062 h4063 h4064
    · replace c4069 := q_nlt c4069
      rw [li_1] at c4069
      refine ⟨fun c4070 => ?_, fun c4071 => ?_⟩
      · replace c4070 := q_le c4070
        rw [li_99] at c4070
        refine wq_X3_push h4064 h4062 (fun s_8 q4072 => ?_)
        have := q4072.1
        have p4073 : 0 ≤ (x1).toInt ∧ (x1).toInt ≤ 9999 := by omega
        refine wq_X2_turn h4063 h4062 p4073 (fun u_13a u_13b q4074 q4075 => ?_)
        have := q4074.1
        have := q4075.1
        have := q4075.2.1
        have := q4075.2.2.1
        have := q4075.2.2.2.2.2.2.2.2.2
        exact k _ _ _ _ q4075 q4074 q4072
      · replace c4071 := q_nle c4071
        rw [li_99] at c4071
        exact k _ _ _ _ h4062 h4063 h4064
theorem wq_X6_settle {post : Int32 → Bd → Mo → Pa → Prop} {s2 : Bd} {s4 : Mo} {s6 : Pa} {R W : Int} (h4076 : bi (R) (W) s2) (h4077 : mo s4) (h4078 : pa s6) (k : ∀ (r : Int32) (ua : Bd) (ub : Mo) (uc : Pa), bi (R) (W) ua → mo ub → pa uc → post r ua ub uc) : wp_X6_settle post s2 s4 s6 := by
  unfold wp_X6_settle
  have := h4076.1
  have := h4076.2.1
  have := h4076.2.2.1
  have := h4076.2.2.2.1
  have := h4076.2.2.2.2.2.2.2.2.2
  have := h4077.1
  have := h4078.1
  refine wq_X0_isThere h4076 (fun r_1 q4079 => ?_)
  refine ⟨fun c4080 => ?_, fun c4081 => ?_⟩
  · replace c4080 := q_neq c4080
    rw [li_0] at c4080
    refine wq_X2_choose h4077 h4076 (fun u_5 q4082 => ?_)
    have := q4082.1
    refine ⟨fun c4083 => ?_, fun c4084 => ?_⟩
    · replace c4083 := q_neq c4083
      rw [li_0] at c4083
      refine wq_X3_push h4078 h4076 (fun s_9 q4085 => ?_)
      have := q4085.1
      have p4086 : 0 ≤ ((9999 : Int32)).toInt ∧ ((9999 : Int32)).toInt ≤ 9999 := by (have := li_9999; omega)
      refine wq_X2_turn q4082 h4076 p4086 (fun u_14a u_14b q4087 q4088 => ?_)
      have := q4087.1
      have := q4088.1
      have := q4088.2.1
      have := q4088.2.2.1
      have := q4088.2.2.2.2.2.2.2.2.2
      exact k _ _ _ _ q4088 q4087 q4085
    · replace c4084 := q_eq c4084
      rw [li_0] at c4084
      exact k _ _ _ _ h4076 q4082 h4078
  · replace c4081 := q_eq c4081
    rw [li_0] at c4081
    exact k _ _ _ _ h4076 h4077 h4078
theorem wq_X6_lose {post : Int32 → Bd → Pa → Prop} {s2 : Bd} {s6 : Pa} {x1 : Int32} {x2 : Int32} {R W : Int} (h4089 : bi (R) (W) s2) (h4090 : pa s6) (k : ∀ (r : Int32) (ua : Bd) (ub : Pa), bi (R) (W) ua → pa ub → post r ua ub) : wp_X6_lose post s2 s6 x1 x2 := by
  unfold wp_X6_lose
  have := h4089.1
  have := h4089.2.1
  have := h4089.2.2.1
  have := h4089.2.2.2.1
  have := h4089.2.2.2.2.2.2.2.2.2
  have := h4090.1
  refine wq_X0_hasCell h4089 (fun r_1 q4091 => ?_)
  refine ⟨fun c4092 => ?_, fun c4093 => ?_⟩
  · replace c4092 := q_eq c4092
    rw [li_0] at c4092
    exact k _ _ _ h4089 h4090
  · replace c4093 := q_neq c4093
    rw [li_0] at c4093
    refine ⟨fun c4094 => ?_, fun c4095 => ?_⟩
    · replace c4094 := q_lt c4094
      rw [li_0] at c4094
      exact k _ _ _ h4089 h4090
    · replace c4095 := q_nlt c4095
      rw [li_0] at c4095
      refine ⟨fun c4096 => ?_, fun c4097 => ?_⟩
      · replace c4096 := q_le c4096
        rw [li_9] at c4096
        have v4098 : vp_in x1 40 := vi (by omega) (by omega)
        refine ⟨v4098, ?_⟩
        refine ⟨fun c4099 => ?_, fun c4100 => ?_⟩
        · replace c4099 := q_neq c4099
          refine wq_X3_push h4090 h4089 (fun s_10 q4101 => ?_)
          have := q4101.1
          refine wq_X0_setLost h4089 (fun u_15 q4102 => ?_)
          have := q4102.1
          have := q4102.2.1
          have := q4102.2.2.1
          have := q4102.2.2.2.2.2.2.2.2.2
          exact k _ _ _ q4102 q4101
        · replace c4100 := q_eq c4100
          exact k _ _ _ h4089 h4090
      · replace c4097 := q_nle c4097
        rw [li_9] at c4097
        exact k _ _ _ h4089 h4090
theorem wq_X6_wear {post : Int32 → Bd → Pa → Prop} {s2 : Bd} {s6 : Pa} {x1 : Int32} {x2 : Int32} {R W : Int} (h4103 : bi (R) (W) s2) (h4104 : pa s6) (k : ∀ (r : Int32) (ua : Bd) (ub : Pa), bi (R) (W) ua → pa ub → post r ua ub) : wp_X6_wear post s2 s6 x1 x2 := by
  unfold wp_X6_wear
  have := h4103.1
  have := h4103.2.1
  have := h4103.2.2.1
  have := h4103.2.2.2.1
  have := h4103.2.2.2.2.2.2.2.2.2
  have := h4104.1
  refine wq_X0_hasFlap h4103 (fun r_1 q4105 => ?_)
  refine ⟨fun c4106 => ?_, fun c4107 => ?_⟩
  · replace c4106 := q_eq c4106
    rw [li_0] at c4106
    exact k _ _ _ h4103 h4104
  · replace c4107 := q_neq c4107
    rw [li_0] at c4107
    refine ⟨fun c4108 => ?_, fun c4109 => ?_⟩
    · replace c4108 := q_neq c4108
      rw [li_0] at c4108
      have p4110 : 0 ≤ (x1).toInt ∧ (x1).toInt < 40 := by omega
      refine wq_X0_isWorn h4103 p4110 (fun r_5 q4111 => ?_)
      refine ⟨fun c4112 => ?_, fun c4113 => ?_⟩
      · replace c4112 := q_eq c4112
        rw [li_0] at c4112
        refine wq_X3_push h4104 h4103 (fun s_10 q4114 => ?_)
        have := q4114.1
        have p4115 : 0 ≤ (x1).toInt ∧ (x1).toInt < 40 := by omega
        refine wq_X0_wearFlap h4103 p4115 (fun u_15 q4116 => ?_)
        have := q4116.1
        have := q4116.2.1
        have := q4116.2.2.1
        have := q4116.2.2.2.2.2.2.2.2.2
        have p4117 : 0 ≤ (x1).toInt ∧ (x1).toInt < 40 := by omega
        refine wq_X0_wornCount q4116 p4117 (fun r_16 => ?_)
        exact k _ _ _ q4116 q4114
      · replace c4113 := q_neq c4113
        rw [li_0] at c4113
        exact k _ _ _ h4103 h4104
    · replace c4109 := q_eq c4109
      rw [li_0] at c4109
      exact k _ _ _ h4103 h4104
theorem wq_X6_mend {post : Int32 → Bd → Pa → Prop} {s2 : Bd} {s6 : Pa} {x1 : Int32} {x2 : Int32} {R W : Int} (h4118 : bi (R) (W) s2) (h4119 : pa s6) (k : ∀ (r : Int32) (ua : Bd) (ub : Pa), bi (R) (W) ua → pa ub → post r ua ub) : wp_X6_mend post s2 s6 x1 x2 := by
  unfold wp_X6_mend
  have := h4118.1
  have := h4118.2.1
  have := h4118.2.2.1
  have := h4118.2.2.2.1
  have := h4118.2.2.2.2.2.2.2.2.2
  have := h4119.1
  refine wq_X0_hasFlap h4118 (fun r_1 q4120 => ?_)
  refine ⟨fun c4121 => ?_, fun c4122 => ?_⟩
  · replace c4121 := q_neq c4121
    rw [li_0] at c4121
    have p4123 : 0 ≤ (x1).toInt ∧ (x1).toInt < 40 := by omega
    refine wq_X0_isWorn h4118 p4123 (fun r_4 q4124 => ?_)
    refine ⟨fun c4125 => ?_, fun c4126 => ?_⟩
    · replace c4125 := q_neq c4125
      rw [li_0] at c4125
      refine wq_X3_push h4119 h4118 (fun s_9 q4127 => ?_)
      have := q4127.1
      have p4128 : 0 ≤ (x1).toInt ∧ (x1).toInt < 40 := by omega
      refine wq_X0_mendFlap h4118 p4128 (fun u_14 q4129 => ?_)
      have := q4129.1
      have := q4129.2.1
      have := q4129.2.2.1
      have := q4129.2.2.2.2.2.2.2.2.2
      have p4130 : 0 ≤ (x1).toInt ∧ (x1).toInt < 40 := by omega
      refine wq_X0_wornCount q4129 p4130 (fun r_15 => ?_)
      exact k _ _ _ q4129 q4127
    · replace c4126 := q_eq c4126
      rw [li_0] at c4126
      exact k _ _ _ h4118 h4119
  · replace c4122 := q_eq c4122
    rw [li_0] at c4122
    exact k _ _ _ h4118 h4119
theorem wq_X6_limit {post : Int32 → Bd → Pa → Prop} {s2 : Bd} {s6 : Pa} {x1 : Int32} {R W : Int} (h4131 : bi (R) (W) s2) (h4132 : pa s6) (k : ∀ (r : Int32) (ua : Bd) (ub : Pa), bi (R) (W) ua → pa ub → post r ua ub) : wp_X6_limit post s2 s6 x1 := by
  unfold wp_X6_limit
  have := h4131.1
  have := h4131.2.1
  have := h4131.2.2.1
  have := h4131.2.2.2.1
  have := h4131.2.2.2.2.2.2.2.2.2
  have := h4132.1
  refine wq_X0_isThere h4131 (fun r_1 q4133 => ?_)
  refine ⟨fun c4134 => ?_, fun c4135 => ?_⟩
  · replace c4134 := q_eq c4134
    rw [li_0] at c4134
    exact k _ _ _ h4131 h4132
  · replace c4135 := q_neq c4135
    rw [li_0] at c4135
    refine ⟨fun c4136 => ?_, fun c4137 => ?_⟩
    · replace c4136 := q_lt c4136
      rw [li_1] at c4136
      exact k _ _ _ h4131 h4132
    · replace c4137 := q_nlt c4137
      rw [li_1] at c4137
      refine ⟨fun c4138 => ?_, fun c4139 => ?_⟩
      · replace c4138 := q_le c4138
        rw [li_99] at c4138
        refine ⟨fun c4140 => ?_, fun c4141 => ?_⟩
        · replace c4140 := q_neq c4140
          refine wq_X3_push h4132 h4131 (fun s_9 q4142 => ?_)
          have := q4142.1
          have p4143 : (s2.1 0).toInt = R := by omega
          have p4144 : (s2.1 1).toInt = W := by omega
          have p4145 : 0 ≤ (s2.1 3).toInt ∧ (s2.1 3).toInt ≤ 4 := by omega
          have p4146 : 0 ≤ R ∧ R ≤ 6 ∧ 0 ≤ W ∧ W ≤ 10 ∧ 0 ≤ R * W ∧ R * W ≤ 40 := by omega
          have p4147 : ar 4 (0) (40) (s2.2.1 1) := h4131.2.2.2.2.1
          have p4148 : ar 40 (0) (3) (s2.2.1 3) := h4131.2.2.2.2.2.1
          have p4149 : ar 40 (0) (39) (s2.2.1 4) := h4131.2.2.2.2.2.2.1
          have p4150 : ar 40 (0) (39) (s2.2.1 5) := h4131.2.2.2.2.2.2.2.1
          have p4151 : ar 40 (0) (39) (s2.2.1 6) := h4131.2.2.2.2.2.2.2.2.1
          have p4152 : s2.2.2.2.1 ≤ 6400 := by omega
          have B4153 : bi (R) (W) ((va_up s2.1 2 x1), s2.2.1, s2.2.2.1, s2.2.2.2.1, s2.2.2.2.2) := ⟨p4143, p4144, p4145, p4146, p4147, p4148, p4149, p4150, p4151, p4152⟩
          exact k _ _ _ B4153 q4142
        · replace c4141 := q_eq c4141
          exact k _ _ _ h4131 h4132
      · replace c4139 := q_nle c4139
        rw [li_99] at c4139
        exact k _ _ _ h4131 h4132
