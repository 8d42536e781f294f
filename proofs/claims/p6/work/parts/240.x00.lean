theorem ln_0 : ln 0 = 5 := rfl
theorem ln_1 : ln 1 = 5 := rfl
theorem ln_2 : ln 2 = 4 := rfl
theorem ln_3 : ln 3 = 5 := rfl
theorem ln_4 : ln 4 = 4 := rfl
theorem ln_5 : ln 5 = 3 := rfl
theorem ln_6 : ln 6 = 4 := rfl
theorem ln_7 : ln 7 = 6 := rfl
theorem ln_8 : ln 8 = 4 := rfl
theorem ln_9 : ln 9 = 4 := rfl
theorem ln_10 : ln 10 = 6 := rfl
theorem ln_11 : ln 11 = 5 := rfl
theorem wq_X7_goesTimes_1 {post : Int32 → Md → Prop} {s0 : Md} {x1 : Int32} {N R W D : Int} (h : mb N R W D s0) (hD : 0 < D) (h6 : 0 ≤ (s0.1 6).toInt ∧ (s0.1 6).toInt + 5 ≤ N) (h14 : (s0.1 14).toInt = 3) (k : ∀ (r : Int32) (u : Md), mb N R W D u → ie [1, 2, 6, 7, 8, 9, 10, 11, 12, 13, 14] u.1 s0.1 → (r.toInt = 0 ∨ r.toInt = 1) → (s0.1 6).toInt ≤ (u.1 6).toInt ∧ (u.1 6).toInt ≤ N → (r.toInt = 0 ∨ (u.1 14).toInt = (s0.1 14).toInt) → post r u) : wp_X7_goesTimes_1 post s0 x1 := by
  unfold wp_X7_goesTimes_1
  have e0 : (0 : Int32).toInt = 0 := rfl
  have e3 : (3 : Int32).toInt = 3 := rfl
  have e5 : (5 : Int32).toInt = 5 := rfl
  have e40 : (40 : Int32).toInt = 40 := rfl
  have pn := h.2.2.1
  have s6 := nw (tq_addr e5 (s0.1 6)) (by omega)
  have t6 : (((va_up s0.1 6 ((s0.1 6) + 5)), s0.2.1, s0.2.2.1, s0.2.2.2) : Md).1 6 = s0.1 6 + 5 := rfl
  refine wq_X7_readsNumber (N := N) (R := R) (W := W) (D := D) (mb_i h rfl rfl rfl) (by rw [t6]; omega) (fun r1 u2 h2 j2 b2 s2 n2 x2 => ?_)
  rw [t6] at s2
  have i2 : ie [1, 2, 6, 7, 8, 9, 10, 11, 12, 13, 14] u2.1 s0.1 := ie_tr j2 (by decide) (ie_up (ie_refl _ _) (by decide))
  refine ⟨fun c1 => ?_, fun c1 => k _ _ h2 i2 (Or.inl e0) (by omega) (Or.inl e0)⟩
  refine wq_X7_nextByte h2 (by omega) (fun r4 u5 h5 j5 b5 d5 x5 y5 => ?_)
  have i5 : ie [1, 2, 6, 7, 8, 9, 10, 11, 12, 13, 14] u5.1 s0.1 := ie_tr j5 (by decide) i2
  refine ⟨fun c4 => ?_, fun c4 => ⟨fun c5 => ?_, fun c5 => ?_⟩⟩
  · refine wq_X7_mustByte h5 (by omega) (by omega) (fun r7 u8 h8 j8 b8 d8 x8 y8 => ⟨fun c7 => ?_, fun c7 => k _ _ h8 (ie_tr j8 (by decide) i5) (Or.inl e0) (by omega) (Or.inl e0)⟩)
    have z := y8 y5.2.1 (fun e => c4 (y5.1.trans e))
    exact absurd (q_neq c7) (by omega)
  · exfalso
    have a := ie_i j5 14 (by decide)
    have b := ie_i j2 14 (by decide)
    have b' : (u2.1 14).toInt = (s0.1 14).toInt := b
    exact (q_neq c5) (by omega)
  · exact wq_X7_fails h5 (fun r v hv jv a b => ⟨nb_b (by omega), k _ _ hv (ie_tr jv (by decide) i5) (by omega) (by have := ie_i jv 6 (by decide); omega) (Or.inl (by omega))⟩)
theorem wq_X7_goesOne_1 {post : Int32 → Md → Prop} {s0 : Md} {x1 : Int32} {N R W D : Int} (h102997 : mb (N) (R) (W) (D) s0) (h102998 : 0 < D) (h102999 : 0 ≤ (s0.1 6).toInt ∧ (s0.1 6).toInt ≤ N) (h103000 : (s0.1 14).toInt = 3) (k : ∀ (r : Int32) (u : Md), mb (N) (R) (W) (D) u → ie [1, 2, 6, 7, 8, 9, 10, 11, 12, 13, 14] u.1 s0.1 → (r).toInt = 0 ∨ (r).toInt = 1 → (s0.1 6).toInt ≤ (u.1 6).toInt ∧ (u.1 6).toInt ≤ N → (r).toInt = 0 ∨ (u.1 14).toInt = (s0.1 14).toInt → post r u) : wp_X7_goesOne_1 post s0 x1 := by
  unfold wp_X7_goesOne_1
  have := h102997.1
  have := h102997.2.1
  have := h102997.2.2.1
  have := h102997.2.2.2.1
  have p103001 : 0 ≤ (s0.1 6).toInt ∧ (s0.1 6).toInt ≤ N := by omega
  have p103002 : 1 ≤ ln 5 ∧ ln 5 ≤ 9 := by first | assumption | decide
  refine wq_X7_isWord h102997 p103001 p103002 (fun r_1 u_2 q103003 q103004 q103005 q103006 q103007 q103008 q103009 => ?_)
  have := q103003.1
  have := q103003.2.1
  have := ln_5
  refine ⟨fun c103010 => ?_, fun c103011 => ?_⟩
  · replace c103010 := q_eq c103010
    rw [li_0] at c103010
    have p103012 : 0 ≤ (u_2.1 6).toInt ∧ (u_2.1 6).toInt ≤ N := by omega
    have p103013 : 1 ≤ ln 7 ∧ ln 7 ≤ 9 := by first | assumption | decide
    refine wq_X7_isWord q103003 p103012 p103013 (fun r_4 u_5 q103014 q103015 q103016 q103017 q103018 q103019 q103020 => ?_)
    have := q103014.1
    have := q103014.2.1
    have := ln_7
    refine ⟨fun c103021 => ?_, fun c103022 => ?_⟩
    · replace c103021 := q_eq c103021
      rw [li_0] at c103021
      have p103023 : 0 ≤ (u_5.1 6).toInt ∧ (u_5.1 6).toInt ≤ N := by omega
      have p103024 : 1 ≤ ln 8 ∧ ln 8 ≤ 9 := by first | assumption | decide
      refine wq_X7_isWord q103014 p103023 p103024 (fun r_7 u_8 q103025 q103026 q103027 q103028 q103029 q103030 q103031 => ?_)
      have := q103025.1
      have := q103025.2.1
      have := ln_8
      refine ⟨fun c103032 => ?_, fun c103033 => ?_⟩
      · replace c103032 := q_eq c103032
        rw [li_0] at c103032
        have p103034 : 0 ≤ (u_8.1 6).toInt ∧ (u_8.1 6).toInt ≤ N := by omega
        have p103035 : 1 ≤ ln 9 ∧ ln 9 ≤ 9 := by first | assumption | decide
        refine wq_X7_isWord q103025 p103034 p103035 (fun r_10 u_11 q103036 q103037 q103038 q103039 q103040 q103041 q103042 => ?_)
        have := q103036.1
        have := q103036.2.1
        have := ln_9
        refine ⟨fun c103043 => ?_, fun c103044 => ?_⟩
        · replace c103043 := q_eq c103043
          rw [li_0] at c103043
          have p103045 : 0 ≤ (u_11.1 6).toInt ∧ (u_11.1 6).toInt ≤ N := by omega
          have p103046 : 1 ≤ ln 10 ∧ ln 10 ≤ 9 := by first | assumption | decide
          refine wq_X7_isWord q103036 p103045 p103046 (fun r_13 u_14 q103047 q103048 q103049 q103050 q103051 q103052 q103053 => ?_)
          have := q103047.1
          have := q103047.2.1
          have := ln_10
          refine ⟨fun c103054 => ?_, fun c103055 => ?_⟩
          · replace c103054 := q_eq c103054
            rw [li_0] at c103054
            have p103056 : 0 ≤ (u_14.1 6).toInt ∧ (u_14.1 6).toInt ≤ N := by omega
            have p103057 : 1 ≤ ln 6 ∧ ln 6 ≤ 9 := by first | assumption | decide
            refine wq_X7_isWord q103047 p103056 p103057 (fun r_16 u_17 q103058 q103059 q103060 q103061 q103062 q103063 q103064 => ?_)
            have := q103058.1
            have := q103058.2.1
            have := ln_6
            refine ⟨fun c103065 => ?_, fun c103066 => ?_⟩
            · replace c103065 := q_eq c103065
              rw [li_0] at c103065
              have p103067 : 0 ≤ (u_17.1 6).toInt ∧ (u_17.1 6).toInt ≤ N := by omega
              have p103068 : 1 ≤ ln 11 ∧ ln 11 ≤ 9 := by first | assumption | decide
              refine wq_X7_isWord q103058 p103067 p103068 (fun r_19 u_20 q103069 q103070 q103071 q103072 q103073 q103074 q103075 => ?_)
              have := q103069.1
              have := q103069.2.1
              have := ln_11
              refine ⟨fun c103076 => ?_, fun c103077 => ?_⟩
              · replace c103076 := q_eq c103076
                rw [li_0] at c103076
                refine wq_X7_fails q103069 (fun r_22 u_23 q103078 q103079 q103080 q103081 => ?_)
                have := q103078.1
                have := q103078.2.1
                refine ⟨(nb_b (by omega)), ?_⟩
                have p103082 : ie [1, 2, 6, 7, 8, 9, 10, 11, 12, 13, 14] u_23.1 s0.1 := (ie_tr q103079 (by decide) (ie_tr q103070 (by decide) (ie_tr q103059 (by decide) (ie_tr q103048 (by decide) (ie_tr q103037 (by decide) (ie_tr q103026 (by decide) (ie_tr q103015 (by decide) (ie_tr q103004 (by decide) (ie_refl _ _)))))))))
                have p103083 : (r_22).toInt = 0 ∨ (r_22).toInt = 1 := by omega
                have : (u_23.1 6).toInt = (u_20.1 6).toInt := ie_i q103079 6 (by decide)
                have p103084 : (s0.1 6).toInt ≤ (u_23.1 6).toInt ∧ (u_23.1 6).toInt ≤ N := by omega
                have : (u_23.1 14).toInt = (u_20.1 14).toInt := ie_i q103079 14 (by decide)
                have : (u_20.1 14).toInt = (u_17.1 14).toInt := ie_i q103070 14 (by decide)
                have : (u_17.1 14).toInt = (u_14.1 14).toInt := ie_i q103059 14 (by decide)
                have : (u_14.1 14).toInt = (u_11.1 14).toInt := ie_i q103048 14 (by decide)
                have : (u_11.1 14).toInt = (u_8.1 14).toInt := ie_i q103037 14 (by decide)
                have : (u_8.1 14).toInt = (u_5.1 14).toInt := ie_i q103026 14 (by decide)
                have : (u_5.1 14).toInt = (u_2.1 14).toInt := ie_i q103015 14 (by decide)
                have : (u_2.1 14).toInt = (s0.1 14).toInt := ie_i q103004 14 (by decide)
                have p103085 : (r_22).toInt = 0 ∨ (u_23.1 14).toInt = (s0.1 14).toInt := by omega
                exact k _ _ q103078 p103082 p103083 p103084 p103085
              · replace c103077 := q_neq c103077
                rw [li_0] at c103077
                have p103086 : 0 < D := by omega
                have p103087 : 0 ≤ (u_20.1 6).toInt ∧ (u_20.1 6).toInt + 5 ≤ N := by omega
                have : (u_20.1 14).toInt = (u_17.1 14).toInt := ie_i q103070 14 (by decide)
                have : (u_17.1 14).toInt = (u_14.1 14).toInt := ie_i q103059 14 (by decide)
                have : (u_14.1 14).toInt = (u_11.1 14).toInt := ie_i q103048 14 (by decide)
                have : (u_11.1 14).toInt = (u_8.1 14).toInt := ie_i q103037 14 (by decide)
                have : (u_8.1 14).toInt = (u_5.1 14).toInt := ie_i q103026 14 (by decide)
                have : (u_5.1 14).toInt = (u_2.1 14).toInt := ie_i q103015 14 (by decide)
                have : (u_2.1 14).toInt = (s0.1 14).toInt := ie_i q103004 14 (by decide)
                have p103088 : (u_20.1 14).toInt = 3 := by omega
                refine wq_X7_goesTimes_1 q103069 p103086 p103087 p103088 (fun r_25 u_26 q103089 q103090 q103091 q103092 q103093 => ?_)
                have := q103089.1
                have := q103089.2.1
                refine ⟨(nb_b (by omega)), ?_⟩
                have p103094 : ie [1, 2, 6, 7, 8, 9, 10, 11, 12, 13, 14] u_26.1 s0.1 := (ie_tr q103090 (by decide) (ie_tr q103070 (by decide) (ie_tr q103059 (by decide) (ie_tr q103048 (by decide) (ie_tr q103037 (by decide) (ie_tr q103026 (by decide) (ie_tr q103015 (by decide) (ie_tr q103004 (by decide) (ie_refl _ _)))))))))
                have p103095 : (r_25).toInt = 0 ∨ (r_25).toInt = 1 := by omega
                have p103096 : (s0.1 6).toInt ≤ (u_26.1 6).toInt ∧ (u_26.1 6).toInt ≤ N := by omega
                have p103097 : (r_25).toInt = 0 ∨ (u_26.1 14).toInt = (s0.1 14).toInt := by omega
                exact k _ _ q103089 p103094 p103095 p103096 p103097
            · replace c103066 := q_neq c103066
              rw [li_0] at c103066
              have p103098 : 0 < D := by omega
              have p103099 : 0 ≤ (u_17.1 6).toInt ∧ (u_17.1 6).toInt + 4 ≤ N := by omega
              refine wq_X7_goesLose q103058 p103098 p103099 (fun r_28 u_29 q103100 q103101 q103102 q103103 => ?_)
              have := q103100.1
              have := q103100.2.1
              refine ⟨(nb_b (by omega)), ?_⟩
              have p103104 : ie [1, 2, 6, 7, 8, 9, 10, 11, 12, 13, 14] u_29.1 s0.1 := (ie_tr q103101 (by decide) (ie_tr q103059 (by decide) (ie_tr q103048 (by decide) (ie_tr q103037 (by decide) (ie_tr q103026 (by decide) (ie_tr q103015 (by decide) (ie_tr q103004 (by decide) (ie_refl _ _))))))))
              have p103105 : (r_28).toInt = 0 ∨ (r_28).toInt = 1 := by omega
              have p103106 : (s0.1 6).toInt ≤ (u_29.1 6).toInt ∧ (u_29.1 6).toInt ≤ N := by omega
              have : (u_29.1 14).toInt = (u_17.1 14).toInt := ie_i q103101 14 (by decide)
              have : (u_17.1 14).toInt = (u_14.1 14).toInt := ie_i q103059 14 (by decide)
              have : (u_14.1 14).toInt = (u_11.1 14).toInt := ie_i q103048 14 (by decide)
              have : (u_11.1 14).toInt = (u_8.1 14).toInt := ie_i q103037 14 (by decide)
              have : (u_8.1 14).toInt = (u_5.1 14).toInt := ie_i q103026 14 (by decide)
              have : (u_5.1 14).toInt = (u_2.1 14).toInt := ie_i q103015 14 (by decide)
              have : (u_2.1 14).toInt = (s0.1 14).toInt := ie_i q103004 14 (by decide)
              have p103107 : (r_28).toInt = 0 ∨ (u_29.1 14).toInt = (s0.1 14).toInt := by omega
              exact k _ _ q103100 p103104 p103105 p103106 p103107
          · replace c103055 := q_neq c103055
            rw [li_0] at c103055
            have p103108 : 0 < D := by omega
            have p103109 : 0 ≤ (u_14.1 6).toInt ∧ (u_14.1 6).toInt + 6 ≤ N := by omega
            refine wq_X7_goesSettle q103047 p103108 p103109 (fun r_31 u_32 q103110 q103111 q103112 q103113 => ?_)
            have := q103110.1
            have := q103110.2.1
            refine ⟨(nb_b (by omega)), ?_⟩
            have p103114 : ie [1, 2, 6, 7, 8, 9, 10, 11, 12, 13, 14] u_32.1 s0.1 := (ie_tr q103111 (by decide) (ie_tr q103048 (by decide) (ie_tr q103037 (by decide) (ie_tr q103026 (by decide) (ie_tr q103015 (by decide) (ie_tr q103004 (by decide) (ie_refl _ _)))))))
            have p103115 : (r_31).toInt = 0 ∨ (r_31).toInt = 1 := by omega
            have p103116 : (s0.1 6).toInt ≤ (u_32.1 6).toInt ∧ (u_32.1 6).toInt ≤ N := by omega
            have : (u_32.1 14).toInt = (u_14.1 14).toInt := ie_i q103111 14 (by decide)
            have : (u_14.1 14).toInt = (u_11.1 14).toInt := ie_i q103048 14 (by decide)
            have : (u_11.1 14).toInt = (u_8.1 14).toInt := ie_i q103037 14 (by decide)
            have : (u_8.1 14).toInt = (u_5.1 14).toInt := ie_i q103026 14 (by decide)
            have : (u_5.1 14).toInt = (u_2.1 14).toInt := ie_i q103015 14 (by decide)
            have : (u_2.1 14).toInt = (s0.1 14).toInt := ie_i q103004 14 (by decide)
            have p103117 : (r_31).toInt = 0 ∨ (u_32.1 14).toInt = (s0.1 14).toInt := by omega
            exact k _ _ q103110 p103114 p103115 p103116 p103117
        · replace c103044 := q_neq c103044
          rw [li_0] at c103044
          have p103118 : 0 < D := by omega
          have p103119 : 0 ≤ (u_11.1 6).toInt ∧ (u_11.1 6).toInt + 4 ≤ N := by omega
          refine wq_X7_goesWait q103036 p103118 p103119 (fun r_34 u_35 q103120 q103121 q103122 q103123 => ?_)
          have := q103120.1
          have := q103120.2.1
          refine ⟨(nb_b (by omega)), ?_⟩
          have p103124 : ie [1, 2, 6, 7, 8, 9, 10, 11, 12, 13, 14] u_35.1 s0.1 := (ie_tr q103121 (by decide) (ie_tr q103037 (by decide) (ie_tr q103026 (by decide) (ie_tr q103015 (by decide) (ie_tr q103004 (by decide) (ie_refl _ _))))))
          have p103125 : (r_34).toInt = 0 ∨ (r_34).toInt = 1 := by omega
          have p103126 : (s0.1 6).toInt ≤ (u_35.1 6).toInt ∧ (u_35.1 6).toInt ≤ N := by omega
          have : (u_35.1 14).toInt = (u_11.1 14).toInt := ie_i q103121 14 (by decide)
          have : (u_11.1 14).toInt = (u_8.1 14).toInt := ie_i q103037 14 (by decide)
          have : (u_8.1 14).toInt = (u_5.1 14).toInt := ie_i q103026 14 (by decide)
          have : (u_5.1 14).toInt = (u_2.1 14).toInt := ie_i q103015 14 (by decide)
          have : (u_2.1 14).toInt = (s0.1 14).toInt := ie_i q103004 14 (by decide)
          have p103127 : (r_34).toInt = 0 ∨ (u_35.1 14).toInt = (s0.1 14).toInt := by omega
          exact k _ _ q103120 p103124 p103125 p103126 p103127
      · replace c103033 := q_neq c103033
        rw [li_0] at c103033
        have p103128 : 0 < D := by omega
        have p103129 : 0 ≤ (u_8.1 6).toInt ∧ (u_8.1 6).toInt + 4 ≤ N := by omega
        refine wq_X7_goesHome q103025 p103128 p103129 (fun r_37 u_38 q103130 q103131 q103132 q103133 => ?_)
        have := q103130.1
        have := q103130.2.1
        refine ⟨(nb_b (by omega)), ?_⟩
        have p103134 : ie [1, 2, 6, 7, 8, 9, 10, 11, 12, 13, 14] u_38.1 s0.1 := (ie_tr q103131 (by decide) (ie_tr q103026 (by decide) (ie_tr q103015 (by decide) (ie_tr q103004 (by decide) (ie_refl _ _)))))
        have p103135 : (r_37).toInt = 0 ∨ (r_37).toInt = 1 := by omega
        have p103136 : (s0.1 6).toInt ≤ (u_38.1 6).toInt ∧ (u_38.1 6).toInt ≤ N := by omega
        have : (u_38.1 14).toInt = (u_8.1 14).toInt := ie_i q103131 14 (by decide)
        have : (u_8.1 14).toInt = (u_5.1 14).toInt := ie_i q103026 14 (by decide)
        have : (u_5.1 14).toInt = (u_2.1 14).toInt := ie_i q103015 14 (by decide)
        have : (u_2.1 14).toInt = (s0.1 14).toInt := ie_i q103004 14 (by decide)
        have p103137 : (r_37).toInt = 0 ∨ (u_38.1 14).toInt = (s0.1 14).toInt := by omega
        exact k _ _ q103130 p103134 p103135 p103136 p103137
    · replace c103022 := q_neq c103022
      rw [li_0] at c103022
      have p103138 : 0 < D := by omega
      have p103139 : 0 ≤ (u_5.1 6).toInt ∧ (u_5.1 6).toInt + 6 ≤ N := by omega
      refine wq_X7_goesScroll q103014 p103138 p103139 (fun r_40 u_41 q103140 q103141 q103142 q103143 => ?_)
      have := q103140.1
      have := q103140.2.1
      refine ⟨(nb_b (by omega)), ?_⟩
      have p103144 : ie [1, 2, 6, 7, 8, 9, 10, 11, 12, 13, 14] u_41.1 s0.1 := (ie_tr q103141 (by decide) (ie_tr q103015 (by decide) (ie_tr q103004 (by decide) (ie_refl _ _))))
      have p103145 : (r_40).toInt = 0 ∨ (r_40).toInt = 1 := by omega
      have p103146 : (s0.1 6).toInt ≤ (u_41.1 6).toInt ∧ (u_41.1 6).toInt ≤ N := by omega
      have : (u_41.1 14).toInt = (u_5.1 14).toInt := ie_i q103141 14 (by decide)
      have : (u_5.1 14).toInt = (u_2.1 14).toInt := ie_i q103015 14 (by decide)
      have : (u_2.1 14).toInt = (s0.1 14).toInt := ie_i q103004 14 (by decide)
      have p103147 : (r_40).toInt = 0 ∨ (u_41.1 14).toInt = (s0.1 14).toInt := by omega
      exact k _ _ q103140 p103144 p103145 p103146 p103147
  · replace c103011 := q_neq c103011
    rw [li_0] at c103011
    have p103148 : 0 < D := by omega
    have p103149 : 0 ≤ (u_2.1 6).toInt ∧ (u_2.1 6).toInt + 3 ≤ N := by omega
    refine wq_X7_goesRow q103003 p103148 p103149 (fun r_43 u_44 q103150 q103151 q103152 q103153 => ?_)
    have := q103150.1
    have := q103150.2.1
    refine ⟨(nb_b (by omega)), ?_⟩
    have p103154 : ie [1, 2, 6, 7, 8, 9, 10, 11, 12, 13, 14] u_44.1 s0.1 := (ie_tr q103151 (by decide) (ie_tr q103004 (by decide) (ie_refl _ _)))
    have p103155 : (r_43).toInt = 0 ∨ (r_43).toInt = 1 := by omega
    have p103156 : (s0.1 6).toInt ≤ (u_44.1 6).toInt ∧ (u_44.1 6).toInt ≤ N := by omega
    have : (u_44.1 14).toInt = (u_2.1 14).toInt := ie_i q103151 14 (by decide)
    have : (u_2.1 14).toInt = (s0.1 14).toInt := ie_i q103004 14 (by decide)
    have p103157 : (r_43).toInt = 0 ∨ (u_44.1 14).toInt = (s0.1 14).toInt := by omega
    exact k _ _ q103150 p103154 p103155 p103156 p103157
theorem wq_X7_goesAll_1_L10 {post : Int32 → Md → Prop} {e27 : Md → Int32 → Prop} {e29 : Md → Int32 → Prop} {D N R W G : Int} {A : Nat → Int32} (h103158 : 0 < D) (ke27 : ∀ (t0 : Md) (z1 : Int32), mb (N) (R) (W) (D) t0 → ie [1, 2, 6, 7, 8, 9, 10, 11, 12, 13, 14] t0.1 A → G ≤ (t0.1 6).toInt ∧ (t0.1 6).toInt ≤ N → e27 t0 z1) (ke29 : ∀ (t0 : Md) (z1 : Int32), mb (N) (R) (W) (D) t0 → ie [1, 2, 6, 7, 8, 9, 10, 11, 12, 13, 14] t0.1 A → (t0.1 14).toInt = 3 → G ≤ (t0.1 6).toInt ∧ (t0.1 6).toInt ≤ N → e29 t0 z1) : ∀ (n : Nat) (t0 : Md) (z1 : Int32), mb (N) (R) (W) (D) t0 → ie [1, 2, 6, 7, 8, 9, 10, 11, 12, 13, 14] t0.1 A → (t0.1 14).toInt = 3 → 0 ≤ G ∧ G ≤ (t0.1 6).toInt ∧ (t0.1 6).toInt ≤ N → N - (t0.1 6).toInt < (n : Int) → wp_X7_goesAll_1_L10 post e27 e29 n t0 z1 := by
  intro n
  induction n with
  | zero =>
    intro t0 z1 i103159 i103160 i103161 i103162 i103163
    have := i103159.1
    have := i103159.2.1
    have := i103159.2.2.1
    have := i103159.2.2.2.1
    exfalso
    omega
  | succ n ih =>
    intro t0 z1 i103159 i103160 i103161 i103162 i103163
    unfold wp_X7_goesAll_1_L10
    have := i103159.1
    have := i103159.2.1
    have := i103159.2.2.1
    have := i103159.2.2.2.1
    have p103164 : 0 ≤ (t0.1 6).toInt ∧ (t0.1 6).toInt ≤ N := by omega
    have p103165 : ¬ ((59 : Int32)).toInt = -1 := by (have := li_59; omega)
    refine wq_X7_takesByte i103159 p103164 p103165 (fun r_4 u_5 q103166 q103167 q103168 q103169 q103170 q103171 => ?_)
    have := q103166.1
    have := q103166.2.1
    refine ⟨fun c103172 => ?_, fun c103173 => ?_⟩
    · replace c103172 := q_eq c103172
      rw [li_0] at c103172
      have p103174 : ie [1, 2, 6, 7, 8, 9, 10, 11, 12, 13, 14] u_5.1 A := (ie_tr q103167 (by decide) (ie_tr i103160 (by decide) (ie_refl _ _)))
      have : (u_5.1 14).toInt = (t0.1 14).toInt := ie_i q103167 14 (by decide)
      have p103175 : (u_5.1 14).toInt = 3 := by omega
      have p103176 : G ≤ (u_5.1 6).toInt ∧ (u_5.1 6).toInt ≤ N := by omega
      exact ke29 _ _ q103166 p103174 p103175 p103176
    · replace c103173 := q_neq c103173
      rw [li_0] at c103173
      have p103177 : 0 < D := by omega
      have p103178 : 0 ≤ (u_5.1 6).toInt ∧ (u_5.1 6).toInt ≤ N := by omega
      have : (u_5.1 14).toInt = (t0.1 14).toInt := ie_i q103167 14 (by decide)
      have p103179 : (u_5.1 14).toInt = 3 := by omega
      refine wq_X7_goesOne_1 q103166 p103177 p103178 p103179 (fun r_7 u_8 q103180 q103181 q103182 q103183 q103184 => ?_)
      have := q103180.1
      have := q103180.2.1
      refine ⟨fun c103185 => ?_, fun c103186 => ?_⟩
      · replace c103185 := q_neq c103185
        rw [li_0] at c103185
        have p103187 : ie [1, 2, 6, 7, 8, 9, 10, 11, 12, 13, 14] u_8.1 A := (ie_tr q103181 (by decide) (ie_tr q103167 (by decide) (ie_tr i103160 (by decide) (ie_refl _ _))))
        have p103188 : (u_8.1 14).toInt = 3 := by omega
        have p103189 : 0 ≤ G ∧ G ≤ (u_8.1 6).toInt ∧ (u_8.1 6).toInt ≤ N := by omega
        have p103190 : N - (u_8.1 6).toInt < ((n : Nat) : Int) := by (omega)
        exact ih _ _ q103180 p103187 p103188 p103189 p103190
      · replace c103186 := q_eq c103186
        rw [li_0] at c103186
        have p103191 : ie [1, 2, 6, 7, 8, 9, 10, 11, 12, 13, 14] u_8.1 A := (ie_tr q103181 (by decide) (ie_tr q103167 (by decide) (ie_tr i103160 (by decide) (ie_refl _ _))))
        have p103192 : G ≤ (u_8.1 6).toInt ∧ (u_8.1 6).toInt ≤ N := by omega
        exact ke27 _ _ q103180 p103191 p103192
theorem wq_X7_goesAll_1 {post : Int32 → Md → Prop} {s0 : Md} {x1 : Int32} {N R W D : Int} (h103193 : mb (N) (R) (W) (D) s0) (h103194 : 0 < D) (h103195 : 0 ≤ (s0.1 6).toInt ∧ (s0.1 6).toInt ≤ N) (h103196 : (s0.1 14).toInt = 3) (k : ∀ (r : Int32) (u : Md), mb (N) (R) (W) (D) u → ie [1, 2, 6, 7, 8, 9, 10, 11, 12, 13, 14] u.1 s0.1 → (r).toInt = 0 ∨ (r).toInt = 1 → (s0.1 6).toInt ≤ (u.1 6).toInt ∧ (u.1 6).toInt ≤ N → (r).toInt = 0 ∨ (u.1 14).toInt = (s0.1 14).toInt → post r u) : wp_X7_goesAll_1 post s0 x1 := by
  unfold wp_X7_goesAll_1
  have := h103193.1
  have := h103193.2.1
  have := h103193.2.2.1
  have := h103193.2.2.2.1
  have p103197 : 0 < D := by omega
  have p103198 : 0 ≤ (s0.1 6).toInt ∧ (s0.1 6).toInt ≤ N := by omega
  have p103199 : (s0.1 14).toInt = 3 := by omega
  refine wq_X7_goesOne_1 h103193 p103197 p103198 p103199 (fun r_1 u_2 q103200 q103201 q103202 q103203 q103204 => ?_)
  have := q103200.1
  have := q103200.2.1
  refine ⟨fun c103205 => ?_, fun c103206 => ?_⟩
  · replace c103205 := q_neq c103205
    rw [li_0] at c103205
    have p103207 : 0 < D := by omega
    have p103208 : ie [1, 2, 6, 7, 8, 9, 10, 11, 12, 13, 14] u_2.1 u_2.1 := (ie_refl _ _)
    have p103209 : (u_2.1 14).toInt = 3 := by omega
    have p103210 : 0 ≤ ((u_2.1 6).toInt) ∧ ((u_2.1 6).toInt) ≤ (u_2.1 6).toInt ∧ (u_2.1 6).toInt ≤ N := by omega
    obtain ⟨f103211, g103212⟩ := fu_e 500
    have p103213 : N - (u_2.1 6).toInt < (f103211 : Int) := by (omega)
    refine ⟨f103211, wq_X7_goesAll_1_L10 p103207 (fun t0 z1 q103214 q103215 q103216 => ?_) (fun t0 z1 q103217 q103218 q103219 q103220 => ?_) f103211 _ _ q103200 p103208 p103209 p103210 p103213⟩
    · have := q103214.1
      have := q103214.2.1
      have p103221 : ie [1, 2, 6, 7, 8, 9, 10, 11, 12, 13, 14] t0.1 s0.1 := (ie_tr q103215 (by decide) (ie_tr q103201 (by decide) (ie_refl _ _)))
      have p103222 : (0 : Int32).toInt = 0 ∨ (0 : Int32).toInt = 1 := by (have := li_0; omega)
      have p103223 : (s0.1 6).toInt ≤ (t0.1 6).toInt ∧ (t0.1 6).toInt ≤ N := by omega
      have p103224 : (0 : Int32).toInt = 0 ∨ (t0.1 14).toInt = (s0.1 14).toInt := by (have := li_0; omega)
      exact k _ _ q103214 p103221 p103222 p103223 p103224
    · have := q103217.1
      have := q103217.2.1
      have p103225 : ie [1, 2, 6, 7, 8, 9, 10, 11, 12, 13, 14] t0.1 s0.1 := (ie_tr q103218 (by decide) (ie_tr q103201 (by decide) (ie_refl _ _)))
      have p103226 : (1 : Int32).toInt = 0 ∨ (1 : Int32).toInt = 1 := by (have := li_1; omega)
      have p103227 : (s0.1 6).toInt ≤ (t0.1 6).toInt ∧ (t0.1 6).toInt ≤ N := by omega
      have p103228 : (1 : Int32).toInt = 0 ∨ (t0.1 14).toInt = (s0.1 14).toInt := by (have := li_1; omega)
      exact k _ _ q103217 p103225 p103226 p103227 p103228
  · replace c103206 := q_eq c103206
    rw [li_0] at c103206
    have p103229 : ie [1, 2, 6, 7, 8, 9, 10, 11, 12, 13, 14] u_2.1 s0.1 := (ie_tr q103201 (by decide) (ie_refl _ _))
    have p103230 : (0 : Int32).toInt = 0 ∨ (0 : Int32).toInt = 1 := by (have := li_0; omega)
    have p103231 : (s0.1 6).toInt ≤ (u_2.1 6).toInt ∧ (u_2.1 6).toInt ≤ N := by omega
    have p103232 : (0 : Int32).toInt = 0 ∨ (u_2.1 14).toInt = (s0.1 14).toInt := by (have := li_0; omega)
    exact k _ _ q103200 p103229 p103230 p103231 p103232
theorem wq_X7_goesTimes_2_L90 {post : Int32 → Md → Prop} {e141 : Md → Int32 → Int32 → Int32 → Int32 → Int32 → Prop} {D N R W G : Int} {A : Nat → Int32} (h103233 : 0 < D) (ke141 : ∀ (t0 : Md) (z1 : Int32) (z2 : Int32) (z3 : Int32) (z4 : Int32) (z5 : Int32), mb (N) (R) (W) (D) t0 → ie [1, 2, 6, 7, 8, 9, 10, 11, 12, 13, 14] t0.1 A → (t0.1 14).toInt = 3 → (z4).toInt = G → 0 ≤ G ∧ G ≤ (t0.1 6).toInt ∧ (t0.1 6).toInt ≤ N → 0 ≤ (z5).toInt ∧ (z5).toInt ≤ 21 ∧ (z2).toInt ≤ 20 → e141 t0 z1 z2 z3 z4 z5) (k : ∀ (r : Int32) (u : Md), mb (N) (R) (W) (D) u → ie [1, 2, 6, 7, 8, 9, 10, 11, 12, 13, 14] u.1 A → (r).toInt = 0 → G ≤ (u.1 6).toInt ∧ (u.1 6).toInt ≤ N → post r u) : ∀ (n : Nat) (t0 : Md) (z1 : Int32) (z2 : Int32) (z3 : Int32) (z4 : Int32) (z5 : Int32), mb (N) (R) (W) (D) t0 → ie [1, 2, 6, 7, 8, 9, 10, 11, 12, 13, 14] t0.1 A → (t0.1 14).toInt = 3 → (z4).toInt = G → 0 ≤ G ∧ G ≤ (t0.1 6).toInt ∧ (t0.1 6).toInt ≤ N → 0 ≤ (z5).toInt ∧ (z5).toInt ≤ 21 ∧ (z2).toInt ≤ 20 → 21 - (z5).toInt < (n : Int) → wp_X7_goesTimes_2_L90 post e141 n t0 z1 z2 z3 z4 z5 := by
  intro n
  induction n with
  | zero =>
    intro t0 z1 z2 z3 z4 z5 i103234 i103235 i103236 i103237 i103238 i103239 i103240
    have := i103234.1
    have := i103234.2.1
    have := i103234.2.2.1
    have := i103234.2.2.2.1
    exfalso
    omega
  | succ n ih =>
    intro t0 z1 z2 z3 z4 z5 i103234 i103235 i103236 i103237 i103238 i103239 i103240
    unfold wp_X7_goesTimes_2_L90
    have := i103234.1
    have := i103234.2.1
    have := i103234.2.2.1
    have := i103234.2.2.2.1
    refine ⟨fun c103241 => ?_, fun c103242 => ?_⟩
    · replace c103241 := q_eq c103241
      rw [li_0] at c103241
      refine ⟨fun c103243 => ?_, fun c103244 => ?_⟩
      · replace c103243 := q_eq c103243
        rw [li_0] at c103243
        have : (t0.1 5).toInt = (A 5).toInt := ie_i i103235 5 (by decide)
        have p103245 : (t0.1 5).toInt = N := by omega
        have : (t0.1 0).toInt = (A 0).toInt := ie_i i103235 0 (by decide)
        have p103246 : 0 ≤ (t0.1 0).toInt ∧ (t0.1 0).toInt ≤ 10 := by omega
        have p103247 : 0 ≤ N ∧ N ≤ 400 := by omega
        have p103248 : 0 ≤ R ∧ R ≤ 6 ∧ 0 ≤ W ∧ W ≤ 10 ∧ 0 ≤ R * W ∧ R * W ≤ 40 ∧ 0 ≤ D ∧ D ≤ 4 ∧ (D ≤ 0 ∨ 1 ≤ R) ∧ (1 ≤ R ∨ R * W = 0) := by omega
        have B103249 : mb (N) (R) (W) (D) ((va_up t0.1 6 z4), t0.2.1, t0.2.2.1, t0.2.2.2) := ⟨p103245, p103246, p103247, p103248, i103234.2.2.2.2.1, i103234.2.2.2.2.2.1, i103234.2.2.2.2.2.2.1, i103234.2.2.2.2.2.2.2⟩
        have p103250 : 0 < D := by omega
        have p103251 : 0 ≤ (z4).toInt ∧ (z4).toInt ≤ N := by omega
        have p103252 : (t0.1 14).toInt = 3 := by omega
        refine wq_X7_goesAll_1 B103249 p103250 p103251 p103252 (fun r_14 u_15 q103253 q103254 q103255 q103256 q103257 => ?_)
        have := q103253.1
        have := q103253.2.1
        replace q103255 : (r_14).toInt = 0 ∨ (r_14).toInt = 1 := q103255
        replace q103256 : (z4).toInt ≤ (u_15.1 6).toInt ∧ (u_15.1 6).toInt ≤ N := q103256
        replace q103257 : (r_14).toInt = 0 ∨ (u_15.1 14).toInt = (t0.1 14).toInt := q103257
        refine ⟨fun c103258 => ?_, fun c103259 => ?_⟩
        · replace c103258 := q_neq c103258
          rw [li_0] at c103258
          have p103260 : ie [1, 2, 6, 7, 8, 9, 10, 11, 12, 13, 14] u_15.1 A := (ie_tr q103254 (by decide) (ie_up (ie_tr i103235 (by decide) (ie_refl _ _)) (by decide)))
          have p103261 : (u_15.1 14).toInt = 3 := by omega
          have p103262 : (z4).toInt = G := by omega
          have p103263 : 0 ≤ G ∧ G ≤ (u_15.1 6).toInt ∧ (u_15.1 6).toInt ≤ N := by omega
          have e103264 := tq_addr li_1 z5
          try rw [Int.emod_eq_of_lt (show 0 ≤ (z5).toInt + 1 + 2147483648 by omega) (show (z5).toInt + 1 + 2147483648 < 4294967296 by omega)] at e103264
          have p103265 : 0 ≤ (z5 + 1).toInt ∧ (z5 + 1).toInt ≤ 21 ∧ (z2).toInt ≤ 20 := by omega
          have p103266 : 21 - (z5 + 1).toInt < ((n : Nat) : Int) := by (omega)
          exact ih _ _ _ _ _ _ q103253 p103260 p103261 p103262 p103263 p103265 p103266
        · replace c103259 := q_eq c103259
          rw [li_0] at c103259
          have p103267 : ie [1, 2, 6, 7, 8, 9, 10, 11, 12, 13, 14] u_15.1 A := (ie_tr q103254 (by decide) (ie_up (ie_tr i103235 (by decide) (ie_refl _ _)) (by decide)))
          have p103268 : (0 : Int32).toInt = 0 := by (have := li_0; omega)
          have p103269 : G ≤ (u_15.1 6).toInt ∧ (u_15.1 6).toInt ≤ N := by omega
          exact k _ _ q103253 p103267 p103268 p103269
      · replace c103244 := q_neq c103244
        rw [li_0] at c103244
        refine ⟨fun c103270 => ?_, fun c103271 => ?_⟩
        · replace c103270 := q_le c103270
          have : (t0.1 5).toInt = (A 5).toInt := ie_i i103235 5 (by decide)
          have p103272 : (t0.1 5).toInt = N := by omega
          have : (t0.1 0).toInt = (A 0).toInt := ie_i i103235 0 (by decide)
          have p103273 : 0 ≤ (t0.1 0).toInt ∧ (t0.1 0).toInt ≤ 10 := by omega
          have p103274 : 0 ≤ N ∧ N ≤ 400 := by omega
          have p103275 : 0 ≤ R ∧ R ≤ 6 ∧ 0 ≤ W ∧ W ≤ 10 ∧ 0 ≤ R * W ∧ R * W ≤ 40 ∧ 0 ≤ D ∧ D ≤ 4 ∧ (D ≤ 0 ∨ 1 ≤ R) ∧ (1 ≤ R ∨ R * W = 0) := by omega
          have B103276 : mb (N) (R) (W) (D) ((va_up t0.1 6 z4), t0.2.1, t0.2.2.1, t0.2.2.2) := ⟨p103272, p103273, p103274, p103275, i103234.2.2.2.2.1, i103234.2.2.2.2.2.1, i103234.2.2.2.2.2.2.1, i103234.2.2.2.2.2.2.2⟩
          have p103277 : 0 < D := by omega
          have p103278 : 0 ≤ (z4).toInt ∧ (z4).toInt ≤ N := by omega
          have p103279 : (t0.1 14).toInt = 3 := by omega
          refine wq_X7_goesAll_1 B103276 p103277 p103278 p103279 (fun r_18 u_19 q103280 q103281 q103282 q103283 q103284 => ?_)
          have := q103280.1
          have := q103280.2.1
          replace q103282 : (r_18).toInt = 0 ∨ (r_18).toInt = 1 := q103282
          replace q103283 : (z4).toInt ≤ (u_19.1 6).toInt ∧ (u_19.1 6).toInt ≤ N := q103283
          replace q103284 : (r_18).toInt = 0 ∨ (u_19.1 14).toInt = (t0.1 14).toInt := q103284
          refine ⟨fun c103285 => ?_, fun c103286 => ?_⟩
          · replace c103285 := q_neq c103285
            rw [li_0] at c103285
            have p103287 : ie [1, 2, 6, 7, 8, 9, 10, 11, 12, 13, 14] u_19.1 A := (ie_tr q103281 (by decide) (ie_up (ie_tr i103235 (by decide) (ie_refl _ _)) (by decide)))
            have p103288 : (u_19.1 14).toInt = 3 := by omega
            have p103289 : (z4).toInt = G := by omega
            have p103290 : 0 ≤ G ∧ G ≤ (u_19.1 6).toInt ∧ (u_19.1 6).toInt ≤ N := by omega
            have e103291 := tq_addr li_1 z5
            try rw [Int.emod_eq_of_lt (show 0 ≤ (z5).toInt + 1 + 2147483648 by omega) (show (z5).toInt + 1 + 2147483648 < 4294967296 by omega)] at e103291
            have p103292 : 0 ≤ (z5 + 1).toInt ∧ (z5 + 1).toInt ≤ 21 ∧ (z2).toInt ≤ 20 := by omega
            have p103293 : 21 - (z5 + 1).toInt < ((n : Nat) : Int) := by (omega)
            exact ih _ _ _ _ _ _ q103280 p103287 p103288 p103289 p103290 p103292 p103293
          · replace c103286 := q_eq c103286
            rw [li_0] at c103286
            have p103294 : ie [1, 2, 6, 7, 8, 9, 10, 11, 12, 13, 14] u_19.1 A := (ie_tr q103281 (by decide) (ie_up (ie_tr i103235 (by decide) (ie_refl _ _)) (by decide)))
            have p103295 : (0 : Int32).toInt = 0 := by (have := li_0; omega)
            have p103296 : G ≤ (u_19.1 6).toInt ∧ (u_19.1 6).toInt ≤ N := by omega
            exact k _ _ q103280 p103294 p103295 p103296
        · replace c103271 := q_nle c103271
          have : (t0.1 5).toInt = (A 5).toInt := ie_i i103235 5 (by decide)
          have p103297 : (t0.1 5).toInt = N := by omega
          have : (t0.1 0).toInt = (A 0).toInt := ie_i i103235 0 (by decide)
          have p103298 : 0 ≤ (t0.1 0).toInt ∧ (t0.1 0).toInt ≤ 10 := by omega
          have p103299 : 0 ≤ N ∧ N ≤ 400 := by omega
          have p103300 : 0 ≤ R ∧ R ≤ 6 ∧ 0 ≤ W ∧ W ≤ 10 ∧ 0 ≤ R * W ∧ R * W ≤ 40 ∧ 0 ≤ D ∧ D ≤ 4 ∧ (D ≤ 0 ∨ 1 ≤ R) ∧ (1 ≤ R ∨ R * W = 0) := by omega
          have B103301 : mb (N) (R) (W) (D) ((va_up t0.1 6 z4), t0.2.1, t0.2.2.1, t0.2.2.2) := ⟨p103297, p103298, p103299, p103300, i103234.2.2.2.2.1, i103234.2.2.2.2.2.1, i103234.2.2.2.2.2.2.1, i103234.2.2.2.2.2.2.2⟩
          have p103302 : 0 < D := by omega
          have p103303 : 0 ≤ (z4).toInt ∧ (z4).toInt ≤ N := by omega
          have p103304 : (t0.1 14).toInt = 3 := by omega
          refine wq_X7_goesAll_1 B103301 p103302 p103303 p103304 (fun r_21 u_22 q103305 q103306 q103307 q103308 q103309 => ?_)
          have := q103305.1
          have := q103305.2.1
          replace q103307 : (r_21).toInt = 0 ∨ (r_21).toInt = 1 := q103307
          replace q103308 : (z4).toInt ≤ (u_22.1 6).toInt ∧ (u_22.1 6).toInt ≤ N := q103308
          replace q103309 : (r_21).toInt = 0 ∨ (u_22.1 14).toInt = (t0.1 14).toInt := q103309
          refine ⟨fun c103310 => ?_, fun c103311 => ?_⟩
          · replace c103310 := q_neq c103310
            rw [li_0] at c103310
            have p103312 : ie [1, 2, 6, 7, 8, 9, 10, 11, 12, 13, 14] u_22.1 A := (ie_tr q103306 (by decide) (ie_up (ie_tr i103235 (by decide) (ie_refl _ _)) (by decide)))
            have p103313 : (u_22.1 14).toInt = 3 := by omega
            have p103314 : (z4).toInt = G := by omega
            have p103315 : 0 ≤ G ∧ G ≤ (u_22.1 6).toInt ∧ (u_22.1 6).toInt ≤ N := by omega
            have e103316 := tq_addr li_1 z5
            try rw [Int.emod_eq_of_lt (show 0 ≤ (z5).toInt + 1 + 2147483648 by omega) (show (z5).toInt + 1 + 2147483648 < 4294967296 by omega)] at e103316
            have p103317 : 0 ≤ (z5 + 1).toInt ∧ (z5 + 1).toInt ≤ 21 ∧ (z2).toInt ≤ 20 := by omega
            have p103318 : 21 - (z5 + 1).toInt < ((n : Nat) : Int) := by (omega)
            exact ih _ _ _ _ _ _ q103305 p103312 p103313 p103314 p103315 p103317 p103318
          · replace c103311 := q_eq c103311
            rw [li_0] at c103311
            have p103319 : ie [1, 2, 6, 7, 8, 9, 10, 11, 12, 13, 14] u_22.1 A := (ie_tr q103306 (by decide) (ie_up (ie_tr i103235 (by decide) (ie_refl _ _)) (by decide)))
            have p103320 : (0 : Int32).toInt = 0 := by (have := li_0; omega)
            have p103321 : G ≤ (u_22.1 6).toInt ∧ (u_22.1 6).toInt ≤ N := by omega
            exact k _ _ q103305 p103319 p103320 p103321
    · replace c103242 := q_neq c103242
      rw [li_0] at c103242
      refine ⟨fun c103322 => ?_, fun c103323 => ?_⟩
      · replace c103322 := q_le c103322
        have p103324 : ie [1, 2, 6, 7, 8, 9, 10, 11, 12, 13, 14] t0.1 A := (ie_tr i103235 (by decide) (ie_refl _ _))
        have p103325 : (t0.1 14).toInt = 3 := by omega
        have p103326 : (z4).toInt = G := by omega
        have p103327 : 0 ≤ G ∧ G ≤ (t0.1 6).toInt ∧ (t0.1 6).toInt ≤ N := by omega
        have p103328 : 0 ≤ (z5).toInt ∧ (z5).toInt ≤ 21 ∧ (z2).toInt ≤ 20 := by omega
        exact ke141 _ _ _ _ _ _ i103234 p103324 p103325 p103326 p103327 p103328
      · replace c103323 := q_nle c103323
        refine ⟨fun c103329 => ?_, fun c103330 => ?_⟩
        · replace c103329 := q_eq c103329
          rw [li_0] at c103329
          have p103331 : ie [1, 2, 6, 7, 8, 9, 10, 11, 12, 13, 14] t0.1 A := (ie_tr i103235 (by decide) (ie_refl _ _))
          have p103332 : (t0.1 14).toInt = 3 := by omega
          have p103333 : (z4).toInt = G := by omega
          have p103334 : 0 ≤ G ∧ G ≤ (t0.1 6).toInt ∧ (t0.1 6).toInt ≤ N := by omega
          have p103335 : 0 ≤ (z5).toInt ∧ (z5).toInt ≤ 21 ∧ (z2).toInt ≤ 20 := by omega
          exact ke141 _ _ _ _ _ _ i103234 p103331 p103332 p103333 p103334 p103335
        · replace c103330 := q_neq c103330
          rw [li_0] at c103330
          refine ⟨fun c103336 => ?_, fun c103337 => ?_⟩
          · replace c103336 := q_eq c103336
            rw [li_0] at c103336
            have : (t0.1 5).toInt = (A 5).toInt := ie_i i103235 5 (by decide)
            have p103338 : (t0.1 5).toInt = N := by omega
            have : (t0.1 0).toInt = (A 0).toInt := ie_i i103235 0 (by decide)
            have p103339 : 0 ≤ (t0.1 0).toInt ∧ (t0.1 0).toInt ≤ 10 := by omega
            have p103340 : 0 ≤ N ∧ N ≤ 400 := by omega
            have p103341 : 0 ≤ R ∧ R ≤ 6 ∧ 0 ≤ W ∧ W ≤ 10 ∧ 0 ≤ R * W ∧ R * W ≤ 40 ∧ 0 ≤ D ∧ D ≤ 4 ∧ (D ≤ 0 ∨ 1 ≤ R) ∧ (1 ≤ R ∨ R * W = 0) := by omega
            have B103342 : mb (N) (R) (W) (D) ((va_up t0.1 6 z4), t0.2.1, t0.2.2.1, t0.2.2.2) := ⟨p103338, p103339, p103340, p103341, i103234.2.2.2.2.1, i103234.2.2.2.2.2.1, i103234.2.2.2.2.2.2.1, i103234.2.2.2.2.2.2.2⟩
            have p103343 : 0 < D := by omega
            have p103344 : 0 ≤ (z4).toInt ∧ (z4).toInt ≤ N := by omega
            have p103345 : (t0.1 14).toInt = 3 := by omega
            refine wq_X7_goesAll_1 B103342 p103343 p103344 p103345 (fun r_27 u_28 q103346 q103347 q103348 q103349 q103350 => ?_)
            have := q103346.1
            have := q103346.2.1
            replace q103348 : (r_27).toInt = 0 ∨ (r_27).toInt = 1 := q103348
            replace q103349 : (z4).toInt ≤ (u_28.1 6).toInt ∧ (u_28.1 6).toInt ≤ N := q103349
            replace q103350 : (r_27).toInt = 0 ∨ (u_28.1 14).toInt = (t0.1 14).toInt := q103350
            refine ⟨fun c103351 => ?_, fun c103352 => ?_⟩
            · replace c103351 := q_neq c103351
              rw [li_0] at c103351
              have p103353 : ie [1, 2, 6, 7, 8, 9, 10, 11, 12, 13, 14] u_28.1 A := (ie_tr q103347 (by decide) (ie_up (ie_tr i103235 (by decide) (ie_refl _ _)) (by decide)))
              have p103354 : (u_28.1 14).toInt = 3 := by omega
              have p103355 : (z4).toInt = G := by omega
              have p103356 : 0 ≤ G ∧ G ≤ (u_28.1 6).toInt ∧ (u_28.1 6).toInt ≤ N := by omega
              have e103357 := tq_addr li_1 z5
              try rw [Int.emod_eq_of_lt (show 0 ≤ (z5).toInt + 1 + 2147483648 by omega) (show (z5).toInt + 1 + 2147483648 < 4294967296 by omega)] at e103357
              have p103358 : 0 ≤ (z5 + 1).toInt ∧ (z5 + 1).toInt ≤ 21 ∧ (z2).toInt ≤ 20 := by omega
              have p103359 : 21 - (z5 + 1).toInt < ((n : Nat) : Int) := by (omega)
              exact ih _ _ _ _ _ _ q103346 p103353 p103354 p103355 p103356 p103358 p103359
            · replace c103352 := q_eq c103352
              rw [li_0] at c103352
              have p103360 : ie [1, 2, 6, 7, 8, 9, 10, 11, 12, 13, 14] u_28.1 A := (ie_tr q103347 (by decide) (ie_up (ie_tr i103235 (by decide) (ie_refl _ _)) (by decide)))
              have p103361 : (0 : Int32).toInt = 0 := by (have := li_0; omega)
              have p103362 : G ≤ (u_28.1 6).toInt ∧ (u_28.1 6).toInt ≤ N := by omega
              exact k _ _ q103346 p103360 p103361 p103362
          · replace c103337 := q_neq c103337
            rw [li_0] at c103337
            refine ⟨fun c103363 => ?_, fun c103364 => ?_⟩
            · replace c103363 := q_le c103363
              have : (t0.1 5).toInt = (A 5).toInt := ie_i i103235 5 (by decide)
              have p103365 : (t0.1 5).toInt = N := by omega
              have : (t0.1 0).toInt = (A 0).toInt := ie_i i103235 0 (by decide)
              have p103366 : 0 ≤ (t0.1 0).toInt ∧ (t0.1 0).toInt ≤ 10 := by omega
              have p103367 : 0 ≤ N ∧ N ≤ 400 := by omega
              have p103368 : 0 ≤ R ∧ R ≤ 6 ∧ 0 ≤ W ∧ W ≤ 10 ∧ 0 ≤ R * W ∧ R * W ≤ 40 ∧ 0 ≤ D ∧ D ≤ 4 ∧ (D ≤ 0 ∨ 1 ≤ R) ∧ (1 ≤ R ∨ R * W = 0) := by omega
              have B103369 : mb (N) (R) (W) (D) ((va_up t0.1 6 z4), t0.2.1, t0.2.2.1, t0.2.2.2) := ⟨p103365, p103366, p103367, p103368, i103234.2.2.2.2.1, i103234.2.2.2.2.2.1, i103234.2.2.2.2.2.2.1, i103234.2.2.2.2.2.2.2⟩
              have p103370 : 0 < D := by omega
              have p103371 : 0 ≤ (z4).toInt ∧ (z4).toInt ≤ N := by omega
              have p103372 : (t0.1 14).toInt = 3 := by omega
              refine wq_X7_goesAll_1 B103369 p103370 p103371 p103372 (fun r_31 u_32 q103373 q103374 q103375 q103376 q103377 => ?_)
              have := q103373.1
              have := q103373.2.1
              replace q103375 : (r_31).toInt = 0 ∨ (r_31).toInt = 1 := q103375
              replace q103376 : (z4).toInt ≤ (u_32.1 6).toInt ∧ (u_32.1 6).toInt ≤ N := q103376
              replace q103377 : (r_31).toInt = 0 ∨ (u_32.1 14).toInt = (t0.1 14).toInt := q103377
              refine ⟨fun c103378 => ?_, fun c103379 => ?_⟩
              · replace c103378 := q_neq c103378
                rw [li_0] at c103378
                have p103380 : ie [1, 2, 6, 7, 8, 9, 10, 11, 12, 13, 14] u_32.1 A := (ie_tr q103374 (by decide) (ie_up (ie_tr i103235 (by decide) (ie_refl _ _)) (by decide)))
                have p103381 : (u_32.1 14).toInt = 3 := by omega
                have p103382 : (z4).toInt = G := by omega
                have p103383 : 0 ≤ G ∧ G ≤ (u_32.1 6).toInt ∧ (u_32.1 6).toInt ≤ N := by omega
                have e103384 := tq_addr li_1 z5
                try rw [Int.emod_eq_of_lt (show 0 ≤ (z5).toInt + 1 + 2147483648 by omega) (show (z5).toInt + 1 + 2147483648 < 4294967296 by omega)] at e103384
                have p103385 : 0 ≤ (z5 + 1).toInt ∧ (z5 + 1).toInt ≤ 21 ∧ (z2).toInt ≤ 20 := by omega
                have p103386 : 21 - (z5 + 1).toInt < ((n : Nat) : Int) := by (omega)
                exact ih _ _ _ _ _ _ q103373 p103380 p103381 p103382 p103383 p103385 p103386
              · replace c103379 := q_eq c103379
                rw [li_0] at c103379
                have p103387 : ie [1, 2, 6, 7, 8, 9, 10, 11, 12, 13, 14] u_32.1 A := (ie_tr q103374 (by decide) (ie_up (ie_tr i103235 (by decide) (ie_refl _ _)) (by decide)))
                have p103388 : (0 : Int32).toInt = 0 := by (have := li_0; omega)
                have p103389 : G ≤ (u_32.1 6).toInt ∧ (u_32.1 6).toInt ≤ N := by omega
                exact k _ _ q103373 p103387 p103388 p103389
            · replace c103364 := q_nle c103364
              have : (t0.1 5).toInt = (A 5).toInt := ie_i i103235 5 (by decide)
              have p103390 : (t0.1 5).toInt = N := by omega
              have : (t0.1 0).toInt = (A 0).toInt := ie_i i103235 0 (by decide)
              have p103391 : 0 ≤ (t0.1 0).toInt ∧ (t0.1 0).toInt ≤ 10 := by omega
              have p103392 : 0 ≤ N ∧ N ≤ 400 := by omega
              have p103393 : 0 ≤ R ∧ R ≤ 6 ∧ 0 ≤ W ∧ W ≤ 10 ∧ 0 ≤ R * W ∧ R * W ≤ 40 ∧ 0 ≤ D ∧ D ≤ 4 ∧ (D ≤ 0 ∨ 1 ≤ R) ∧ (1 ≤ R ∨ R * W = 0) := by omega
              have B103394 : mb (N) (R) (W) (D) ((va_up t0.1 6 z4), t0.2.1, t0.2.2.1, t0.2.2.2) := ⟨p103390, p103391, p103392, p103393, i103234.2.2.2.2.1, i103234.2.2.2.2.2.1, i103234.2.2.2.2.2.2.1, i103234.2.2.2.2.2.2.2⟩
              have p103395 : 0 < D := by omega
              have p103396 : 0 ≤ (z4).toInt ∧ (z4).toInt ≤ N := by omega
              have p103397 : (t0.1 14).toInt = 3 := by omega
              refine wq_X7_goesAll_1 B103394 p103395 p103396 p103397 (fun r_34 u_35 q103398 q103399 q103400 q103401 q103402 => ?_)
              have := q103398.1
              have := q103398.2.1
              replace q103400 : (r_34).toInt = 0 ∨ (r_34).toInt = 1 := q103400
              replace q103401 : (z4).toInt ≤ (u_35.1 6).toInt ∧ (u_35.1 6).toInt ≤ N := q103401
              replace q103402 : (r_34).toInt = 0 ∨ (u_35.1 14).toInt = (t0.1 14).toInt := q103402
              refine ⟨fun c103403 => ?_, fun c103404 => ?_⟩
              · replace c103403 := q_neq c103403
                rw [li_0] at c103403
                have p103405 : ie [1, 2, 6, 7, 8, 9, 10, 11, 12, 13, 14] u_35.1 A := (ie_tr q103399 (by decide) (ie_up (ie_tr i103235 (by decide) (ie_refl _ _)) (by decide)))
                have p103406 : (u_35.1 14).toInt = 3 := by omega
                have p103407 : (z4).toInt = G := by omega
                have p103408 : 0 ≤ G ∧ G ≤ (u_35.1 6).toInt ∧ (u_35.1 6).toInt ≤ N := by omega
                have e103409 := tq_addr li_1 z5
                try rw [Int.emod_eq_of_lt (show 0 ≤ (z5).toInt + 1 + 2147483648 by omega) (show (z5).toInt + 1 + 2147483648 < 4294967296 by omega)] at e103409
                have p103410 : 0 ≤ (z5 + 1).toInt ∧ (z5 + 1).toInt ≤ 21 ∧ (z2).toInt ≤ 20 := by omega
                have p103411 : 21 - (z5 + 1).toInt < ((n : Nat) : Int) := by (omega)
                exact ih _ _ _ _ _ _ q103398 p103405 p103406 p103407 p103408 p103410 p103411
              · replace c103404 := q_eq c103404
                rw [li_0] at c103404
                have p103412 : ie [1, 2, 6, 7, 8, 9, 10, 11, 12, 13, 14] u_35.1 A := (ie_tr q103399 (by decide) (ie_up (ie_tr i103235 (by decide) (ie_refl _ _)) (by decide)))
                have p103413 : (0 : Int32).toInt = 0 := by (have := li_0; omega)
                have p103414 : G ≤ (u_35.1 6).toInt ∧ (u_35.1 6).toInt ≤ N := by omega
                exact k _ _ q103398 p103412 p103413 p103414
theorem wq_X7_goesTimes_2_L90b {post : Int32 → Md → Prop} {e141 : Md → Int32 → Int32 → Int32 → Int32 → Int32 → Prop} {D N R W G : Int} {A : Nat → Int32} (h103415 : 0 < D) (ke141 : ∀ (t0 : Md) (z1 : Int32) (z2 : Int32) (z3 : Int32) (z4 : Int32) (z5 : Int32), mb (N) (R) (W) (D) t0 → ie [1, 2, 6, 7, 8, 9, 10, 11, 12, 13, 14] t0.1 A → (t0.1 14).toInt = 3 → (z4).toInt = G → 0 ≤ G ∧ G ≤ (t0.1 6).toInt ∧ (t0.1 6).toInt ≤ N → 0 ≤ (z5).toInt ∧ (z5).toInt ≤ 21 ∧ (z2).toInt ≤ 20 → e141 t0 z1 z2 z3 z4 z5) (k : ∀ (r : Int32) (u : Md), mb (N) (R) (W) (D) u → ie [1, 2, 6, 7, 8, 9, 10, 11, 12, 13, 14] u.1 A → (r).toInt = 0 → G ≤ (u.1 6).toInt ∧ (u.1 6).toInt ≤ N → post r u) : ∀ (n : Nat) (t0 : Md) (z1 : Int32) (z2 : Int32) (z3 : Int32) (z4 : Int32) (z5 : Int32), mb (N) (R) (W) (D) t0 → ie [1, 2, 6, 7, 8, 9, 10, 11, 12, 13, 14] t0.1 A → (t0.1 14).toInt = 3 → (z4).toInt = G → 0 ≤ G ∧ G ≤ (t0.1 6).toInt ∧ (t0.1 6).toInt ≤ N → 0 ≤ (z5).toInt ∧ (z5).toInt ≤ 21 ∧ (z2).toInt ≤ 20 → 21 - (z5).toInt < (n : Int) → wp_X7_goesTimes_2_L90b post e141 n t0 z1 z2 z3 z4 z5 := by
  intro n
  induction n with
  | zero =>
    intro t0 z1 z2 z3 z4 z5 i103416 i103417 i103418 i103419 i103420 i103421 i103422
    have := i103416.1
    have := i103416.2.1
    have := i103416.2.2.1
    have := i103416.2.2.2.1
    exfalso
    omega
  | succ n ih =>
    intro t0 z1 z2 z3 z4 z5 i103416 i103417 i103418 i103419 i103420 i103421 i103422
    unfold wp_X7_goesTimes_2_L90b
    have := i103416.1
    have := i103416.2.1
    have := i103416.2.2.1
    have := i103416.2.2.2.1
    refine ⟨fun c103423 => ?_, fun c103424 => ?_⟩
    · replace c103423 := q_eq c103423
      rw [li_0] at c103423
      refine ⟨fun c103425 => ?_, fun c103426 => ?_⟩
      · replace c103425 := q_eq c103425
        rw [li_0] at c103425
        have : (t0.1 5).toInt = (A 5).toInt := ie_i i103417 5 (by decide)
        have p103427 : (t0.1 5).toInt = N := by omega
        have : (t0.1 0).toInt = (A 0).toInt := ie_i i103417 0 (by decide)
        have p103428 : 0 ≤ (t0.1 0).toInt ∧ (t0.1 0).toInt ≤ 10 := by omega
        have p103429 : 0 ≤ N ∧ N ≤ 400 := by omega
        have p103430 : 0 ≤ R ∧ R ≤ 6 ∧ 0 ≤ W ∧ W ≤ 10 ∧ 0 ≤ R * W ∧ R * W ≤ 40 ∧ 0 ≤ D ∧ D ≤ 4 ∧ (D ≤ 0 ∨ 1 ≤ R) ∧ (1 ≤ R ∨ R * W = 0) := by omega
        have B103431 : mb (N) (R) (W) (D) ((va_up t0.1 6 z4), t0.2.1, t0.2.2.1, t0.2.2.2) := ⟨p103427, p103428, p103429, p103430, i103416.2.2.2.2.1, i103416.2.2.2.2.2.1, i103416.2.2.2.2.2.2.1, i103416.2.2.2.2.2.2.2⟩
        have p103432 : 0 < D := by omega
        have p103433 : 0 ≤ (z4).toInt ∧ (z4).toInt ≤ N := by omega
        have p103434 : (t0.1 14).toInt = 3 := by omega
        refine wq_X7_goesAll_1 B103431 p103432 p103433 p103434 (fun r_48 u_49 q103435 q103436 q103437 q103438 q103439 => ?_)
        have := q103435.1
        have := q103435.2.1
        replace q103437 : (r_48).toInt = 0 ∨ (r_48).toInt = 1 := q103437
        replace q103438 : (z4).toInt ≤ (u_49.1 6).toInt ∧ (u_49.1 6).toInt ≤ N := q103438
        replace q103439 : (r_48).toInt = 0 ∨ (u_49.1 14).toInt = (t0.1 14).toInt := q103439
        refine ⟨fun c103440 => ?_, fun c103441 => ?_⟩
        · replace c103440 := q_neq c103440
          rw [li_0] at c103440
          have p103442 : ie [1, 2, 6, 7, 8, 9, 10, 11, 12, 13, 14] u_49.1 A := (ie_tr q103436 (by decide) (ie_up (ie_tr i103417 (by decide) (ie_refl _ _)) (by decide)))
          have p103443 : (u_49.1 14).toInt = 3 := by omega
          have p103444 : (z4).toInt = G := by omega
          have p103445 : 0 ≤ G ∧ G ≤ (u_49.1 6).toInt ∧ (u_49.1 6).toInt ≤ N := by omega
          have e103446 := tq_addr li_1 z5
          try rw [Int.emod_eq_of_lt (show 0 ≤ (z5).toInt + 1 + 2147483648 by omega) (show (z5).toInt + 1 + 2147483648 < 4294967296 by omega)] at e103446
          have p103447 : 0 ≤ (z5 + 1).toInt ∧ (z5 + 1).toInt ≤ 21 ∧ (z2).toInt ≤ 20 := by omega
          have p103448 : 21 - (z5 + 1).toInt < ((n : Nat) : Int) := by (omega)
          exact ih _ _ _ _ _ _ q103435 p103442 p103443 p103444 p103445 p103447 p103448
        · replace c103441 := q_eq c103441
          rw [li_0] at c103441
          have p103449 : ie [1, 2, 6, 7, 8, 9, 10, 11, 12, 13, 14] u_49.1 A := (ie_tr q103436 (by decide) (ie_up (ie_tr i103417 (by decide) (ie_refl _ _)) (by decide)))
          have p103450 : (0 : Int32).toInt = 0 := by (have := li_0; omega)
          have p103451 : G ≤ (u_49.1 6).toInt ∧ (u_49.1 6).toInt ≤ N := by omega
          exact k _ _ q103435 p103449 p103450 p103451
      · replace c103426 := q_neq c103426
        rw [li_0] at c103426
        refine ⟨fun c103452 => ?_, fun c103453 => ?_⟩
        · replace c103452 := q_le c103452
          have : (t0.1 5).toInt = (A 5).toInt := ie_i i103417 5 (by decide)
          have p103454 : (t0.1 5).toInt = N := by omega
          have : (t0.1 0).toInt = (A 0).toInt := ie_i i103417 0 (by decide)
          have p103455 : 0 ≤ (t0.1 0).toInt ∧ (t0.1 0).toInt ≤ 10 := by omega
          have p103456 : 0 ≤ N ∧ N ≤ 400 := by omega
          have p103457 : 0 ≤ R ∧ R ≤ 6 ∧ 0 ≤ W ∧ W ≤ 10 ∧ 0 ≤ R * W ∧ R * W ≤ 40 ∧ 0 ≤ D ∧ D ≤ 4 ∧ (D ≤ 0 ∨ 1 ≤ R) ∧ (1 ≤ R ∨ R * W = 0) := by omega
          have B103458 : mb (N) (R) (W) (D) ((va_up t0.1 6 z4), t0.2.1, t0.2.2.1, t0.2.2.2) := ⟨p103454, p103455, p103456, p103457, i103416.2.2.2.2.1, i103416.2.2.2.2.2.1, i103416.2.2.2.2.2.2.1, i103416.2.2.2.2.2.2.2⟩
          have p103459 : 0 < D := by omega
          have p103460 : 0 ≤ (z4).toInt ∧ (z4).toInt ≤ N := by omega
          have p103461 : (t0.1 14).toInt = 3 := by omega
          refine wq_X7_goesAll_1 B103458 p103459 p103460 p103461 (fun r_52 u_53 q103462 q103463 q103464 q103465 q103466 => ?_)
          have := q103462.1
          have := q103462.2.1
          replace q103464 : (r_52).toInt = 0 ∨ (r_52).toInt = 1 := q103464
          replace q103465 : (z4).toInt ≤ (u_53.1 6).toInt ∧ (u_53.1 6).toInt ≤ N := q103465
          replace q103466 : (r_52).toInt = 0 ∨ (u_53.1 14).toInt = (t0.1 14).toInt := q103466
          refine ⟨fun c103467 => ?_, fun c103468 => ?_⟩
          · replace c103467 := q_neq c103467
            rw [li_0] at c103467
            have p103469 : ie [1, 2, 6, 7, 8, 9, 10, 11, 12, 13, 14] u_53.1 A := (ie_tr q103463 (by decide) (ie_up (ie_tr i103417 (by decide) (ie_refl _ _)) (by decide)))
            have p103470 : (u_53.1 14).toInt = 3 := by omega
            have p103471 : (z4).toInt = G := by omega
            have p103472 : 0 ≤ G ∧ G ≤ (u_53.1 6).toInt ∧ (u_53.1 6).toInt ≤ N := by omega
            have e103473 := tq_addr li_1 z5
            try rw [Int.emod_eq_of_lt (show 0 ≤ (z5).toInt + 1 + 2147483648 by omega) (show (z5).toInt + 1 + 2147483648 < 4294967296 by omega)] at e103473
            have p103474 : 0 ≤ (z5 + 1).toInt ∧ (z5 + 1).toInt ≤ 21 ∧ (z2).toInt ≤ 20 := by omega
            have p103475 : 21 - (z5 + 1).toInt < ((n : Nat) : Int) := by (omega)
            exact ih _ _ _ _ _ _ q103462 p103469 p103470 p103471 p103472 p103474 p103475
          · replace c103468 := q_eq c103468
            rw [li_0] at c103468
            have p103476 : ie [1, 2, 6, 7, 8, 9, 10, 11, 12, 13, 14] u_53.1 A := (ie_tr q103463 (by decide) (ie_up (ie_tr i103417 (by decide) (ie_refl _ _)) (by decide)))
            have p103477 : (0 : Int32).toInt = 0 := by (have := li_0; omega)
            have p103478 : G ≤ (u_53.1 6).toInt ∧ (u_53.1 6).toInt ≤ N := by omega
            exact k _ _ q103462 p103476 p103477 p103478
        · replace c103453 := q_nle c103453
          have : (t0.1 5).toInt = (A 5).toInt := ie_i i103417 5 (by decide)
          have p103479 : (t0.1 5).toInt = N := by omega
          have : (t0.1 0).toInt = (A 0).toInt := ie_i i103417 0 (by decide)
          have p103480 : 0 ≤ (t0.1 0).toInt ∧ (t0.1 0).toInt ≤ 10 := by omega
          have p103481 : 0 ≤ N ∧ N ≤ 400 := by omega
          have p103482 : 0 ≤ R ∧ R ≤ 6 ∧ 0 ≤ W ∧ W ≤ 10 ∧ 0 ≤ R * W ∧ R * W ≤ 40 ∧ 0 ≤ D ∧ D ≤ 4 ∧ (D ≤ 0 ∨ 1 ≤ R) ∧ (1 ≤ R ∨ R * W = 0) := by omega
          have B103483 : mb (N) (R) (W) (D) ((va_up t0.1 6 z4), t0.2.1, t0.2.2.1, t0.2.2.2) := ⟨p103479, p103480, p103481, p103482, i103416.2.2.2.2.1, i103416.2.2.2.2.2.1, i103416.2.2.2.2.2.2.1, i103416.2.2.2.2.2.2.2⟩
          have p103484 : 0 < D := by omega
          have p103485 : 0 ≤ (z4).toInt ∧ (z4).toInt ≤ N := by omega
          have p103486 : (t0.1 14).toInt = 3 := by omega
          refine wq_X7_goesAll_1 B103483 p103484 p103485 p103486 (fun r_55 u_56 q103487 q103488 q103489 q103490 q103491 => ?_)
          have := q103487.1
          have := q103487.2.1
          replace q103489 : (r_55).toInt = 0 ∨ (r_55).toInt = 1 := q103489
          replace q103490 : (z4).toInt ≤ (u_56.1 6).toInt ∧ (u_56.1 6).toInt ≤ N := q103490
          replace q103491 : (r_55).toInt = 0 ∨ (u_56.1 14).toInt = (t0.1 14).toInt := q103491
          refine ⟨fun c103492 => ?_, fun c103493 => ?_⟩
          · replace c103492 := q_neq c103492
            rw [li_0] at c103492
            have p103494 : ie [1, 2, 6, 7, 8, 9, 10, 11, 12, 13, 14] u_56.1 A := (ie_tr q103488 (by decide) (ie_up (ie_tr i103417 (by decide) (ie_refl _ _)) (by decide)))
            have p103495 : (u_56.1 14).toInt = 3 := by omega
            have p103496 : (z4).toInt = G := by omega
            have p103497 : 0 ≤ G ∧ G ≤ (u_56.1 6).toInt ∧ (u_56.1 6).toInt ≤ N := by omega
            have e103498 := tq_addr li_1 z5
            try rw [Int.emod_eq_of_lt (show 0 ≤ (z5).toInt + 1 + 2147483648 by omega) (show (z5).toInt + 1 + 2147483648 < 4294967296 by omega)] at e103498
            have p103499 : 0 ≤ (z5 + 1).toInt ∧ (z5 + 1).toInt ≤ 21 ∧ (z2).toInt ≤ 20 := by omega
            have p103500 : 21 - (z5 + 1).toInt < ((n : Nat) : Int) := by (omega)
            exact ih _ _ _ _ _ _ q103487 p103494 p103495 p103496 p103497 p103499 p103500
          · replace c103493 := q_eq c103493
            rw [li_0] at c103493
            have p103501 : ie [1, 2, 6, 7, 8, 9, 10, 11, 12, 13, 14] u_56.1 A := (ie_tr q103488 (by decide) (ie_up (ie_tr i103417 (by decide) (ie_refl _ _)) (by decide)))
            have p103502 : (0 : Int32).toInt = 0 := by (have := li_0; omega)
            have p103503 : G ≤ (u_56.1 6).toInt ∧ (u_56.1 6).toInt ≤ N := by omega
            exact k _ _ q103487 p103501 p103502 p103503
    · replace c103424 := q_neq c103424
      rw [li_0] at c103424
      refine ⟨fun c103504 => ?_, fun c103505 => ?_⟩
      · replace c103504 := q_le c103504
        have p103506 : ie [1, 2, 6, 7, 8, 9, 10, 11, 12, 13, 14] t0.1 A := (ie_tr i103417 (by decide) (ie_refl _ _))
        have p103507 : (t0.1 14).toInt = 3 := by omega
        have p103508 : (z4).toInt = G := by omega
        have p103509 : 0 ≤ G ∧ G ≤ (t0.1 6).toInt ∧ (t0.1 6).toInt ≤ N := by omega
        have p103510 : 0 ≤ (z5).toInt ∧ (z5).toInt ≤ 21 ∧ (z2).toInt ≤ 20 := by omega
        exact ke141 _ _ _ _ _ _ i103416 p103506 p103507 p103508 p103509 p103510
      · replace c103505 := q_nle c103505
        refine ⟨fun c103511 => ?_, fun c103512 => ?_⟩
        · replace c103511 := q_eq c103511
          rw [li_0] at c103511
          have p103513 : ie [1, 2, 6, 7, 8, 9, 10, 11, 12, 13, 14] t0.1 A := (ie_tr i103417 (by decide) (ie_refl _ _))
          have p103514 : (t0.1 14).toInt = 3 := by omega
          have p103515 : (z4).toInt = G := by omega
          have p103516 : 0 ≤ G ∧ G ≤ (t0.1 6).toInt ∧ (t0.1 6).toInt ≤ N := by omega
          have p103517 : 0 ≤ (z5).toInt ∧ (z5).toInt ≤ 21 ∧ (z2).toInt ≤ 20 := by omega
          exact ke141 _ _ _ _ _ _ i103416 p103513 p103514 p103515 p103516 p103517
        · replace c103512 := q_neq c103512
          rw [li_0] at c103512
          refine ⟨fun c103518 => ?_, fun c103519 => ?_⟩
          · replace c103518 := q_eq c103518
            rw [li_0] at c103518
            have : (t0.1 5).toInt = (A 5).toInt := ie_i i103417 5 (by decide)
            have p103520 : (t0.1 5).toInt = N := by omega
            have : (t0.1 0).toInt = (A 0).toInt := ie_i i103417 0 (by decide)
            have p103521 : 0 ≤ (t0.1 0).toInt ∧ (t0.1 0).toInt ≤ 10 := by omega
            have p103522 : 0 ≤ N ∧ N ≤ 400 := by omega
            have p103523 : 0 ≤ R ∧ R ≤ 6 ∧ 0 ≤ W ∧ W ≤ 10 ∧ 0 ≤ R * W ∧ R * W ≤ 40 ∧ 0 ≤ D ∧ D ≤ 4 ∧ (D ≤ 0 ∨ 1 ≤ R) ∧ (1 ≤ R ∨ R * W = 0) := by omega
            have B103524 : mb (N) (R) (W) (D) ((va_up t0.1 6 z4), t0.2.1, t0.2.2.1, t0.2.2.2) := ⟨p103520, p103521, p103522, p103523, i103416.2.2.2.2.1, i103416.2.2.2.2.2.1, i103416.2.2.2.2.2.2.1, i103416.2.2.2.2.2.2.2⟩
            have p103525 : 0 < D := by omega
            have p103526 : 0 ≤ (z4).toInt ∧ (z4).toInt ≤ N := by omega
            have p103527 : (t0.1 14).toInt = 3 := by omega
            refine wq_X7_goesAll_1 B103524 p103525 p103526 p103527 (fun r_61 u_62 q103528 q103529 q103530 q103531 q103532 => ?_)
            have := q103528.1
            have := q103528.2.1
            replace q103530 : (r_61).toInt = 0 ∨ (r_61).toInt = 1 := q103530
            replace q103531 : (z4).toInt ≤ (u_62.1 6).toInt ∧ (u_62.1 6).toInt ≤ N := q103531
            replace q103532 : (r_61).toInt = 0 ∨ (u_62.1 14).toInt = (t0.1 14).toInt := q103532
            refine ⟨fun c103533 => ?_, fun c103534 => ?_⟩
            · replace c103533 := q_neq c103533
              rw [li_0] at c103533
              have p103535 : ie [1, 2, 6, 7, 8, 9, 10, 11, 12, 13, 14] u_62.1 A := (ie_tr q103529 (by decide) (ie_up (ie_tr i103417 (by decide) (ie_refl _ _)) (by decide)))
              have p103536 : (u_62.1 14).toInt = 3 := by omega
              have p103537 : (z4).toInt = G := by omega
              have p103538 : 0 ≤ G ∧ G ≤ (u_62.1 6).toInt ∧ (u_62.1 6).toInt ≤ N := by omega
              have e103539 := tq_addr li_1 z5
              try rw [Int.emod_eq_of_lt (show 0 ≤ (z5).toInt + 1 + 2147483648 by omega) (show (z5).toInt + 1 + 2147483648 < 4294967296 by omega)] at e103539
              have p103540 : 0 ≤ (z5 + 1).toInt ∧ (z5 + 1).toInt ≤ 21 ∧ (z2).toInt ≤ 20 := by omega
              have p103541 : 21 - (z5 + 1).toInt < ((n : Nat) : Int) := by (omega)
              exact ih _ _ _ _ _ _ q103528 p103535 p103536 p103537 p103538 p103540 p103541
            · replace c103534 := q_eq c103534
              rw [li_0] at c103534
              have p103542 : ie [1, 2, 6, 7, 8, 9, 10, 11, 12, 13, 14] u_62.1 A := (ie_tr q103529 (by decide) (ie_up (ie_tr i103417 (by decide) (ie_refl _ _)) (by decide)))
              have p103543 : (0 : Int32).toInt = 0 := by (have := li_0; omega)
              have p103544 : G ≤ (u_62.1 6).toInt ∧ (u_62.1 6).toInt ≤ N := by omega
              exact k _ _ q103528 p103542 p103543 p103544
          · replace c103519 := q_neq c103519
            rw [li_0] at c103519
            refine ⟨fun c103545 => ?_, fun c103546 => ?_⟩
            · replace c103545 := q_le c103545
              have : (t0.1 5).toInt = (A 5).toInt := ie_i i103417 5 (by decide)
              have p103547 : (t0.1 5).toInt = N := by omega
              have : (t0.1 0).toInt = (A 0).toInt := ie_i i103417 0 (by decide)
              have p103548 : 0 ≤ (t0.1 0).toInt ∧ (t0.1 0).toInt ≤ 10 := by omega
              have p103549 : 0 ≤ N ∧ N ≤ 400 := by omega
              have p103550 : 0 ≤ R ∧ R ≤ 6 ∧ 0 ≤ W ∧ W ≤ 10 ∧ 0 ≤ R * W ∧ R * W ≤ 40 ∧ 0 ≤ D ∧ D ≤ 4 ∧ (D ≤ 0 ∨ 1 ≤ R) ∧ (1 ≤ R ∨ R * W = 0) := by omega
              have B103551 : mb (N) (R) (W) (D) ((va_up t0.1 6 z4), t0.2.1, t0.2.2.1, t0.2.2.2) := ⟨p103547, p103548, p103549, p103550, i103416.2.2.2.2.1, i103416.2.2.2.2.2.1, i103416.2.2.2.2.2.2.1, i103416.2.2.2.2.2.2.2⟩
              have p103552 : 0 < D := by omega
              have p103553 : 0 ≤ (z4).toInt ∧ (z4).toInt ≤ N := by omega
              have p103554 : (t0.1 14).toInt = 3 := by omega
              refine wq_X7_goesAll_1 B103551 p103552 p103553 p103554 (fun r_65 u_66 q103555 q103556 q103557 q103558 q103559 => ?_)
              have := q103555.1
              have := q103555.2.1
              replace q103557 : (r_65).toInt = 0 ∨ (r_65).toInt = 1 := q103557
              replace q103558 : (z4).toInt ≤ (u_66.1 6).toInt ∧ (u_66.1 6).toInt ≤ N := q103558
              replace q103559 : (r_65).toInt = 0 ∨ (u_66.1 14).toInt = (t0.1 14).toInt := q103559
              refine ⟨fun c103560 => ?_, fun c103561 => ?_⟩
              · replace c103560 := q_neq c103560
                rw [li_0] at c103560
                have p103562 : ie [1, 2, 6, 7, 8, 9, 10, 11, 12, 13, 14] u_66.1 A := (ie_tr q103556 (by decide) (ie_up (ie_tr i103417 (by decide) (ie_refl _ _)) (by decide)))
                have p103563 : (u_66.1 14).toInt = 3 := by omega
                have p103564 : (z4).toInt = G := by omega
                have p103565 : 0 ≤ G ∧ G ≤ (u_66.1 6).toInt ∧ (u_66.1 6).toInt ≤ N := by omega
                have e103566 := tq_addr li_1 z5
                try rw [Int.emod_eq_of_lt (show 0 ≤ (z5).toInt + 1 + 2147483648 by omega) (show (z5).toInt + 1 + 2147483648 < 4294967296 by omega)] at e103566
                have p103567 : 0 ≤ (z5 + 1).toInt ∧ (z5 + 1).toInt ≤ 21 ∧ (z2).toInt ≤ 20 := by omega
                have p103568 : 21 - (z5 + 1).toInt < ((n : Nat) : Int) := by (omega)
                exact ih _ _ _ _ _ _ q103555 p103562 p103563 p103564 p103565 p103567 p103568
              · replace c103561 := q_eq c103561
                rw [li_0] at c103561
                have p103569 : ie [1, 2, 6, 7, 8, 9, 10, 11, 12, 13, 14] u_66.1 A := (ie_tr q103556 (by decide) (ie_up (ie_tr i103417 (by decide) (ie_refl _ _)) (by decide)))
                have p103570 : (0 : Int32).toInt = 0 := by (have := li_0; omega)
                have p103571 : G ≤ (u_66.1 6).toInt ∧ (u_66.1 6).toInt ≤ N := by omega
                exact k _ _ q103555 p103569 p103570 p103571
            · replace c103546 := q_nle c103546
              have : (t0.1 5).toInt = (A 5).toInt := ie_i i103417 5 (by decide)
              have p103572 : (t0.1 5).toInt = N := by omega
              have : (t0.1 0).toInt = (A 0).toInt := ie_i i103417 0 (by decide)
              have p103573 : 0 ≤ (t0.1 0).toInt ∧ (t0.1 0).toInt ≤ 10 := by omega
              have p103574 : 0 ≤ N ∧ N ≤ 400 := by omega
              have p103575 : 0 ≤ R ∧ R ≤ 6 ∧ 0 ≤ W ∧ W ≤ 10 ∧ 0 ≤ R * W ∧ R * W ≤ 40 ∧ 0 ≤ D ∧ D ≤ 4 ∧ (D ≤ 0 ∨ 1 ≤ R) ∧ (1 ≤ R ∨ R * W = 0) := by omega
              have B103576 : mb (N) (R) (W) (D) ((va_up t0.1 6 z4), t0.2.1, t0.2.2.1, t0.2.2.2) := ⟨p103572, p103573, p103574, p103575, i103416.2.2.2.2.1, i103416.2.2.2.2.2.1, i103416.2.2.2.2.2.2.1, i103416.2.2.2.2.2.2.2⟩
              have p103577 : 0 < D := by omega
              have p103578 : 0 ≤ (z4).toInt ∧ (z4).toInt ≤ N := by omega
              have p103579 : (t0.1 14).toInt = 3 := by omega
              refine wq_X7_goesAll_1 B103576 p103577 p103578 p103579 (fun r_68 u_69 q103580 q103581 q103582 q103583 q103584 => ?_)
              have := q103580.1
              have := q103580.2.1
              replace q103582 : (r_68).toInt = 0 ∨ (r_68).toInt = 1 := q103582
              replace q103583 : (z4).toInt ≤ (u_69.1 6).toInt ∧ (u_69.1 6).toInt ≤ N := q103583
              replace q103584 : (r_68).toInt = 0 ∨ (u_69.1 14).toInt = (t0.1 14).toInt := q103584
              refine ⟨fun c103585 => ?_, fun c103586 => ?_⟩
              · replace c103585 := q_neq c103585
                rw [li_0] at c103585
                have p103587 : ie [1, 2, 6, 7, 8, 9, 10, 11, 12, 13, 14] u_69.1 A := (ie_tr q103581 (by decide) (ie_up (ie_tr i103417 (by decide) (ie_refl _ _)) (by decide)))
                have p103588 : (u_69.1 14).toInt = 3 := by omega
                have p103589 : (z4).toInt = G := by omega
                have p103590 : 0 ≤ G ∧ G ≤ (u_69.1 6).toInt ∧ (u_69.1 6).toInt ≤ N := by omega
                have e103591 := tq_addr li_1 z5
                try rw [Int.emod_eq_of_lt (show 0 ≤ (z5).toInt + 1 + 2147483648 by omega) (show (z5).toInt + 1 + 2147483648 < 4294967296 by omega)] at e103591
                have p103592 : 0 ≤ (z5 + 1).toInt ∧ (z5 + 1).toInt ≤ 21 ∧ (z2).toInt ≤ 20 := by omega
                have p103593 : 21 - (z5 + 1).toInt < ((n : Nat) : Int) := by (omega)
                exact ih _ _ _ _ _ _ q103580 p103587 p103588 p103589 p103590 p103592 p103593
              · replace c103586 := q_eq c103586
                rw [li_0] at c103586
                have p103594 : ie [1, 2, 6, 7, 8, 9, 10, 11, 12, 13, 14] u_69.1 A := (ie_tr q103581 (by decide) (ie_up (ie_tr i103417 (by decide) (ie_refl _ _)) (by decide)))
                have p103595 : (0 : Int32).toInt = 0 := by (have := li_0; omega)
                have p103596 : G ≤ (u_69.1 6).toInt ∧ (u_69.1 6).toInt ≤ N := by omega
                exact k _ _ q103580 p103594 p103595 p103596
theorem wq_X7_goesTimes_2 {post : Int32 → Md → Prop} {s0 : Md} {x1 : Int32} {N R W D : Int} (h103597 : mb (N) (R) (W) (D) s0) (h103598 : 0 < D) (h103599 : 0 ≤ (s0.1 6).toInt ∧ (s0.1 6).toInt + 5 ≤ N) (h103600 : (s0.1 14).toInt = 2) (k : ∀ (r : Int32) (u : Md), mb (N) (R) (W) (D) u → ie [1, 2, 6, 7, 8, 9, 10, 11, 12, 13, 14] u.1 s0.1 → (r).toInt = 0 ∨ (r).toInt = 1 → (s0.1 6).toInt ≤ (u.1 6).toInt ∧ (u.1 6).toInt ≤ N → (r).toInt = 0 ∨ (u.1 14).toInt = (s0.1 14).toInt → post r u) : wp_X7_goesTimes_2 post s0 x1 := by
  unfold wp_X7_goesTimes_2
  have := h103597.1
  have := h103597.2.1
  have := h103597.2.2.1
  have := h103597.2.2.2.1
  have p103601 : (s0.1 5).toInt = N := by omega
  have p103602 : 0 ≤ (s0.1 0).toInt ∧ (s0.1 0).toInt ≤ 10 := by omega
  have p103603 : 0 ≤ N ∧ N ≤ 400 := by omega
  have p103604 : 0 ≤ R ∧ R ≤ 6 ∧ 0 ≤ W ∧ W ≤ 10 ∧ 0 ≤ R * W ∧ R * W ≤ 40 ∧ 0 ≤ D ∧ D ≤ 4 ∧ (D ≤ 0 ∨ 1 ≤ R) ∧ (1 ≤ R ∨ R * W = 0) := by omega
  have B103605 : mb (N) (R) (W) (D) ((va_up s0.1 6 ((s0.1 6) + 5)), s0.2.1, s0.2.2.1, s0.2.2.2) := ⟨p103601, p103602, p103603, p103604, h103597.2.2.2.2.1, h103597.2.2.2.2.2.1, h103597.2.2.2.2.2.2.1, h103597.2.2.2.2.2.2.2⟩
  have e103606 := tq_addr li_5 (s0.1 6)
  try rw [Int.emod_eq_of_lt (show 0 ≤ (s0.1 6).toInt + 5 + 2147483648 by omega) (show (s0.1 6).toInt + 5 + 2147483648 < 4294967296 by omega)] at e103606
  have p103607 : 0 ≤ ((s0.1 6) + 5).toInt ∧ ((s0.1 6) + 5).toInt ≤ N := by omega
  refine wq_X7_readsNumber B103605 p103607 (fun r_1 u_2 q103608 q103609 q103610 q103611 q103612 q103613 => ?_)
  have := q103608.1
  have := q103608.2.1
  replace q103610 : (r_1).toInt = 0 ∨ (r_1).toInt = 1 := q103610
  replace q103611 : ((s0.1 6) + 5).toInt ≤ (u_2.1 6).toInt ∧ (u_2.1 6).toInt ≤ N := q103611
  replace q103612 : (r_1).toInt = 0 ∨ (((0 : Int32)).toInt ≤ (u_2.1 8).toInt ∧ (u_2.1 8).toInt ≤ ((20 : Int32)).toInt) := q103612
  try simp only [li_0, li_20] at q103612
  refine ⟨fun c103614 => ?_, fun c103615 => ?_⟩
  · replace c103614 := q_neq c103614
    rw [li_0] at c103614
    have p103616 : 0 ≤ (u_2.1 6).toInt ∧ (u_2.1 6).toInt ≤ N := by omega
    refine wq_X7_nextByte q103608 p103616 (fun r_4 u_5 q103617 q103618 q103619 q103620 q103621 q103622 => ?_)
    have := q103617.1
    have := q103617.2.1
    refine ⟨fun c103623 => ?_, fun c103624 => ?_⟩
    · replace c103623 := q_neq c103623
      rw [li_40] at c103623
      have p103625 : 0 ≤ (u_5.1 6).toInt ∧ (u_5.1 6).toInt ≤ N := by omega
      have p103626 : ¬ ((40 : Int32)).toInt = -1 := by (have := li_40; omega)
      refine wq_X7_mustByte q103617 p103625 p103626 (fun r_7 u_8 q103627 q103628 q103629 q103630 q103631 q103632 => ?_)
      have := q103627.1
      have := q103627.2.1
      refine ⟨fun c103633 => ?_, fun c103634 => ?_⟩
      · replace c103633 := q_neq c103633
        rw [li_0] at c103633
        refine wq_X7_isDone q103627 (fun r_10 u_11 q103635 q103636 q103637 => ?_)
        have := q103635.1
        have := q103635.2.1
        have : (u_11.1 6).toInt = (u_8.1 6).toInt := ie_i q103636 6 (by decide)
        have p103638 : 0 < D := by omega
        have : (u_11.1 5).toInt = (u_8.1 5).toInt := ie_i q103636 5 (by decide)
        have : (u_8.1 5).toInt = (u_5.1 5).toInt := ie_i q103628 5 (by decide)
        have : (u_5.1 5).toInt = (u_2.1 5).toInt := ie_i q103618 5 (by decide)
        have : (u_2.1 5).toInt = (s0.1 5).toInt := ie_i q103609 5 (by decide)
        have p103639 : (u_11.1 5).toInt = N := by omega
        have : (u_11.1 0).toInt = (u_8.1 0).toInt := ie_i q103636 0 (by decide)
        have : (u_8.1 0).toInt = (u_5.1 0).toInt := ie_i q103628 0 (by decide)
        have : (u_5.1 0).toInt = (u_2.1 0).toInt := ie_i q103618 0 (by decide)
        have : (u_2.1 0).toInt = (s0.1 0).toInt := ie_i q103609 0 (by decide)
        have p103640 : 0 ≤ (u_11.1 0).toInt ∧ (u_11.1 0).toInt ≤ 10 := by omega
        have p103641 : 0 ≤ N ∧ N ≤ 400 := by omega
        have p103642 : 0 ≤ R ∧ R ≤ 6 ∧ 0 ≤ W ∧ W ≤ 10 ∧ 0 ≤ R * W ∧ R * W ≤ 40 ∧ 0 ≤ D ∧ D ≤ 4 ∧ (D ≤ 0 ∨ 1 ≤ R) ∧ (1 ≤ R ∨ R * W = 0) := by omega
        have B103643 : mb (N) (R) (W) (D) ((va_up u_11.1 14 ((u_11.1 14) + 1)), u_11.2.1, u_11.2.2.1, u_11.2.2.2) := ⟨p103639, p103640, p103641, p103642, q103635.2.2.2.2.1, q103635.2.2.2.2.2.1, q103635.2.2.2.2.2.2.1, q103635.2.2.2.2.2.2.2⟩
        have p103644 : ie [1, 2, 6, 7, 8, 9, 10, 11, 12, 13, 14] (va_up u_11.1 14 ((u_11.1 14) + 1)) (va_up u_11.1 14 ((u_11.1 14) + 1)) := (ie_refl _ _)
        have : (u_11.1 14).toInt = (u_8.1 14).toInt := ie_i q103636 14 (by decide)
        have : (u_8.1 14).toInt = (u_5.1 14).toInt := ie_i q103628 14 (by decide)
        have : (u_5.1 14).toInt = (u_2.1 14).toInt := ie_i q103618 14 (by decide)
        have : (u_2.1 14).toInt = (s0.1 14).toInt := ie_i q103609 14 (by decide)
        have e103645 := tq_addr li_1 (u_11.1 14)
        try rw [Int.emod_eq_of_lt (show 0 ≤ (u_11.1 14).toInt + 1 + 2147483648 by omega) (show (u_11.1 14).toInt + 1 + 2147483648 < 4294967296 by omega)] at e103645
        have p103646 : ((u_11.1 14) + 1).toInt = 3 := by omega
        have p103647 : (u_11.1 6).toInt = ((u_11.1 6).toInt) := by omega
        have p103648 : 0 ≤ ((u_11.1 6).toInt) ∧ ((u_11.1 6).toInt) ≤ (u_11.1 6).toInt ∧ (u_11.1 6).toInt ≤ N := by omega
        have p103649 : 0 ≤ (0 : Int32).toInt ∧ (0 : Int32).toInt ≤ 21 ∧ (u_2.1 8).toInt ≤ 20 := by (have := li_0; omega)
        obtain ⟨f103650, g103651⟩ := fu_e 50
        have p103652 : 21 - (0 : Int32).toInt < (f103650 : Int) := by (have := li_0; omega)
        refine ⟨f103650, wq_X7_goesTimes_2_L90 p103638 (fun t0 z1 z2 z3 z4 z5 q103653 q103654 q103655 q103656 q103657 q103658 => ?_) (fun r103659 u103660 q103661 q103662 q103663 q103664 => ?_) f103650 _ _ _ _ _ _ B103643 p103644 p103646 p103647 p103648 p103649 p103652⟩
        · have := q103653.1
          have := q103653.2.1
          have p103665 : 0 ≤ (t0.1 6).toInt ∧ (t0.1 6).toInt ≤ N := by omega
          have p103666 : ¬ ((41 : Int32)).toInt = -1 := by (have := li_41; omega)
          refine wq_X7_mustByte q103653 p103665 p103666 (fun r_37 u_38 q103667 q103668 q103669 q103670 q103671 q103672 => ?_)
          have := q103667.1
          have := q103667.2.1
          refine ⟨fun c103673 => ?_, fun c103674 => ?_⟩
          · replace c103673 := q_neq c103673
            rw [li_0] at c103673
            have : (u_38.1 5).toInt = (t0.1 5).toInt := ie_i q103668 5 (by decide)
            have : (t0.1 5).toInt = (u_11.1 5).toInt := ie_i q103654 5 (by decide)
            have p103675 : (u_38.1 5).toInt = N := by omega
            have : (u_38.1 0).toInt = (t0.1 0).toInt := ie_i q103668 0 (by decide)
            have : (t0.1 0).toInt = (u_11.1 0).toInt := ie_i q103654 0 (by decide)
            have p103676 : 0 ≤ (u_38.1 0).toInt ∧ (u_38.1 0).toInt ≤ 10 := by omega
            have p103677 : 0 ≤ N ∧ N ≤ 400 := by omega
            have p103678 : 0 ≤ R ∧ R ≤ 6 ∧ 0 ≤ W ∧ W ≤ 10 ∧ 0 ≤ R * W ∧ R * W ≤ 40 ∧ 0 ≤ D ∧ D ≤ 4 ∧ (D ≤ 0 ∨ 1 ≤ R) ∧ (1 ≤ R ∨ R * W = 0) := by omega
            have B103679 : mb (N) (R) (W) (D) ((va_up u_38.1 14 ((u_38.1 14) - 1)), u_38.2.1, u_38.2.2.1, u_38.2.2.2) := ⟨p103675, p103676, p103677, p103678, q103667.2.2.2.2.1, q103667.2.2.2.2.2.1, q103667.2.2.2.2.2.2.1, q103667.2.2.2.2.2.2.2⟩
            have p103680 : ie [1, 2, 6, 7, 8, 9, 10, 11, 12, 13, 14] (va_up u_38.1 14 ((u_38.1 14) - 1)) s0.1 := (ie_up (ie_tr q103668 (by decide) (ie_tr q103654 (by decide) (ie_up (ie_tr q103636 (by decide) (ie_tr q103628 (by decide) (ie_tr q103618 (by decide) (ie_tr q103609 (by decide) (ie_up (ie_refl _ _) (by decide)))))) (by decide)))) (by decide))
            have p103681 : (1 : Int32).toInt = 0 ∨ (1 : Int32).toInt = 1 := by (have := li_1; omega)
            have p103682 : (s0.1 6).toInt ≤ (u_38.1 6).toInt ∧ (u_38.1 6).toInt ≤ N := by omega
            have : (u_38.1 14).toInt = (t0.1 14).toInt := ie_i q103668 14 (by decide)
            have e103683 := tq_subr li_1 (u_38.1 14)
            try rw [Int.emod_eq_of_lt (show 0 ≤ (u_38.1 14).toInt - 1 + 2147483648 by omega) (show (u_38.1 14).toInt - 1 + 2147483648 < 4294967296 by omega)] at e103683
            have p103684 : (1 : Int32).toInt = 0 ∨ ((u_38.1 14) - 1).toInt = (s0.1 14).toInt := by (have := li_1; omega)
            exact k _ _ B103679 p103680 p103681 p103682 p103684
          · replace c103674 := q_eq c103674
            rw [li_0] at c103674
            have p103685 : ie [1, 2, 6, 7, 8, 9, 10, 11, 12, 13, 14] u_38.1 s0.1 := (ie_tr q103668 (by decide) (ie_tr q103654 (by decide) (ie_up (ie_tr q103636 (by decide) (ie_tr q103628 (by decide) (ie_tr q103618 (by decide) (ie_tr q103609 (by decide) (ie_up (ie_refl _ _) (by decide)))))) (by decide))))
            have p103686 : (0 : Int32).toInt = 0 ∨ (0 : Int32).toInt = 1 := by (have := li_0; omega)
            have p103687 : (s0.1 6).toInt ≤ (u_38.1 6).toInt ∧ (u_38.1 6).toInt ≤ N := by omega
            have : (u_38.1 14).toInt = (t0.1 14).toInt := ie_i q103668 14 (by decide)
            have p103688 : (0 : Int32).toInt = 0 ∨ (u_38.1 14).toInt = (s0.1 14).toInt := by (have := li_0; omega)
            exact k _ _ q103667 p103685 p103686 p103687 p103688
        · have := q103661.1
          have := q103661.2.1
          have p103689 : ie [1, 2, 6, 7, 8, 9, 10, 11, 12, 13, 14] u103660.1 s0.1 := (ie_tr q103662 (by decide) (ie_up (ie_tr q103636 (by decide) (ie_tr q103628 (by decide) (ie_tr q103618 (by decide) (ie_tr q103609 (by decide) (ie_up (ie_refl _ _) (by decide)))))) (by decide)))
          have p103690 : (r103659).toInt = 0 ∨ (r103659).toInt = 1 := by omega
          have p103691 : (s0.1 6).toInt ≤ (u103660.1 6).toInt ∧ (u103660.1 6).toInt ≤ N := by omega
          have p103692 : (r103659).toInt = 0 ∨ (u103660.1 14).toInt = (s0.1 14).toInt := by omega
          exact k _ _ q103661 p103689 p103690 p103691 p103692
      · replace c103634 := q_eq c103634
        rw [li_0] at c103634
        have p103693 : ie [1, 2, 6, 7, 8, 9, 10, 11, 12, 13, 14] u_8.1 s0.1 := (ie_tr q103628 (by decide) (ie_tr q103618 (by decide) (ie_tr q103609 (by decide) (ie_up (ie_refl _ _) (by decide)))))
        have p103694 : (0 : Int32).toInt = 0 ∨ (0 : Int32).toInt = 1 := by (have := li_0; omega)
        have p103695 : (s0.1 6).toInt ≤ (u_8.1 6).toInt ∧ (u_8.1 6).toInt ≤ N := by omega
        have : (u_8.1 14).toInt = (u_5.1 14).toInt := ie_i q103628 14 (by decide)
        have : (u_5.1 14).toInt = (u_2.1 14).toInt := ie_i q103618 14 (by decide)
        have : (u_2.1 14).toInt = (s0.1 14).toInt := ie_i q103609 14 (by decide)
        have p103696 : (0 : Int32).toInt = 0 ∨ (u_8.1 14).toInt = (s0.1 14).toInt := by (have := li_0; omega)
        exact k _ _ q103627 p103693 p103694 p103695 p103696
    · replace c103624 := q_eq c103624
      rw [li_40] at c103624
      refine ⟨fun c103697 => ?_, fun c103698 => ?_⟩
      · replace c103697 := q_neq c103697
        rw [li_3] at c103697
        have : (u_5.1 14).toInt = (u_2.1 14).toInt := ie_i q103618 14 (by decide)
        have : (u_2.1 14).toInt = (s0.1 14).toInt := ie_i q103609 14 (by decide)
        have p103699 : 0 ≤ (u_5.1 6).toInt ∧ (u_5.1 6).toInt ≤ N := by omega
        have p103700 : ¬ ((40 : Int32)).toInt = -1 := by (have := li_40; omega)
        refine wq_X7_mustByte q103617 p103699 p103700 (fun r_41 u_42 q103701 q103702 q103703 q103704 q103705 q103706 => ?_)
        have := q103701.1
        have := q103701.2.1
        refine ⟨fun c103707 => ?_, fun c103708 => ?_⟩
        · replace c103707 := q_neq c103707
          rw [li_0] at c103707
          refine wq_X7_isDone q103701 (fun r_44 u_45 q103709 q103710 q103711 => ?_)
          have := q103709.1
          have := q103709.2.1
          have : (u_45.1 6).toInt = (u_42.1 6).toInt := ie_i q103710 6 (by decide)
          have p103712 : 0 < D := by omega
          have : (u_45.1 5).toInt = (u_42.1 5).toInt := ie_i q103710 5 (by decide)
          have : (u_42.1 5).toInt = (u_5.1 5).toInt := ie_i q103702 5 (by decide)
          have : (u_5.1 5).toInt = (u_2.1 5).toInt := ie_i q103618 5 (by decide)
          have : (u_2.1 5).toInt = (s0.1 5).toInt := ie_i q103609 5 (by decide)
          have p103713 : (u_45.1 5).toInt = N := by omega
          have : (u_45.1 0).toInt = (u_42.1 0).toInt := ie_i q103710 0 (by decide)
          have : (u_42.1 0).toInt = (u_5.1 0).toInt := ie_i q103702 0 (by decide)
          have : (u_5.1 0).toInt = (u_2.1 0).toInt := ie_i q103618 0 (by decide)
          have : (u_2.1 0).toInt = (s0.1 0).toInt := ie_i q103609 0 (by decide)
          have p103714 : 0 ≤ (u_45.1 0).toInt ∧ (u_45.1 0).toInt ≤ 10 := by omega
          have p103715 : 0 ≤ N ∧ N ≤ 400 := by omega
          have p103716 : 0 ≤ R ∧ R ≤ 6 ∧ 0 ≤ W ∧ W ≤ 10 ∧ 0 ≤ R * W ∧ R * W ≤ 40 ∧ 0 ≤ D ∧ D ≤ 4 ∧ (D ≤ 0 ∨ 1 ≤ R) ∧ (1 ≤ R ∨ R * W = 0) := by omega
          have B103717 : mb (N) (R) (W) (D) ((va_up u_45.1 14 ((u_45.1 14) + 1)), u_45.2.1, u_45.2.2.1, u_45.2.2.2) := ⟨p103713, p103714, p103715, p103716, q103709.2.2.2.2.1, q103709.2.2.2.2.2.1, q103709.2.2.2.2.2.2.1, q103709.2.2.2.2.2.2.2⟩
          have p103718 : ie [1, 2, 6, 7, 8, 9, 10, 11, 12, 13, 14] (va_up u_45.1 14 ((u_45.1 14) + 1)) (va_up u_45.1 14 ((u_45.1 14) + 1)) := (ie_refl _ _)
          have : (u_45.1 14).toInt = (u_42.1 14).toInt := ie_i q103710 14 (by decide)
          have : (u_42.1 14).toInt = (u_5.1 14).toInt := ie_i q103702 14 (by decide)
          have e103719 := tq_addr li_1 (u_45.1 14)
          try rw [Int.emod_eq_of_lt (show 0 ≤ (u_45.1 14).toInt + 1 + 2147483648 by omega) (show (u_45.1 14).toInt + 1 + 2147483648 < 4294967296 by omega)] at e103719
          have p103720 : ((u_45.1 14) + 1).toInt = 3 := by omega
          have p103721 : (u_45.1 6).toInt = ((u_45.1 6).toInt) := by omega
          have p103722 : 0 ≤ ((u_45.1 6).toInt) ∧ ((u_45.1 6).toInt) ≤ (u_45.1 6).toInt ∧ (u_45.1 6).toInt ≤ N := by omega
          have p103723 : 0 ≤ (0 : Int32).toInt ∧ (0 : Int32).toInt ≤ 21 ∧ (u_2.1 8).toInt ≤ 20 := by (have := li_0; omega)
          obtain ⟨f103724, g103725⟩ := fu_e 50
          have p103726 : 21 - (0 : Int32).toInt < (f103724 : Int) := by (have := li_0; omega)
          refine ⟨f103724, wq_X7_goesTimes_2_L90b p103712 (fun t0 z1 z2 z3 z4 z5 q103727 q103728 q103729 q103730 q103731 q103732 => ?_) (fun r103733 u103734 q103735 q103736 q103737 q103738 => ?_) f103724 _ _ _ _ _ _ B103717 p103718 p103720 p103721 p103722 p103723 p103726⟩
          · have := q103727.1
            have := q103727.2.1
            have p103739 : 0 ≤ (t0.1 6).toInt ∧ (t0.1 6).toInt ≤ N := by omega
            have p103740 : ¬ ((41 : Int32)).toInt = -1 := by (have := li_41; omega)
            refine wq_X7_mustByte q103727 p103739 p103740 (fun r_71 u_72 q103741 q103742 q103743 q103744 q103745 q103746 => ?_)
            have := q103741.1
            have := q103741.2.1
            refine ⟨fun c103747 => ?_, fun c103748 => ?_⟩
            · replace c103747 := q_neq c103747
              rw [li_0] at c103747
              have : (u_72.1 5).toInt = (t0.1 5).toInt := ie_i q103742 5 (by decide)
              have : (t0.1 5).toInt = (u_45.1 5).toInt := ie_i q103728 5 (by decide)
              have p103749 : (u_72.1 5).toInt = N := by omega
              have : (u_72.1 0).toInt = (t0.1 0).toInt := ie_i q103742 0 (by decide)
              have : (t0.1 0).toInt = (u_45.1 0).toInt := ie_i q103728 0 (by decide)
              have p103750 : 0 ≤ (u_72.1 0).toInt ∧ (u_72.1 0).toInt ≤ 10 := by omega
              have p103751 : 0 ≤ N ∧ N ≤ 400 := by omega
              have p103752 : 0 ≤ R ∧ R ≤ 6 ∧ 0 ≤ W ∧ W ≤ 10 ∧ 0 ≤ R * W ∧ R * W ≤ 40 ∧ 0 ≤ D ∧ D ≤ 4 ∧ (D ≤ 0 ∨ 1 ≤ R) ∧ (1 ≤ R ∨ R * W = 0) := by omega
              have B103753 : mb (N) (R) (W) (D) ((va_up u_72.1 14 ((u_72.1 14) - 1)), u_72.2.1, u_72.2.2.1, u_72.2.2.2) := ⟨p103749, p103750, p103751, p103752, q103741.2.2.2.2.1, q103741.2.2.2.2.2.1, q103741.2.2.2.2.2.2.1, q103741.2.2.2.2.2.2.2⟩
              have p103754 : ie [1, 2, 6, 7, 8, 9, 10, 11, 12, 13, 14] (va_up u_72.1 14 ((u_72.1 14) - 1)) s0.1 := (ie_up (ie_tr q103742 (by decide) (ie_tr q103728 (by decide) (ie_up (ie_tr q103710 (by decide) (ie_tr q103702 (by decide) (ie_tr q103618 (by decide) (ie_tr q103609 (by decide) (ie_up (ie_refl _ _) (by decide)))))) (by decide)))) (by decide))
              have p103755 : (1 : Int32).toInt = 0 ∨ (1 : Int32).toInt = 1 := by (have := li_1; omega)
              have p103756 : (s0.1 6).toInt ≤ (u_72.1 6).toInt ∧ (u_72.1 6).toInt ≤ N := by omega
              have : (u_72.1 14).toInt = (t0.1 14).toInt := ie_i q103742 14 (by decide)
              have e103757 := tq_subr li_1 (u_72.1 14)
              try rw [Int.emod_eq_of_lt (show 0 ≤ (u_72.1 14).toInt - 1 + 2147483648 by omega) (show (u_72.1 14).toInt - 1 + 2147483648 < 4294967296 by omega)] at e103757
              have p103758 : (1 : Int32).toInt = 0 ∨ ((u_72.1 14) - 1).toInt = (s0.1 14).toInt := by (have := li_1; omega)
              exact k _ _ B103753 p103754 p103755 p103756 p103758
            · replace c103748 := q_eq c103748
              rw [li_0] at c103748
              have p103759 : ie [1, 2, 6, 7, 8, 9, 10, 11, 12, 13, 14] u_72.1 s0.1 := (ie_tr q103742 (by decide) (ie_tr q103728 (by decide) (ie_up (ie_tr q103710 (by decide) (ie_tr q103702 (by decide) (ie_tr q103618 (by decide) (ie_tr q103609 (by decide) (ie_up (ie_refl _ _) (by decide)))))) (by decide))))
              have p103760 : (0 : Int32).toInt = 0 ∨ (0 : Int32).toInt = 1 := by (have := li_0; omega)
              have p103761 : (s0.1 6).toInt ≤ (u_72.1 6).toInt ∧ (u_72.1 6).toInt ≤ N := by omega
              have : (u_72.1 14).toInt = (t0.1 14).toInt := ie_i q103742 14 (by decide)
              have p103762 : (0 : Int32).toInt = 0 ∨ (u_72.1 14).toInt = (s0.1 14).toInt := by (have := li_0; omega)
              exact k _ _ q103741 p103759 p103760 p103761 p103762
          · have := q103735.1
            have := q103735.2.1
            have p103763 : ie [1, 2, 6, 7, 8, 9, 10, 11, 12, 13, 14] u103734.1 s0.1 := (ie_tr q103736 (by decide) (ie_up (ie_tr q103710 (by decide) (ie_tr q103702 (by decide) (ie_tr q103618 (by decide) (ie_tr q103609 (by decide) (ie_up (ie_refl _ _) (by decide)))))) (by decide)))
            have p103764 : (r103733).toInt = 0 ∨ (r103733).toInt = 1 := by omega
            have p103765 : (s0.1 6).toInt ≤ (u103734.1 6).toInt ∧ (u103734.1 6).toInt ≤ N := by omega
            have p103766 : (r103733).toInt = 0 ∨ (u103734.1 14).toInt = (s0.1 14).toInt := by omega
            exact k _ _ q103735 p103763 p103764 p103765 p103766
        · replace c103708 := q_eq c103708
          rw [li_0] at c103708
          have p103767 : ie [1, 2, 6, 7, 8, 9, 10, 11, 12, 13, 14] u_42.1 s0.1 := (ie_tr q103702 (by decide) (ie_tr q103618 (by decide) (ie_tr q103609 (by decide) (ie_up (ie_refl _ _) (by decide)))))
          have p103768 : (0 : Int32).toInt = 0 ∨ (0 : Int32).toInt = 1 := by (have := li_0; omega)
          have p103769 : (s0.1 6).toInt ≤ (u_42.1 6).toInt ∧ (u_42.1 6).toInt ≤ N := by omega
          have : (u_42.1 14).toInt = (u_5.1 14).toInt := ie_i q103702 14 (by decide)
          have p103770 : (0 : Int32).toInt = 0 ∨ (u_42.1 14).toInt = (s0.1 14).toInt := by (have := li_0; omega)
          exact k _ _ q103701 p103767 p103768 p103769 p103770
      · replace c103698 := q_eq c103698
        rw [li_3] at c103698
        have : (u_5.1 14).toInt = (u_2.1 14).toInt := ie_i q103618 14 (by decide)
        have : (u_2.1 14).toInt = (s0.1 14).toInt := ie_i q103609 14 (by decide)
        refine wq_X7_fails q103617 (fun r_74 u_75 q103771 q103772 q103773 q103774 => ?_)
        have := q103771.1
        have := q103771.2.1
        refine ⟨(nb_b (by omega)), ?_⟩
        have p103775 : ie [1, 2, 6, 7, 8, 9, 10, 11, 12, 13, 14] u_75.1 s0.1 := (ie_tr q103772 (by decide) (ie_tr q103618 (by decide) (ie_tr q103609 (by decide) (ie_up (ie_refl _ _) (by decide)))))
        have p103776 : (r_74).toInt = 0 ∨ (r_74).toInt = 1 := by omega
        have : (u_75.1 6).toInt = (u_5.1 6).toInt := ie_i q103772 6 (by decide)
        have p103777 : (s0.1 6).toInt ≤ (u_75.1 6).toInt ∧ (u_75.1 6).toInt ≤ N := by omega
        have : (u_75.1 14).toInt = (u_5.1 14).toInt := ie_i q103772 14 (by decide)
        have p103778 : (r_74).toInt = 0 ∨ (u_75.1 14).toInt = (s0.1 14).toInt := by omega
        exact k _ _ q103771 p103775 p103776 p103777 p103778
  · replace c103615 := q_eq c103615
    rw [li_0] at c103615
    have p103779 : ie [1, 2, 6, 7, 8, 9, 10, 11, 12, 13, 14] u_2.1 s0.1 := (ie_tr q103609 (by decide) (ie_up (ie_refl _ _) (by decide)))
    have p103780 : (0 : Int32).toInt = 0 ∨ (0 : Int32).toInt = 1 := by (have := li_0; omega)
    have p103781 : (s0.1 6).toInt ≤ (u_2.1 6).toInt ∧ (u_2.1 6).toInt ≤ N := by omega
    have : (u_2.1 14).toInt = (s0.1 14).toInt := ie_i q103609 14 (by decide)
    have p103782 : (0 : Int32).toInt = 0 ∨ (u_2.1 14).toInt = (s0.1 14).toInt := by (have := li_0; omega)
    exact k _ _ q103608 p103779 p103780 p103781 p103782
theorem wq_X7_goesOne_2 {post : Int32 → Md → Prop} {s0 : Md} {x1 : Int32} {N R W D : Int} (h103783 : mb (N) (R) (W) (D) s0) (h103784 : 0 < D) (h103785 : 0 ≤ (s0.1 6).toInt ∧ (s0.1 6).toInt ≤ N) (h103786 : (s0.1 14).toInt = 2) (k : ∀ (r : Int32) (u : Md), mb (N) (R) (W) (D) u → ie [1, 2, 6, 7, 8, 9, 10, 11, 12, 13, 14] u.1 s0.1 → (r).toInt = 0 ∨ (r).toInt = 1 → (s0.1 6).toInt ≤ (u.1 6).toInt ∧ (u.1 6).toInt ≤ N → (r).toInt = 0 ∨ (u.1 14).toInt = (s0.1 14).toInt → post r u) : wp_X7_goesOne_2 post s0 x1 := by
  unfold wp_X7_goesOne_2
  have := h103783.1
  have := h103783.2.1
  have := h103783.2.2.1
  have := h103783.2.2.2.1
  have p103787 : 0 ≤ (s0.1 6).toInt ∧ (s0.1 6).toInt ≤ N := by omega
  have p103788 : 1 ≤ ln 5 ∧ ln 5 ≤ 9 := by first | assumption | decide
  refine wq_X7_isWord h103783 p103787 p103788 (fun r_1 u_2 q103789 q103790 q103791 q103792 q103793 q103794 q103795 => ?_)
  have := q103789.1
  have := q103789.2.1
  have := ln_5
  refine ⟨fun c103796 => ?_, fun c103797 => ?_⟩
  · replace c103796 := q_eq c103796
    rw [li_0] at c103796
    have p103798 : 0 ≤ (u_2.1 6).toInt ∧ (u_2.1 6).toInt ≤ N := by omega
    have p103799 : 1 ≤ ln 7 ∧ ln 7 ≤ 9 := by first | assumption | decide
    refine wq_X7_isWord q103789 p103798 p103799 (fun r_4 u_5 q103800 q103801 q103802 q103803 q103804 q103805 q103806 => ?_)
    have := q103800.1
    have := q103800.2.1
    have := ln_7
    refine ⟨fun c103807 => ?_, fun c103808 => ?_⟩
    · replace c103807 := q_eq c103807
      rw [li_0] at c103807
      have p103809 : 0 ≤ (u_5.1 6).toInt ∧ (u_5.1 6).toInt ≤ N := by omega
      have p103810 : 1 ≤ ln 8 ∧ ln 8 ≤ 9 := by first | assumption | decide
      refine wq_X7_isWord q103800 p103809 p103810 (fun r_7 u_8 q103811 q103812 q103813 q103814 q103815 q103816 q103817 => ?_)
      have := q103811.1
      have := q103811.2.1
      have := ln_8
      refine ⟨fun c103818 => ?_, fun c103819 => ?_⟩
      · replace c103818 := q_eq c103818
        rw [li_0] at c103818
        have p103820 : 0 ≤ (u_8.1 6).toInt ∧ (u_8.1 6).toInt ≤ N := by omega
        have p103821 : 1 ≤ ln 9 ∧ ln 9 ≤ 9 := by first | assumption | decide
        refine wq_X7_isWord q103811 p103820 p103821 (fun r_10 u_11 q103822 q103823 q103824 q103825 q103826 q103827 q103828 => ?_)
        have := q103822.1
        have := q103822.2.1
        have := ln_9
        refine ⟨fun c103829 => ?_, fun c103830 => ?_⟩
        · replace c103829 := q_eq c103829
          rw [li_0] at c103829
          have p103831 : 0 ≤ (u_11.1 6).toInt ∧ (u_11.1 6).toInt ≤ N := by omega
          have p103832 : 1 ≤ ln 10 ∧ ln 10 ≤ 9 := by first | assumption | decide
          refine wq_X7_isWord q103822 p103831 p103832 (fun r_13 u_14 q103833 q103834 q103835 q103836 q103837 q103838 q103839 => ?_)
          have := q103833.1
          have := q103833.2.1
          have := ln_10
          refine ⟨fun c103840 => ?_, fun c103841 => ?_⟩
          · replace c103840 := q_eq c103840
            rw [li_0] at c103840
            have p103842 : 0 ≤ (u_14.1 6).toInt ∧ (u_14.1 6).toInt ≤ N := by omega
            have p103843 : 1 ≤ ln 6 ∧ ln 6 ≤ 9 := by first | assumption | decide
            refine wq_X7_isWord q103833 p103842 p103843 (fun r_16 u_17 q103844 q103845 q103846 q103847 q103848 q103849 q103850 => ?_)
            have := q103844.1
            have := q103844.2.1
            have := ln_6
            refine ⟨fun c103851 => ?_, fun c103852 => ?_⟩
            · replace c103851 := q_eq c103851
              rw [li_0] at c103851
              have p103853 : 0 ≤ (u_17.1 6).toInt ∧ (u_17.1 6).toInt ≤ N := by omega
              have p103854 : 1 ≤ ln 11 ∧ ln 11 ≤ 9 := by first | assumption | decide
              refine wq_X7_isWord q103844 p103853 p103854 (fun r_19 u_20 q103855 q103856 q103857 q103858 q103859 q103860 q103861 => ?_)
              have := q103855.1
              have := q103855.2.1
              have := ln_11
              refine ⟨fun c103862 => ?_, fun c103863 => ?_⟩
              · replace c103862 := q_eq c103862
                rw [li_0] at c103862
                refine wq_X7_fails q103855 (fun r_22 u_23 q103864 q103865 q103866 q103867 => ?_)
                have := q103864.1
                have := q103864.2.1
                refine ⟨(nb_b (by omega)), ?_⟩
                have p103868 : ie [1, 2, 6, 7, 8, 9, 10, 11, 12, 13, 14] u_23.1 s0.1 := (ie_tr q103865 (by decide) (ie_tr q103856 (by decide) (ie_tr q103845 (by decide) (ie_tr q103834 (by decide) (ie_tr q103823 (by decide) (ie_tr q103812 (by decide) (ie_tr q103801 (by decide) (ie_tr q103790 (by decide) (ie_refl _ _)))))))))
                have p103869 : (r_22).toInt = 0 ∨ (r_22).toInt = 1 := by omega
                have : (u_23.1 6).toInt = (u_20.1 6).toInt := ie_i q103865 6 (by decide)
                have p103870 : (s0.1 6).toInt ≤ (u_23.1 6).toInt ∧ (u_23.1 6).toInt ≤ N := by omega
                have : (u_23.1 14).toInt = (u_20.1 14).toInt := ie_i q103865 14 (by decide)
                have : (u_20.1 14).toInt = (u_17.1 14).toInt := ie_i q103856 14 (by decide)
                have : (u_17.1 14).toInt = (u_14.1 14).toInt := ie_i q103845 14 (by decide)
                have : (u_14.1 14).toInt = (u_11.1 14).toInt := ie_i q103834 14 (by decide)
                have : (u_11.1 14).toInt = (u_8.1 14).toInt := ie_i q103823 14 (by decide)
                have : (u_8.1 14).toInt = (u_5.1 14).toInt := ie_i q103812 14 (by decide)
                have : (u_5.1 14).toInt = (u_2.1 14).toInt := ie_i q103801 14 (by decide)
                have : (u_2.1 14).toInt = (s0.1 14).toInt := ie_i q103790 14 (by decide)
                have p103871 : (r_22).toInt = 0 ∨ (u_23.1 14).toInt = (s0.1 14).toInt := by omega
                exact k _ _ q103864 p103868 p103869 p103870 p103871
              · replace c103863 := q_neq c103863
                rw [li_0] at c103863
                have p103872 : 0 < D := by omega
                have p103873 : 0 ≤ (u_20.1 6).toInt ∧ (u_20.1 6).toInt + 5 ≤ N := by omega
                have : (u_20.1 14).toInt = (u_17.1 14).toInt := ie_i q103856 14 (by decide)
                have : (u_17.1 14).toInt = (u_14.1 14).toInt := ie_i q103845 14 (by decide)
                have : (u_14.1 14).toInt = (u_11.1 14).toInt := ie_i q103834 14 (by decide)
                have : (u_11.1 14).toInt = (u_8.1 14).toInt := ie_i q103823 14 (by decide)
                have : (u_8.1 14).toInt = (u_5.1 14).toInt := ie_i q103812 14 (by decide)
                have : (u_5.1 14).toInt = (u_2.1 14).toInt := ie_i q103801 14 (by decide)
                have : (u_2.1 14).toInt = (s0.1 14).toInt := ie_i q103790 14 (by decide)
                have p103874 : (u_20.1 14).toInt = 2 := by omega
                refine wq_X7_goesTimes_2 q103855 p103872 p103873 p103874 (fun r_25 u_26 q103875 q103876 q103877 q103878 q103879 => ?_)
                have := q103875.1
                have := q103875.2.1
                refine ⟨(nb_b (by omega)), ?_⟩
                have p103880 : ie [1, 2, 6, 7, 8, 9, 10, 11, 12, 13, 14] u_26.1 s0.1 := (ie_tr q103876 (by decide) (ie_tr q103856 (by decide) (ie_tr q103845 (by decide) (ie_tr q103834 (by decide) (ie_tr q103823 (by decide) (ie_tr q103812 (by decide) (ie_tr q103801 (by decide) (ie_tr q103790 (by decide) (ie_refl _ _)))))))))
                have p103881 : (r_25).toInt = 0 ∨ (r_25).toInt = 1 := by omega
                have p103882 : (s0.1 6).toInt ≤ (u_26.1 6).toInt ∧ (u_26.1 6).toInt ≤ N := by omega
                have p103883 : (r_25).toInt = 0 ∨ (u_26.1 14).toInt = (s0.1 14).toInt := by omega
                exact k _ _ q103875 p103880 p103881 p103882 p103883
            · replace c103852 := q_neq c103852
              rw [li_0] at c103852
              have p103884 : 0 < D := by omega
              have p103885 : 0 ≤ (u_17.1 6).toInt ∧ (u_17.1 6).toInt + 4 ≤ N := by omega
              refine wq_X7_goesLose q103844 p103884 p103885 (fun r_28 u_29 q103886 q103887 q103888 q103889 => ?_)
              have := q103886.1
              have := q103886.2.1
              refine ⟨(nb_b (by omega)), ?_⟩
              have p103890 : ie [1, 2, 6, 7, 8, 9, 10, 11, 12, 13, 14] u_29.1 s0.1 := (ie_tr q103887 (by decide) (ie_tr q103845 (by decide) (ie_tr q103834 (by decide) (ie_tr q103823 (by decide) (ie_tr q103812 (by decide) (ie_tr q103801 (by decide) (ie_tr q103790 (by decide) (ie_refl _ _))))))))
              have p103891 : (r_28).toInt = 0 ∨ (r_28).toInt = 1 := by omega
              have p103892 : (s0.1 6).toInt ≤ (u_29.1 6).toInt ∧ (u_29.1 6).toInt ≤ N := by omega
              have : (u_29.1 14).toInt = (u_17.1 14).toInt := ie_i q103887 14 (by decide)
              have : (u_17.1 14).toInt = (u_14.1 14).toInt := ie_i q103845 14 (by decide)
              have : (u_14.1 14).toInt = (u_11.1 14).toInt := ie_i q103834 14 (by decide)
              have : (u_11.1 14).toInt = (u_8.1 14).toInt := ie_i q103823 14 (by decide)
              have : (u_8.1 14).toInt = (u_5.1 14).toInt := ie_i q103812 14 (by decide)
              have : (u_5.1 14).toInt = (u_2.1 14).toInt := ie_i q103801 14 (by decide)
              have : (u_2.1 14).toInt = (s0.1 14).toInt := ie_i q103790 14 (by decide)
              have p103893 : (r_28).toInt = 0 ∨ (u_29.1 14).toInt = (s0.1 14).toInt := by omega
              exact k _ _ q103886 p103890 p103891 p103892 p103893
          · replace c103841 := q_neq c103841
            rw [li_0] at c103841
            have p103894 : 0 < D := by omega
            have p103895 : 0 ≤ (u_14.1 6).toInt ∧ (u_14.1 6).toInt + 6 ≤ N := by omega
            refine wq_X7_goesSettle q103833 p103894 p103895 (fun r_31 u_32 q103896 q103897 q103898 q103899 => ?_)
            have := q103896.1
            have := q103896.2.1
            refine ⟨(nb_b (by omega)), ?_⟩
            have p103900 : ie [1, 2, 6, 7, 8, 9, 10, 11, 12, 13, 14] u_32.1 s0.1 := (ie_tr q103897 (by decide) (ie_tr q103834 (by decide) (ie_tr q103823 (by decide) (ie_tr q103812 (by decide) (ie_tr q103801 (by decide) (ie_tr q103790 (by decide) (ie_refl _ _)))))))
            have p103901 : (r_31).toInt = 0 ∨ (r_31).toInt = 1 := by omega
            have p103902 : (s0.1 6).toInt ≤ (u_32.1 6).toInt ∧ (u_32.1 6).toInt ≤ N := by omega
            have : (u_32.1 14).toInt = (u_14.1 14).toInt := ie_i q103897 14 (by decide)
            have : (u_14.1 14).toInt = (u_11.1 14).toInt := ie_i q103834 14 (by decide)
            have : (u_11.1 14).toInt = (u_8.1 14).toInt := ie_i q103823 14 (by decide)
            have : (u_8.1 14).toInt = (u_5.1 14).toInt := ie_i q103812 14 (by decide)
            have : (u_5.1 14).toInt = (u_2.1 14).toInt := ie_i q103801 14 (by decide)
            have : (u_2.1 14).toInt = (s0.1 14).toInt := ie_i q103790 14 (by decide)
            have p103903 : (r_31).toInt = 0 ∨ (u_32.1 14).toInt = (s0.1 14).toInt := by omega
            exact k _ _ q103896 p103900 p103901 p103902 p103903
        · replace c103830 := q_neq c103830
          rw [li_0] at c103830
          have p103904 : 0 < D := by omega
          have p103905 : 0 ≤ (u_11.1 6).toInt ∧ (u_11.1 6).toInt + 4 ≤ N := by omega
          refine wq_X7_goesWait q103822 p103904 p103905 (fun r_34 u_35 q103906 q103907 q103908 q103909 => ?_)
          have := q103906.1
          have := q103906.2.1
          refine ⟨(nb_b (by omega)), ?_⟩
          have p103910 : ie [1, 2, 6, 7, 8, 9, 10, 11, 12, 13, 14] u_35.1 s0.1 := (ie_tr q103907 (by decide) (ie_tr q103823 (by decide) (ie_tr q103812 (by decide) (ie_tr q103801 (by decide) (ie_tr q103790 (by decide) (ie_refl _ _))))))
          have p103911 : (r_34).toInt = 0 ∨ (r_34).toInt = 1 := by omega
          have p103912 : (s0.1 6).toInt ≤ (u_35.1 6).toInt ∧ (u_35.1 6).toInt ≤ N := by omega
          have : (u_35.1 14).toInt = (u_11.1 14).toInt := ie_i q103907 14 (by decide)
          have : (u_11.1 14).toInt = (u_8.1 14).toInt := ie_i q103823 14 (by decide)
          have : (u_8.1 14).toInt = (u_5.1 14).toInt := ie_i q103812 14 (by decide)
          have : (u_5.1 14).toInt = (u_2.1 14).toInt := ie_i q103801 14 (by decide)
          have : (u_2.1 14).toInt = (s0.1 14).toInt := ie_i q103790 14 (by decide)
          have p103913 : (r_34).toInt = 0 ∨ (u_35.1 14).toInt = (s0.1 14).toInt := by omega
          exact k _ _ q103906 p103910 p103911 p103912 p103913
      · replace c103819 := q_neq c103819
        rw [li_0] at c103819
        have p103914 : 0 < D := by omega
        have p103915 : 0 ≤ (u_8.1 6).toInt ∧ (u_8.1 6).toInt + 4 ≤ N := by omega
        refine wq_X7_goesHome q103811 p103914 p103915 (fun r_37 u_38 q103916 q103917 q103918 q103919 => ?_)
        have := q103916.1
        have := q103916.2.1
        refine ⟨(nb_b (by omega)), ?_⟩
        have p103920 : ie [1, 2, 6, 7, 8, 9, 10, 11, 12, 13, 14] u_38.1 s0.1 := (ie_tr q103917 (by decide) (ie_tr q103812 (by decide) (ie_tr q103801 (by decide) (ie_tr q103790 (by decide) (ie_refl _ _)))))
        have p103921 : (r_37).toInt = 0 ∨ (r_37).toInt = 1 := by omega
        have p103922 : (s0.1 6).toInt ≤ (u_38.1 6).toInt ∧ (u_38.1 6).toInt ≤ N := by omega
        have : (u_38.1 14).toInt = (u_8.1 14).toInt := ie_i q103917 14 (by decide)
        have : (u_8.1 14).toInt = (u_5.1 14).toInt := ie_i q103812 14 (by decide)
        have : (u_5.1 14).toInt = (u_2.1 14).toInt := ie_i q103801 14 (by decide)
        have : (u_2.1 14).toInt = (s0.1 14).toInt := ie_i q103790 14 (by decide)
        have p103923 : (r_37).toInt = 0 ∨ (u_38.1 14).toInt = (s0.1 14).toInt := by omega
        exact k _ _ q103916 p103920 p103921 p103922 p103923
    · replace c103808 := q_neq c103808
      rw [li_0] at c103808
      have p103924 : 0 < D := by omega
      have p103925 : 0 ≤ (u_5.1 6).toInt ∧ (u_5.1 6).toInt + 6 ≤ N := by omega
      refine wq_X7_goesScroll q103800 p103924 p103925 (fun r_40 u_41 q103926 q103927 q103928 q103929 => ?_)
      have := q103926.1
      have := q103926.2.1
      refine ⟨(nb_b (by omega)), ?_⟩
      have p103930 : ie [1, 2, 6, 7, 8, 9, 10, 11, 12, 13, 14] u_41.1 s0.1 := (ie_tr q103927 (by decide) (ie_tr q103801 (by decide) (ie_tr q103790 (by decide) (ie_refl _ _))))
      have p103931 : (r_40).toInt = 0 ∨ (r_40).toInt = 1 := by omega
      have p103932 : (s0.1 6).toInt ≤ (u_41.1 6).toInt ∧ (u_41.1 6).toInt ≤ N := by omega
      have : (u_41.1 14).toInt = (u_5.1 14).toInt := ie_i q103927 14 (by decide)
      have : (u_5.1 14).toInt = (u_2.1 14).toInt := ie_i q103801 14 (by decide)
      have : (u_2.1 14).toInt = (s0.1 14).toInt := ie_i q103790 14 (by decide)
      have p103933 : (r_40).toInt = 0 ∨ (u_41.1 14).toInt = (s0.1 14).toInt := by omega
      exact k _ _ q103926 p103930 p103931 p103932 p103933
  · replace c103797 := q_neq c103797
    rw [li_0] at c103797
    have p103934 : 0 < D := by omega
    have p103935 : 0 ≤ (u_2.1 6).toInt ∧ (u_2.1 6).toInt + 3 ≤ N := by omega
    refine wq_X7_goesRow q103789 p103934 p103935 (fun r_43 u_44 q103936 q103937 q103938 q103939 => ?_)
    have := q103936.1
    have := q103936.2.1
    refine ⟨(nb_b (by omega)), ?_⟩
    have p103940 : ie [1, 2, 6, 7, 8, 9, 10, 11, 12, 13, 14] u_44.1 s0.1 := (ie_tr q103937 (by decide) (ie_tr q103790 (by decide) (ie_refl _ _)))
    have p103941 : (r_43).toInt = 0 ∨ (r_43).toInt = 1 := by omega
    have p103942 : (s0.1 6).toInt ≤ (u_44.1 6).toInt ∧ (u_44.1 6).toInt ≤ N := by omega
    have : (u_44.1 14).toInt = (u_2.1 14).toInt := ie_i q103937 14 (by decide)
    have : (u_2.1 14).toInt = (s0.1 14).toInt := ie_i q103790 14 (by decide)
    have p103943 : (r_43).toInt = 0 ∨ (u_44.1 14).toInt = (s0.1 14).toInt := by omega
    exact k _ _ q103936 p103940 p103941 p103942 p103943
theorem wq_X7_goesAll_2_L10 {post : Int32 → Md → Prop} {e27 : Md → Int32 → Prop} {e29 : Md → Int32 → Prop} {D N R W G : Int} {A : Nat → Int32} (h103944 : 0 < D) (ke27 : ∀ (t0 : Md) (z1 : Int32), mb (N) (R) (W) (D) t0 → ie [1, 2, 6, 7, 8, 9, 10, 11, 12, 13, 14] t0.1 A → G ≤ (t0.1 6).toInt ∧ (t0.1 6).toInt ≤ N → e27 t0 z1) (ke29 : ∀ (t0 : Md) (z1 : Int32), mb (N) (R) (W) (D) t0 → ie [1, 2, 6, 7, 8, 9, 10, 11, 12, 13, 14] t0.1 A → (t0.1 14).toInt = 2 → G ≤ (t0.1 6).toInt ∧ (t0.1 6).toInt ≤ N → e29 t0 z1) : ∀ (n : Nat) (t0 : Md) (z1 : Int32), mb (N) (R) (W) (D) t0 → ie [1, 2, 6, 7, 8, 9, 10, 11, 12, 13, 14] t0.1 A → (t0.1 14).toInt = 2 → 0 ≤ G ∧ G ≤ (t0.1 6).toInt ∧ (t0.1 6).toInt ≤ N → N - (t0.1 6).toInt < (n : Int) → wp_X7_goesAll_2_L10 post e27 e29 n t0 z1 := by
  intro n
  induction n with
  | zero =>
    intro t0 z1 i103945 i103946 i103947 i103948 i103949
    have := i103945.1
    have := i103945.2.1
    have := i103945.2.2.1
    have := i103945.2.2.2.1
    exfalso
    omega
  | succ n ih =>
    intro t0 z1 i103945 i103946 i103947 i103948 i103949
    unfold wp_X7_goesAll_2_L10
    have := i103945.1
    have := i103945.2.1
    have := i103945.2.2.1
    have := i103945.2.2.2.1
    have p103950 : 0 ≤ (t0.1 6).toInt ∧ (t0.1 6).toInt ≤ N := by omega
    have p103951 : ¬ ((59 : Int32)).toInt = -1 := by (have := li_59; omega)
    refine wq_X7_takesByte i103945 p103950 p103951 (fun r_4 u_5 q103952 q103953 q103954 q103955 q103956 q103957 => ?_)
    have := q103952.1
    have := q103952.2.1
    refine ⟨fun c103958 => ?_, fun c103959 => ?_⟩
    · replace c103958 := q_eq c103958
      rw [li_0] at c103958
      have p103960 : ie [1, 2, 6, 7, 8, 9, 10, 11, 12, 13, 14] u_5.1 A := (ie_tr q103953 (by decide) (ie_tr i103946 (by decide) (ie_refl _ _)))
      have : (u_5.1 14).toInt = (t0.1 14).toInt := ie_i q103953 14 (by decide)
      have p103961 : (u_5.1 14).toInt = 2 := by omega
      have p103962 : G ≤ (u_5.1 6).toInt ∧ (u_5.1 6).toInt ≤ N := by omega
      exact ke29 _ _ q103952 p103960 p103961 p103962
    · replace c103959 := q_neq c103959
      rw [li_0] at c103959
      have p103963 : 0 < D := by omega
      have p103964 : 0 ≤ (u_5.1 6).toInt ∧ (u_5.1 6).toInt ≤ N := by omega
      have : (u_5.1 14).toInt = (t0.1 14).toInt := ie_i q103953 14 (by decide)
      have p103965 : (u_5.1 14).toInt = 2 := by omega
      refine wq_X7_goesOne_2 q103952 p103963 p103964 p103965 (fun r_7 u_8 q103966 q103967 q103968 q103969 q103970 => ?_)
      have := q103966.1
      have := q103966.2.1
      refine ⟨fun c103971 => ?_, fun c103972 => ?_⟩
      · replace c103971 := q_neq c103971
        rw [li_0] at c103971
        have p103973 : ie [1, 2, 6, 7, 8, 9, 10, 11, 12, 13, 14] u_8.1 A := (ie_tr q103967 (by decide) (ie_tr q103953 (by decide) (ie_tr i103946 (by decide) (ie_refl _ _))))
        have p103974 : (u_8.1 14).toInt = 2 := by omega
        have p103975 : 0 ≤ G ∧ G ≤ (u_8.1 6).toInt ∧ (u_8.1 6).toInt ≤ N := by omega
        have p103976 : N - (u_8.1 6).toInt < ((n : Nat) : Int) := by (omega)
        exact ih _ _ q103966 p103973 p103974 p103975 p103976
      · replace c103972 := q_eq c103972
        rw [li_0] at c103972
        have p103977 : ie [1, 2, 6, 7, 8, 9, 10, 11, 12, 13, 14] u_8.1 A := (ie_tr q103967 (by decide) (ie_tr q103953 (by decide) (ie_tr i103946 (by decide) (ie_refl _ _))))
        have p103978 : G ≤ (u_8.1 6).toInt ∧ (u_8.1 6).toInt ≤ N := by omega
        exact ke27 _ _ q103966 p103977 p103978
theorem wq_X7_goesAll_2 {post : Int32 → Md → Prop} {s0 : Md} {x1 : Int32} {N R W D : Int} (h103979 : mb (N) (R) (W) (D) s0) (h103980 : 0 < D) (h103981 : 0 ≤ (s0.1 6).toInt ∧ (s0.1 6).toInt ≤ N) (h103982 : (s0.1 14).toInt = 2) (k : ∀ (r : Int32) (u : Md), mb (N) (R) (W) (D) u → ie [1, 2, 6, 7, 8, 9, 10, 11, 12, 13, 14] u.1 s0.1 → (r).toInt = 0 ∨ (r).toInt = 1 → (s0.1 6).toInt ≤ (u.1 6).toInt ∧ (u.1 6).toInt ≤ N → (r).toInt = 0 ∨ (u.1 14).toInt = (s0.1 14).toInt → post r u) : wp_X7_goesAll_2 post s0 x1 := by
  unfold wp_X7_goesAll_2
  have := h103979.1
  have := h103979.2.1
  have := h103979.2.2.1
  have := h103979.2.2.2.1
  have p103983 : 0 < D := by omega
  have p103984 : 0 ≤ (s0.1 6).toInt ∧ (s0.1 6).toInt ≤ N := by omega
  have p103985 : (s0.1 14).toInt = 2 := by omega
  refine wq_X7_goesOne_2 h103979 p103983 p103984 p103985 (fun r_1 u_2 q103986 q103987 q103988 q103989 q103990 => ?_)
  have := q103986.1
  have := q103986.2.1
  refine ⟨fun c103991 => ?_, fun c103992 => ?_⟩
  · replace c103991 := q_neq c103991
    rw [li_0] at c103991
    have p103993 : 0 < D := by omega
    have p103994 : ie [1, 2, 6, 7, 8, 9, 10, 11, 12, 13, 14] u_2.1 u_2.1 := (ie_refl _ _)
    have p103995 : (u_2.1 14).toInt = 2 := by omega
    have p103996 : 0 ≤ ((u_2.1 6).toInt) ∧ ((u_2.1 6).toInt) ≤ (u_2.1 6).toInt ∧ (u_2.1 6).toInt ≤ N := by omega
    obtain ⟨f103997, g103998⟩ := fu_e 500
    have p103999 : N - (u_2.1 6).toInt < (f103997 : Int) := by (omega)
    refine ⟨f103997, wq_X7_goesAll_2_L10 p103993 (fun t0 z1 q104000 q104001 q104002 => ?_) (fun t0 z1 q104003 q104004 q104005 q104006 => ?_) f103997 _ _ q103986 p103994 p103995 p103996 p103999⟩
    · have := q104000.1
      have := q104000.2.1
      have p104007 : ie [1, 2, 6, 7, 8, 9, 10, 11, 12, 13, 14] t0.1 s0.1 := (ie_tr q104001 (by decide) (ie_tr q103987 (by decide) (ie_refl _ _)))
      have p104008 : (0 : Int32).toInt = 0 ∨ (0 : Int32).toInt = 1 := by (have := li_0; omega)
      have p104009 : (s0.1 6).toInt ≤ (t0.1 6).toInt ∧ (t0.1 6).toInt ≤ N := by omega
      have p104010 : (0 : Int32).toInt = 0 ∨ (t0.1 14).toInt = (s0.1 14).toInt := by (have := li_0; omega)
      exact k _ _ q104000 p104007 p104008 p104009 p104010
    · have := q104003.1
      have := q104003.2.1
      have p104011 : ie [1, 2, 6, 7, 8, 9, 10, 11, 12, 13, 14] t0.1 s0.1 := (ie_tr q104004 (by decide) (ie_tr q103987 (by decide) (ie_refl _ _)))
      have p104012 : (1 : Int32).toInt = 0 ∨ (1 : Int32).toInt = 1 := by (have := li_1; omega)
      have p104013 : (s0.1 6).toInt ≤ (t0.1 6).toInt ∧ (t0.1 6).toInt ≤ N := by omega
      have p104014 : (1 : Int32).toInt = 0 ∨ (t0.1 14).toInt = (s0.1 14).toInt := by (have := li_1; omega)
      exact k _ _ q104003 p104011 p104012 p104013 p104014
  · replace c103992 := q_eq c103992
    rw [li_0] at c103992
    have p104015 : ie [1, 2, 6, 7, 8, 9, 10, 11, 12, 13, 14] u_2.1 s0.1 := (ie_tr q103987 (by decide) (ie_refl _ _))
    have p104016 : (0 : Int32).toInt = 0 ∨ (0 : Int32).toInt = 1 := by (have := li_0; omega)
    have p104017 : (s0.1 6).toInt ≤ (u_2.1 6).toInt ∧ (u_2.1 6).toInt ≤ N := by omega
    have p104018 : (0 : Int32).toInt = 0 ∨ (u_2.1 14).toInt = (s0.1 14).toInt := by (have := li_0; omega)
    exact k _ _ q103986 p104015 p104016 p104017 p104018
