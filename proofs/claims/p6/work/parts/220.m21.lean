theorem wq_X6_exchange {post : Int32 → Bd → Pa → Prop} {s2 : Bd} {s6 : Pa} {x1 : Int32} {x2 : Int32} {x3 : Int32} {R W : Int} (h4154 : bi (R) (W) s2) (h4155 : pa s6) (k : ∀ (r : Int32) (ua : Bd) (ub : Pa), bi (R) (W) ua → pa ub → post r ua ub) : wp_X6_exchange post s2 s6 x1 x2 x3 := by
  unfold wp_X6_exchange
  have := h4154.1
  have := h4154.2.1
  have := h4154.2.2.1
  have := h4154.2.2.2.1
  have := h4154.2.2.2.2.2.2.2.2.2
  have := h4155.1
  refine wq_X0_isMovable h4154 (fun r_1 q4156 => ?_)
  refine ⟨fun c4157 => ?_, fun c4158 => ?_⟩
  · replace c4157 := q_eq c4157
    rw [li_0] at c4157
    exact k _ _ _ h4154 h4155
  · replace c4158 := q_neq c4158
    rw [li_0] at c4158
    refine wq_X0_isMovable h4154 (fun r_4 q4159 => ?_)
    refine ⟨fun c4160 => ?_, fun c4161 => ?_⟩
    · replace c4160 := q_eq c4160
      rw [li_0] at c4160
      exact k _ _ _ h4154 h4155
    · replace c4161 := q_neq c4161
      rw [li_0] at c4161
      refine ⟨fun c4162 => ?_, fun c4163 => ?_⟩
      · replace c4162 := q_neq c4162
        refine wq_X3_push h4155 h4154 (fun s_10 q4164 => ?_)
        have := q4164.1
        refine wq_X0_swapSigns h4154 (fun u_15 q4165 => ?_)
        have := q4165.1
        have := q4165.2.1
        have := q4165.2.2.1
        have := q4165.2.2.2.2.2.2.2.2.2
        refine wq_X0_emptyLog q4165 (fun b_18 q4166 => ?_)
        have := q4166.1
        have := q4166.2.1
        have := q4166.2.2.1
        have := q4166.2.2.2.2.2.2.2.2.2
        exact k _ _ _ q4166 q4164
      · replace c4163 := q_eq c4163
        exact k _ _ _ h4154 h4155
theorem wq_X6_run {post : Int32 → Tp → Bd → Mo → Pg → Pa → Prop} {s1 : Tp} {s2 : Bd} {s4 : Mo} {s5 : Pg} {s6 : Pa} {N R W : Int} (h1 : tz N s1) (h2 : bi R W s2) (h4 : mo s4) (h5 : pz s5) (h6 : pa s6) (k : ∀ (r : Int32) (ua : Tp) (ub : Bd) (uc : Mo) (ud : Pg) (ue : Pa), tz 0 ua → bi R W ub → mo uc → pz ud → pa ue → post r ua ub uc ud ue) : wp_X6_run post s1 s2 s4 s5 s6 := by
  unfold wp_X6_run
  have e0 : (0 : Int32).toInt = 0 := rfl
  refine wq_X6_whyNotProgram h1 h2 h5 (fun r ua ub ha hb hc => ?_)
  have t0 : tz 0 ((va_up ua.1 0 0), ua.2) := ⟨e0, by omega⟩
  refine ⟨fun c => k _ _ _ _ _ _ t0 h2 h4 hb h6, fun c => ?_⟩
  have c2 := q_eq c
  have g : pg R ub ∧ 1 ≤ R := by
    rcases hc with g | g
    · exact absurd (c2.trans e0) g
    · exact g
  refine wq_X3_push h6 h2 (fun s hs => ?_)
  exact wq_X6_doProgram ha h2 h4 g.1 g.2 (fun r2 va vb vc a1 a2 a3 => k _ _ _ _ _ _ t0 a1 a2 ⟨a3.1, a3.2.1⟩ hs)
theorem wq_X6_undo {post : Int32 → Bd → Pa → Prop} {s2 : Bd} {s6 : Pa} {R W : Int} (h4167 : bi (R) (W) s2) (h4168 : pa s6) (k : ∀ (r : Int32) (ua : Bd) (ub : Pa) (R4 W4 : Int), bi (R4) (W4) ua → pa ub → post r ua ub) : wp_X6_undo post s2 s6 := by
  unfold wp_X6_undo
  have := h4167.1
  have := h4167.2.1
  have := h4167.2.2.1
  have := h4167.2.2.2.1
  have := h4167.2.2.2.2.2.2.2.2.2
  have := h4168.1
  refine wq_X3_pop h4168 h4167 (fun r_2 s_3 b_6 R44169 W44170 q4171 q4172 => ?_)
  have := q4171.1
  have := q4172.1
  have := q4172.2.1
  have := q4172.2.2.1
  have := q4172.2.2.2.1
  have := q4172.2.2.2.2.2.2.2.2.2
  refine ⟨fun c4173 => ?_, fun c4174 => ?_⟩
  · replace c4173 := q_eq c4173
    rw [li_0] at c4173
    exact k _ _ _ (R44169) (W44170) q4172 q4171
  · replace c4174 := q_neq c4174
    rw [li_0] at c4174
    exact k _ _ _ (R44169) (W44170) q4172 q4171
theorem wq_X6_keep {post : Int32 → (Nat → Option Bd) → Prop} {s2 : Bd} {z7 : Nat → Option Bd} {x1 : Int32} {R W : Int} (h2 : bi R W s2) (h7 : ∀ k, ob (z7 k)) (k : ∀ (r : Int32) (u : Nat → Option Bd), (∀ k, ob (u k)) → post r u) : wp_X6_keep post s2 z7 x1 := by
  unfold wp_X6_keep
  have e0 : (0 : Int32).toInt = 0 := rfl
  refine wq_X6_isShelf (fun r hr => ⟨fun c => ?_, fun c => k _ _ h7⟩)
  have := q_neq c
  refine ⟨vi (by omega) (by omega), ?_⟩
  split
  · exact wq_X0_copyAll fr_bi h2 (fun u hu => wq_X0_cells h2 (fun r2 _ => k _ _ (ob_up h7 (ob_some hu))))
  · rename_i B hB
    obtain ⟨R2, W2, hb⟩ := h7 _ B hB
    exact wq_X0_copyAll hb h2 (fun u hu => wq_X0_cells h2 (fun r2 _ => k _ _ (ob_up h7 (ob_some hu))))
theorem wq_X6_back {post : Int32 → Bd → Pa → (Nat → Option Bd) → Prop} {s2 : Bd} {s6 : Pa} {z7 : Nat → Option Bd} {x1 : Int32} {R W : Int} (h2 : bi R W s2) (h6 : pa s6) (h7 : ∀ k, ob (z7 k)) (k : ∀ (r : Int32) (ua : Bd) (ub : Pa) (uc : Nat → Option Bd) (R4 W4 : Int), bi R4 W4 ua → pa ub → (∀ k, ob (uc k)) → ub.2 = s6.2 → post r ua ub uc) : wp_X6_back post s2 s6 z7 x1 := by
  unfold wp_X6_back
  have e0 : (0 : Int32).toInt = 0 := rfl
  have d := h6.1
  refine wq_X6_isShelf (fun r hr => ⟨fun c => ?_, fun c => k _ _ _ _ R W h2 h6 h7 rfl⟩)
  have := q_neq c
  have nn : pa ((va_up s6.1 0 0), s6.2) := ⟨by
    show 0 ≤ (0 : Int32).toInt ∧ (0 : Int32).toInt ≤ 10 ∧ 0 ≤ (s6.1 1).toInt ∧ (s6.1 1).toInt ≤ 9
    omega, h6.2⟩
  refine ⟨vi (by omega) (by omega), ?_⟩
  split
  · exact k _ _ _ _ R W h2 h6 h7 rfl
  · rename_i B hB
    obtain ⟨R2, W2, hb⟩ := h7 _ B hB
    exact wq_X0_copyAll h2 hb (fun u hu => wq_X0_cells hu (fun r2 _ => k _ _ _ _ R2 W2 hu nn h7 rfl))
theorem wq_X6_tell {post : Int32 → Tp → Bd → Bd → Pa → Prop} {s1 : Tp} {s2 : Bd} {s3 : Bd} {s6 : Pa} {N R W R3 W3 : Int} (h4175 : tz (N) s1) (h4176 : bi (R) (W) s2) (h4177 : bi (R3) (W3) s3) (h4178 : pa s6) (k : ∀ (r : Int32) (ua : Tp) (ub : Bd) (uc : Bd) (ud : Pa) (R4 W4 R5 W5 : Int), tz ((0 : Int)) ua → bi (R4) (W4) ub → bi (R5) (W5) uc → pa ud → ud.2 = s6.2 → post r ua ub uc ud) : wp_X6_tell post s1 s2 s3 s6 := by
  unfold wp_X6_tell
  have := h4175.1
  have := h4175.2
  have := h4176.1
  have := h4176.2.1
  have := h4176.2.2.1
  have := h4176.2.2.2.1
  have := h4176.2.2.2.2.2.2.2.2.2
  have := h4177.1
  have := h4177.2.1
  have := h4177.2.2.1
  have := h4177.2.2.2.1
  have := h4177.2.2.2.2.2.2.2.2.2
  have := h4178.1
  refine wq_X1_readInto h4177 h4175 (fun u_2a u_2b R24179 W24180 q4181 q4182 => ?_)
  have := q4181.1
  have := q4181.2.1
  have := q4181.2.2.1
  have := q4181.2.2.2.1
  have := q4181.2.2.2.2.2.2.2.2.2
  have := q4182.1
  have := q4182.2.1
  refine wq_X5_isSound (fun r_3 q4183 => ?_)
  replace q4183 : ((r_3).toInt = 1 ∧ (u_2b.1 5).toInt = 0) ∨ ((r_3).toInt = 0 ∧ (u_2b.1 5).toInt ≠ 0) := q4183
  refine ⟨fun c4184 => ?_, fun c4185 => ?_⟩
  · replace c4184 := q_neq c4184
    rw [li_0] at c4184
    refine wq_X0_copyAllButLog h4176 q4181 (fun u_7 q4186 q4187 => ?_)
    have := q4186.1
    have := q4186.2.1
    have := q4186.2.2.1
    have := q4186.2.2.2.2.2.2.2.2.2
    refine wq_X0_emptyLog q4186 (fun b_10 q4188 => ?_)
    have := q4188.1
    have := q4188.2.1
    have := q4188.2.2.1
    have := q4188.2.2.2.2.2.2.2.2.2
    have p4189 : (0 : Int32).toInt = (0 : Int) := by (have := li_0; omega)
    have p4190 : 0 ≤ (0 : Int) ∧ (0 : Int) ≤ 400 := by omega
    have B4191 : tz ((0 : Int)) ((va_up u_2b.1 0 0), u_2b.2) := ⟨p4189, p4190⟩
    have p4192 : 0 ≤ (0 : Int32).toInt ∧ (0 : Int32).toInt ≤ 10 ∧ 0 ≤ (s6.1 1).toInt ∧ (s6.1 1).toInt ≤ 9 := by (have := li_0; omega)
    have B4193 : pa ((va_up s6.1 0 0), s6.2) := ⟨p4192, h4178.2⟩
    have p4194 : s6.2 = s6.2 := by rfl
    exact k _ _ _ _ _ (R24179) (W24180) (R24179) (W24180) B4191 q4188 q4181 B4193 p4194
  · replace c4185 := q_eq c4185
    rw [li_0] at c4185
    have p4195 : (0 : Int32).toInt = (0 : Int) := by (have := li_0; omega)
    have p4196 : 0 ≤ (0 : Int) ∧ (0 : Int) ≤ 400 := by omega
    have B4197 : tz ((0 : Int)) ((va_up u_2b.1 0 0), u_2b.2) := ⟨p4195, p4196⟩
    have p4198 : s6.2 = s6.2 := by rfl
    exact k _ _ _ _ _ (R) (W) (R24179) (W24180) B4197 h4176 q4181 h4178 p4198
theorem wq_X6_shelvesUsed {post : Int32 → Prop} {z7 : Nat → Option Bd} (k : ∀ r : Int32, post r) : wp_X6_shelvesUsed post z7 := by
  unfold wp_X6_shelvesUsed
  split <;> split <;> exact k _
theorem wq_X6_count {post : Int32 → Mo → Pa → Prop} {s1 : Tp} {s2 : Bd} {s4 : Mo} {s6 : Pa} {z7 : Nat → Option Bd} {x1 : Int32} {N R W : Int} (h4199 : tz (N) s1) (h4200 : bi (R) (W) s2) (h4201 : mo s4) (h4202 : pa s6) (k : ∀ (r : Int32) (ua : Mo) (ub : Pa), mo ua → pa ub → ub.2 = s6.2 → post r ua ub) : wp_X6_count post s1 s2 s4 s6 z7 x1 := by
  unfold wp_X6_count
  have := h4199.1
  have := h4199.2
  have := h4200.1
  have := h4200.2.1
  have := h4200.2.2.1
  have := h4200.2.2.2.1
  have := h4200.2.2.2.2.2.2.2.2.2
  have := h4201.1
  have := h4202.1
  refine ⟨fun c4203 => ?_, fun c4204 => ?_⟩
  · replace c4203 := q_eq c4203
    rw [li_0] at c4203
    have p4205 : s6.2 = s6.2 := by rfl
    exact k _ _ _ h4201 h4202 p4205
  · replace c4204 := q_neq c4204
    rw [li_0] at c4204
    refine ⟨fun c4206 => ?_, fun c4207 => ?_⟩
    · replace c4206 := q_eq c4206
      rw [li_1] at c4206
      have p4208 : s6.2 = s6.2 := by rfl
      exact k _ _ _ h4201 h4202 p4208
    · replace c4207 := q_neq c4207
      rw [li_1] at c4207
      refine ⟨fun c4209 => ?_, fun c4210 => ?_⟩
      · replace c4209 := q_eq c4209
        rw [li_2] at c4209
        refine wq_X0_cells h4200 (fun r_4 q4211 => ?_)
        have p4212 : s6.2 = s6.2 := by rfl
        exact k _ _ _ h4201 h4202 p4212
      · replace c4210 := q_neq c4210
        rw [li_2] at c4210
        refine ⟨fun c4213 => ?_, fun c4214 => ?_⟩
        · replace c4213 := q_eq c4213
          rw [li_3] at c4213
          have p4215 : s6.2 = s6.2 := by rfl
          exact k _ _ _ h4201 h4202 p4215
        · replace c4214 := q_neq c4214
          rw [li_3] at c4214
          refine ⟨fun c4216 => ?_, fun c4217 => ?_⟩
          · replace c4216 := q_eq c4216
            rw [li_4] at c4216
            have p4218 : s6.2 = s6.2 := by rfl
            exact k _ _ _ h4201 h4202 p4218
          · replace c4217 := q_neq c4217
            rw [li_4] at c4217
            refine ⟨fun c4219 => ?_, fun c4220 => ?_⟩
            · replace c4219 := q_eq c4219
              rw [li_5] at c4219
              have p4221 : s6.2 = s6.2 := by rfl
              exact k _ _ _ h4201 h4202 p4221
            · replace c4220 := q_neq c4220
              rw [li_5] at c4220
              refine ⟨fun c4222 => ?_, fun c4223 => ?_⟩
              · replace c4222 := q_eq c4222
                rw [li_6] at c4222
                have p4224 : s6.2 = s6.2 := by rfl
                exact k _ _ _ h4201 h4202 p4224
              · replace c4223 := q_neq c4223
                rw [li_6] at c4223
                refine ⟨fun c4225 => ?_, fun c4226 => ?_⟩
                · replace c4225 := q_eq c4225
                  rw [li_7] at c4225
                  refine wq_X6_shelvesUsed (fun r_11 => ?_)
                  have p4227 : s6.2 = s6.2 := by rfl
                  exact k _ _ _ h4201 h4202 p4227
                · replace c4226 := q_neq c4226
                  rw [li_7] at c4226
                  refine ⟨fun c4228 => ?_, fun c4229 => ?_⟩
                  · replace c4228 := q_eq c4228
                    rw [li_8] at c4228
                    refine wq_X2_choose h4201 h4200 (fun u_14 q4230 => ?_)
                    have := q4230.1
                    have p4231 : s6.2 = s6.2 := by rfl
                    exact k _ _ _ q4230 h4202 p4231
                  · replace c4229 := q_neq c4229
                    rw [li_8] at c4229
                    have p4232 : s6.2 = s6.2 := by rfl
                    exact k _ _ _ h4201 h4202 p4232
