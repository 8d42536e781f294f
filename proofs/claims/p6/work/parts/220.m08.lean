theorem wq_X0_entryAt {post : Int32 → Prop} {s0 : Bd} {x1 : Int32} {x2 : Int32} {x3 : Int32} {x4 : Int32} {R W : Int} (h1142 : bi (R) (W) s0) (k : ∀ (r : Int32), post r) : wp_X0_entryAt post s0 x1 x2 x3 x4 := by
  unfold wp_X0_entryAt
  have := h1142.1
  have := h1142.2.1
  have := h1142.2.2.1
  have := h1142.2.2.2.1
  have := h1142.2.2.2.2.2.2.2.2.2
  refine ⟨fun c1143 => ?_, fun c1144 => ?_⟩
  · replace c1143 := q_lt c1143
    rw [li_0] at c1143
    have e1145 := tq_add x1 (x3 * x2)
    try rw [Int.emod_eq_of_lt (show 0 ≤ (x1).toInt + (x3 * x2).toInt + 2147483648 by omega) (show (x1).toInt + (x3 * x2).toInt + 2147483648 < 4294967296 by omega)] at e1145
    have e1146 := tq_add (x1 + (x3 * x2)) x4
    try rw [Int.emod_eq_of_lt (show 0 ≤ (x1 + (x3 * x2)).toInt + (x4).toInt + 2147483648 by omega) (show (x1 + (x3 * x2)).toInt + (x4).toInt + 2147483648 < 4294967296 by omega)] at e1146
    exact k _
  · replace c1144 := q_nlt c1144
    rw [li_0] at c1144
    have e1147 := tq_add x1 (x3 * x2)
    try rw [Int.emod_eq_of_lt (show 0 ≤ (x1).toInt + (x3 * x2).toInt + 2147483648 by omega) (show (x1).toInt + (x3 * x2).toInt + 2147483648 < 4294967296 by omega)] at e1147
    have e1148 := tq_add (x1 + (x3 * x2)) x4
    try rw [Int.emod_eq_of_lt (show 0 ≤ (x1 + (x3 * x2)).toInt + (x4).toInt + 2147483648 by omega) (show (x1 + (x3 * x2)).toInt + (x4).toInt + 2147483648 < 4294967296 by omega)] at e1148
    refine ⟨fun c1149 => ?_, fun c1150 => ?_⟩
    · replace c1149 := q_le c1149
      have := tq_ofn (n := s0.2.2.2.1) (by omega)
      exact k _
    · replace c1150 := q_nle c1150
      have := tq_ofn (n := s0.2.2.2.1) (by omega)
      have v1151 : vp_in ((x1 + (x3 * x2)) + x4) s0.2.2.2.1 := vi (by omega) (by omega)
      refine ⟨v1151, ?_⟩
      exact k _
theorem wq_X0_journey_L27 {s0 : Bd} {post : Int32 → Prop} {e63 : Int32 → Int32 → Int32 → Int32 → Int32 → Int32 → Prop} {R W Z Y : Int} (h1152 : bi (R) (W) s0) (ke63 : ∀ (z1 : Int32) (z2 : Int32) (z3 : Int32) (z4 : Int32) (z5 : Int32) (z6 : Int32), (z5).toInt = Z → (z3).toInt = Y → e63 z1 z2 z3 z4 z5 z6) : ∀ (n : Nat) (z1 : Int32) (z2 : Int32) (z3 : Int32) (z4 : Int32) (z5 : Int32) (z6 : Int32), 0 ≤ (z6).toInt ∧ (z6).toInt ≤ (z3).toInt ∧ (z3).toInt ≤ 40 → (z5).toInt = Z → (z3).toInt = Y → (z3).toInt - (z6).toInt < (n : Int) → wp_X0_journey_L27 s0 post e63 n z1 z2 z3 z4 z5 z6 := by
  have := h1152.1
  have := h1152.2.1
  have := h1152.2.2.1
  have := h1152.2.2.2.1
  have := h1152.2.2.2.2.2.2.2.2.2
  intro n
  induction n with
  | zero =>
    intro z1 z2 z3 z4 z5 z6 i1153 i1154 i1155 i1156
    exfalso
    omega
  | succ n ih =>
    intro z1 z2 z3 z4 z5 z6 i1153 i1154 i1155 i1156
    unfold wp_X0_journey_L27
    refine ⟨fun c1157 => ?_, fun c1158 => ?_⟩
    · replace c1157 := q_le c1157
      have p1159 : (z5).toInt = Z := by omega
      have p1160 : (z3).toInt = Y := by omega
      exact ke63 _ _ _ _ _ _ p1159 p1160
    · replace c1158 := q_nle c1158
      refine wq_X0_entryAt h1152 (fun r_7 => ?_)
      refine wq_X6_onFrom (fun r_9 => ?_)
      have e1161 := tq_addr li_1 z6
      try rw [Int.emod_eq_of_lt (show 0 ≤ (z6).toInt + 1 + 2147483648 by omega) (show (z6).toInt + 1 + 2147483648 < 4294967296 by omega)] at e1161
      have p1162 : 0 ≤ (z6 + 1).toInt ∧ (z6 + 1).toInt ≤ (z3).toInt ∧ (z3).toInt ≤ 40 := by omega
      have p1163 : (z5).toInt = Z := by omega
      have p1164 : (z3).toInt = Y := by omega
      have p1165 : (z3).toInt - (z6 + 1).toInt < ((n : Nat) : Int) := by (omega)
      exact ih _ _ _ _ _ _ p1162 p1163 p1164 p1165
theorem wq_X0_journey_L18 {s0 : Bd} {post : Int32 → Prop} {e69 : Int32 → Int32 → Int32 → Int32 → Int32 → Prop} {R W : Int} (h1166 : bi (R) (W) s0) (ke69 : ∀ (z1 : Int32) (z2 : Int32) (z3 : Int32) (z4 : Int32) (z5 : Int32), 0 ≤ (z5).toInt ∧ (z5).toInt ≤ (z3).toInt ∧ (z3).toInt ≤ 40 → e69 z1 z2 z3 z4 z5) : ∀ (n : Nat) (z1 : Int32) (z2 : Int32) (z3 : Int32) (z4 : Int32) (z5 : Int32), 0 ≤ (z5).toInt ∧ (z5).toInt ≤ (z3).toInt ∧ (z3).toInt ≤ 40 → (z3).toInt - (z5).toInt < (n : Int) → wp_X0_journey_L18 s0 post e69 n z1 z2 z3 z4 z5 := by
  have := h1166.1
  have := h1166.2.1
  have := h1166.2.2.1
  have := h1166.2.2.2.1
  have := h1166.2.2.2.2.2.2.2.2.2
  intro n
  induction n with
  | zero =>
    intro z1 z2 z3 z4 z5 i1167 i1168
    exfalso
    omega
  | succ n ih =>
    intro z1 z2 z3 z4 z5 i1167 i1168
    unfold wp_X0_journey_L18
    refine ⟨fun c1169 => ?_, fun c1170 => ?_⟩
    · replace c1169 := q_le c1169
      have p1171 : 0 ≤ (z5).toInt ∧ (z5).toInt ≤ (z3).toInt ∧ (z3).toInt ≤ 40 := by omega
      exact ke69 _ _ _ _ _ p1171
    · replace c1170 := q_nle c1170
      have p1172 : 0 ≤ (0 : Int32).toInt ∧ (0 : Int32).toInt ≤ (z3).toInt ∧ (z3).toInt ≤ 40 := by (have := li_0; omega)
      have p1173 : (z5).toInt = ((z5).toInt) := by omega
      have p1174 : (z3).toInt = ((z3).toInt) := by omega
      obtain ⟨f1175, g1176⟩ := fu_e 50
      have p1177 : (z3).toInt - (0 : Int32).toInt < (f1175 : Int) := by (have := li_0; omega)
      refine ⟨f1175, wq_X0_journey_L27 h1166 (fun z1_1178 z2_1179 z3_1180 z4_1181 z5_1182 z6 q1183 q1184 => ?_) f1175 _ _ _ _ _ _ p1172 p1173 p1174 p1177⟩
      have e1185 := tq_addr li_1 z5_1182
      try rw [Int.emod_eq_of_lt (show 0 ≤ (z5_1182).toInt + 1 + 2147483648 by omega) (show (z5_1182).toInt + 1 + 2147483648 < 4294967296 by omega)] at e1185
      have p1186 : 0 ≤ (z5_1182 + 1).toInt ∧ (z5_1182 + 1).toInt ≤ (z3_1180).toInt ∧ (z3_1180).toInt ≤ 40 := by omega
      have p1187 : (z3_1180).toInt - (z5_1182 + 1).toInt < ((n : Nat) : Int) := by (omega)
      exact ih _ _ _ _ _ p1186 p1187
theorem wq_X0_journey {post : Int32 → Prop} {s0 : Bd} {x1 : Int32} {R W : Int} (h1188 : bi (R) (W) s0) (k : ∀ (r : Int32), post r) : wp_X0_journey post s0 x1 := by
  unfold wp_X0_journey
  have := h1188.1
  have := h1188.2.1
  have := h1188.2.2.1
  have := h1188.2.2.2.1
  have := h1188.2.2.2.2.2.2.2.2.2
  refine wq_X0_entryStart h1188 (fun r_1 q1189 => ?_)
  refine wq_X0_flapsOn h1188 (fun r_3 q1190 q1191 => ?_)
  have p1192 : 0 ≤ (0 : Int32).toInt ∧ (0 : Int32).toInt ≤ (r_3).toInt ∧ (r_3).toInt ≤ 40 := by (have := li_0; omega)
  obtain ⟨f1193, g1194⟩ := fu_e 50
  have p1195 : (r_3).toInt - (0 : Int32).toInt < (f1193 : Int) := by (have := li_0; omega)
  refine ⟨f1193, wq_X0_journey_L18 h1188 (fun z1 z2 z3 z4 z5 q1196 => ?_) f1193 _ _ _ _ _ p1192 p1195⟩
  exact k _
theorem wq_X0_entriesOf_L20 {s0 : Bd} {post : Int32 → Prop} {e67 : Int32 → Int32 → Int32 → Int32 → Int32 → Int32 → Int32 → Prop} {R W : Int} (h1197 : bi (R) (W) s0) (ke67 : ∀ (z1 : Int32) (z2 : Int32) (z3 : Int32) (z4 : Int32) (z5 : Int32) (z6 : Int32) (z7 : Int32), 0 ≤ (z7).toInt ∧ (z7).toInt ≤ (z5).toInt ∧ (z5).toInt ≤ 40 → e67 z1 z2 z3 z4 z5 z6 z7) : ∀ (n : Nat) (z1 : Int32) (z2 : Int32) (z3 : Int32) (z4 : Int32) (z5 : Int32) (z6 : Int32) (z7 : Int32), 0 ≤ (z7).toInt ∧ (z7).toInt ≤ (z5).toInt ∧ (z5).toInt ≤ 40 → (z5).toInt - (z7).toInt < (n : Int) → wp_X0_entriesOf_L20 s0 post e67 n z1 z2 z3 z4 z5 z6 z7 := by
  have := h1197.1
  have := h1197.2.1
  have := h1197.2.2.1
  have := h1197.2.2.2.1
  have := h1197.2.2.2.2.2.2.2.2.2
  intro n
  induction n with
  | zero =>
    intro z1 z2 z3 z4 z5 z6 z7 i1198 i1199
    exfalso
    omega
  | succ n ih =>
    intro z1 z2 z3 z4 z5 z6 z7 i1198 i1199
    unfold wp_X0_entriesOf_L20
    refine ⟨fun c1200 => ?_, fun c1201 => ?_⟩
    · replace c1200 := q_le c1200
      have p1202 : 0 ≤ (z7).toInt ∧ (z7).toInt ≤ (z5).toInt ∧ (z5).toInt ≤ 40 := by omega
      exact ke67 _ _ _ _ _ _ _ p1202
    · replace c1201 := q_nle c1201
      refine ⟨fun c1203 => ?_, fun c1204 => ?_⟩
      · replace c1203 := q_eq c1203
        rw [li_0] at c1203
        refine wq_X0_entryAt h1197 (fun r_7 => ?_)
        have e1205 := tq_addr li_1 z7
        try rw [Int.emod_eq_of_lt (show 0 ≤ (z7).toInt + 1 + 2147483648 by omega) (show (z7).toInt + 1 + 2147483648 < 4294967296 by omega)] at e1205
        have p1206 : 0 ≤ (z7 + 1).toInt ∧ (z7 + 1).toInt ≤ (z5).toInt ∧ (z5).toInt ≤ 40 := by omega
        have p1207 : (z5).toInt - (z7 + 1).toInt < ((n : Nat) : Int) := by (omega)
        exact ih _ _ _ _ _ _ _ p1206 p1207
      · replace c1204 := q_neq c1204
        rw [li_0] at c1204
        refine wq_X0_entryAt h1197 (fun r_9 => ?_)
        have e1208 := tq_addr li_1 z7
        try rw [Int.emod_eq_of_lt (show 0 ≤ (z7).toInt + 1 + 2147483648 by omega) (show (z7).toInt + 1 + 2147483648 < 4294967296 by omega)] at e1208
        have p1209 : 0 ≤ (z7 + 1).toInt ∧ (z7 + 1).toInt ≤ (z5).toInt ∧ (z5).toInt ≤ 40 := by omega
        have p1210 : (z5).toInt - (z7 + 1).toInt < ((n : Nat) : Int) := by (omega)
        exact ih _ _ _ _ _ _ _ p1209 p1210
theorem wq_X0_entriesOf {post : Int32 → Prop} {s0 : Bd} {x1 : Int32} {x2 : Int32} {x3 : Int32} {R W : Int} (h1211 : bi (R) (W) s0) (k : ∀ (r : Int32), post r) : wp_X0_entriesOf post s0 x1 x2 x3 := by
  unfold wp_X0_entriesOf
  have := h1211.1
  have := h1211.2.1
  have := h1211.2.2.1
  have := h1211.2.2.2.1
  have := h1211.2.2.2.2.2.2.2.2.2
  refine wq_X0_entryStart h1211 (fun r_1 q1212 => ?_)
  refine wq_X0_flapsOn h1211 (fun r_3 q1213 q1214 => ?_)
  have p1215 : 0 ≤ (0 : Int32).toInt ∧ (0 : Int32).toInt ≤ (r_3).toInt ∧ (r_3).toInt ≤ 40 := by (have := li_0; omega)
  obtain ⟨f1216, g1217⟩ := fu_e 50
  have p1218 : (r_3).toInt - (0 : Int32).toInt < (f1216 : Int) := by (have := li_0; omega)
  refine ⟨f1216, wq_X0_entriesOf_L20 h1211 (fun z1 z2 z3 z4 z5 z6 z7 q1219 => ?_) f1216 _ _ _ _ _ _ _ p1215 p1218⟩
  exact k _
theorem wq_X0_logSize_L4 {s0 : Bd} {post : Int32 → Prop} {e29 : Int32 → Int32 → Int32 → Prop} {R W : Int} (h1220 : bi (R) (W) s0) (ke29 : ∀ (z1 : Int32) (z2 : Int32) (z3 : Int32), 0 ≤ (z3).toInt ∧ (z3).toInt ≤ 40 → e29 z1 z2 z3) : ∀ (n : Nat) (z1 : Int32) (z2 : Int32) (z3 : Int32), 0 ≤ (z3).toInt ∧ (z3).toInt ≤ 40 → 40 - (z3).toInt < (n : Int) → wp_X0_logSize_L4 s0 post e29 n z1 z2 z3 := by
  have := h1220.1
  have := h1220.2.1
  have := h1220.2.2.1
  have := h1220.2.2.2.1
  have := h1220.2.2.2.2.2.2.2.2.2
  intro n
  induction n with
  | zero =>
    intro z1 z2 z3 i1221 i1222
    exfalso
    omega
  | succ n ih =>
    intro z1 z2 z3 i1221 i1222
    unfold wp_X0_logSize_L4
    refine wq_X0_flapsOn h1220 (fun r_1 q1223 q1224 => ?_)
    refine ⟨fun c1225 => ?_, fun c1226 => ?_⟩
    · replace c1225 := q_le c1225
      have p1227 : 0 ≤ (z3).toInt ∧ (z3).toInt ≤ 40 := by omega
      exact ke29 _ _ _ p1227
    · replace c1226 := q_nle c1226
      refine wq_X0_entriesOf h1220 (fun r_4 => ?_)
      have e1228 := tq_addr li_1 z3
      try rw [Int.emod_eq_of_lt (show 0 ≤ (z3).toInt + 1 + 2147483648 by omega) (show (z3).toInt + 1 + 2147483648 < 4294967296 by omega)] at e1228
      have p1229 : 0 ≤ (z3 + 1).toInt ∧ (z3 + 1).toInt ≤ 40 := by omega
      have p1230 : 40 - (z3 + 1).toInt < ((n : Nat) : Int) := by (omega)
      exact ih _ _ _ p1229 p1230
theorem wq_X0_logSize {post : Int32 → Prop} {s0 : Bd} {x1 : Int32} {R W : Int} (h1231 : bi (R) (W) s0) (k : ∀ (r : Int32), post r) : wp_X0_logSize post s0 x1 := by
  unfold wp_X0_logSize
  have := h1231.1
  have := h1231.2.1
  have := h1231.2.2.1
  have := h1231.2.2.2.1
  have := h1231.2.2.2.2.2.2.2.2.2
  have p1232 : 0 ≤ (0 : Int32).toInt ∧ (0 : Int32).toInt ≤ 40 := by (have := li_0; omega)
  obtain ⟨f1233, g1234⟩ := fu_e 50
  have p1235 : 40 - (0 : Int32).toInt < (f1233 : Int) := by (have := li_0; omega)
  refine ⟨f1233, wq_X0_logSize_L4 h1231 (fun z1 z2 z3 q1236 => ?_) f1233 _ _ _ p1232 p1235⟩
  exact k _
theorem wq_X0_unlikeEntries_L27 {s0 : Bd} {post : Int32 → Prop} {e55 : Int32 → Int32 → Int32 → Int32 → Int32 → Int32 → Prop} {R W Z Y : Int} (h1237 : bi (R) (W) s0) (ke55 : ∀ (z1 : Int32) (z2 : Int32) (z3 : Int32) (z4 : Int32) (z5 : Int32) (z6 : Int32), (z5).toInt = Z → (z3).toInt = Y → e55 z1 z2 z3 z4 z5 z6) : ∀ (n : Nat) (z1 : Int32) (z2 : Int32) (z3 : Int32) (z4 : Int32) (z5 : Int32) (z6 : Int32), 0 ≤ (z6).toInt ∧ (z6).toInt ≤ (z3).toInt ∧ (z3).toInt ≤ 40 → (z5).toInt = Z → (z3).toInt = Y → (z3).toInt - (z6).toInt < (n : Int) → wp_X0_unlikeEntries_L27 s0 post e55 n z1 z2 z3 z4 z5 z6 := by
  have := h1237.1
  have := h1237.2.1
  have := h1237.2.2.1
  have := h1237.2.2.2.1
  have := h1237.2.2.2.2.2.2.2.2.2
  intro n
  induction n with
  | zero =>
    intro z1 z2 z3 z4 z5 z6 i1238 i1239 i1240 i1241
    exfalso
    omega
  | succ n ih =>
    intro z1 z2 z3 z4 z5 z6 i1238 i1239 i1240 i1241
    unfold wp_X0_unlikeEntries_L27
    refine ⟨fun c1242 => ?_, fun c1243 => ?_⟩
    · replace c1242 := q_le c1242
      have p1244 : (z5).toInt = Z := by omega
      have p1245 : (z3).toInt = Y := by omega
      exact ke55 _ _ _ _ _ _ p1244 p1245
    · replace c1243 := q_nle c1243
      refine wq_X0_entryAt h1237 (fun r_7 => ?_)
      refine ⟨fun c1246 => ?_, fun c1247 => ?_⟩
      · replace c1246 := q_le c1246
        rw [li_0] at c1246
        have e1248 := tq_addr li_1 z6
        try rw [Int.emod_eq_of_lt (show 0 ≤ (z6).toInt + 1 + 2147483648 by omega) (show (z6).toInt + 1 + 2147483648 < 4294967296 by omega)] at e1248
        have p1249 : 0 ≤ (z6 + 1).toInt ∧ (z6 + 1).toInt ≤ (z3).toInt ∧ (z3).toInt ≤ 40 := by omega
        have p1250 : (z5).toInt = Z := by omega
        have p1251 : (z3).toInt = Y := by omega
        have p1252 : (z3).toInt - (z6 + 1).toInt < ((n : Nat) : Int) := by (omega)
        exact ih _ _ _ _ _ _ p1249 p1250 p1251 p1252
      · replace c1247 := q_nle c1247
        rw [li_0] at c1247
        have e1253 := tq_addr li_1 z6
        try rw [Int.emod_eq_of_lt (show 0 ≤ (z6).toInt + 1 + 2147483648 by omega) (show (z6).toInt + 1 + 2147483648 < 4294967296 by omega)] at e1253
        have p1254 : 0 ≤ (z6 + 1).toInt ∧ (z6 + 1).toInt ≤ (z3).toInt ∧ (z3).toInt ≤ 40 := by omega
        have p1255 : (z5).toInt = Z := by omega
        have p1256 : (z3).toInt = Y := by omega
        have p1257 : (z3).toInt - (z6 + 1).toInt < ((n : Nat) : Int) := by (omega)
        exact ih _ _ _ _ _ _ p1254 p1255 p1256 p1257
theorem wq_X0_unlikeEntries_L18 {s0 : Bd} {post : Int32 → Prop} {e61 : Int32 → Int32 → Int32 → Int32 → Int32 → Prop} {R W : Int} (h1258 : bi (R) (W) s0) (ke61 : ∀ (z1 : Int32) (z2 : Int32) (z3 : Int32) (z4 : Int32) (z5 : Int32), 0 ≤ (z5).toInt ∧ (z5).toInt ≤ (z3).toInt ∧ (z3).toInt ≤ 40 → e61 z1 z2 z3 z4 z5) : ∀ (n : Nat) (z1 : Int32) (z2 : Int32) (z3 : Int32) (z4 : Int32) (z5 : Int32), 0 ≤ (z5).toInt ∧ (z5).toInt ≤ (z3).toInt ∧ (z3).toInt ≤ 40 → (z3).toInt - (z5).toInt < (n : Int) → wp_X0_unlikeEntries_L18 s0 post e61 n z1 z2 z3 z4 z5 := by
  have := h1258.1
  have := h1258.2.1
  have := h1258.2.2.1
  have := h1258.2.2.2.1
  have := h1258.2.2.2.2.2.2.2.2.2
  intro n
  induction n with
  | zero =>
    intro z1 z2 z3 z4 z5 i1259 i1260
    exfalso
    omega
  | succ n ih =>
    intro z1 z2 z3 z4 z5 i1259 i1260
    unfold wp_X0_unlikeEntries_L18
    refine ⟨fun c1261 => ?_, fun c1262 => ?_⟩
    · replace c1261 := q_le c1261
      have p1263 : 0 ≤ (z5).toInt ∧ (z5).toInt ≤ (z3).toInt ∧ (z3).toInt ≤ 40 := by omega
      exact ke61 _ _ _ _ _ p1263
    · replace c1262 := q_nle c1262
      have p1264 : 0 ≤ (0 : Int32).toInt ∧ (0 : Int32).toInt ≤ (z3).toInt ∧ (z3).toInt ≤ 40 := by (have := li_0; omega)
      have p1265 : (z5).toInt = ((z5).toInt) := by omega
      have p1266 : (z3).toInt = ((z3).toInt) := by omega
      obtain ⟨f1267, g1268⟩ := fu_e 50
      have p1269 : (z3).toInt - (0 : Int32).toInt < (f1267 : Int) := by (have := li_0; omega)
      refine ⟨f1267, wq_X0_unlikeEntries_L27 h1258 (fun z1_1270 z2_1271 z3_1272 z4_1273 z5_1274 z6 q1275 q1276 => ?_) f1267 _ _ _ _ _ _ p1264 p1265 p1266 p1269⟩
      have e1277 := tq_addr li_1 z5_1274
      try rw [Int.emod_eq_of_lt (show 0 ≤ (z5_1274).toInt + 1 + 2147483648 by omega) (show (z5_1274).toInt + 1 + 2147483648 < 4294967296 by omega)] at e1277
      have p1278 : 0 ≤ (z5_1274 + 1).toInt ∧ (z5_1274 + 1).toInt ≤ (z3_1272).toInt ∧ (z3_1272).toInt ≤ 40 := by omega
      have p1279 : (z3_1272).toInt - (z5_1274 + 1).toInt < ((n : Nat) : Int) := by (omega)
      exact ih _ _ _ _ _ p1278 p1279
