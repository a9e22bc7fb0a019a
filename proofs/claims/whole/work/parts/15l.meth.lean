/-! methods: Mo_isSeat Mo_lay Mo_whyNot Mo_ask Mo_item Mo_rest Mo_tell Mo_check Mo_keep Mo_back Mo_papersThat Mo_copiesOut Mo_count -/
theorem c_309_0 : cd 309 0 = some (.iload_n 0, 1) := by decide +kernel
theorem c_309_1 : cd 309 1 = some (.iconst (0), 1) := by decide +kernel
theorem c_309_2 : cd 309 2 = some (.iconst (5), 1) := by decide +kernel
theorem c_309_3 : cd 309 3 = some (.invokestatic 82, 3) := by decide +kernel
theorem c_309_6 : cd 309 6 = some (.ireturn, 1) := by decide +kernel
def f_Mo_isSeat (σ : Mm) (x0 : Int32) : Option Int32 := (f_Mo_in σ x0 (0 : Int32) (5 : Int32)).bind fun v3 => if zB v3 = true then some v3 else none
set_option maxRecDepth 100000 in
set_option maxHeartbeats 4000000 in
theorem t_Mo_isSeat_e {X : Xt} {S : Sh} (hS : ShOK S) {d : Nat} (hd : 1 ≤ d + 1) (σ : Mm) (x0 : Int32) : Rf X S (emI σ) (f_Mo_isSeat σ x0) (d + 1) 309 0 [.int x0] [] σ := by
  unfold f_Mo_isSeat
  refine rf_ild (i := 0) (Or.inr ⟨0, rfl, rfl, rfl⟩) c_309_0 rfl ?_
  refine rf_iconst c_309_1 ki_0 ?_
  refine rf_iconst c_309_2 ki_5 ?_
  refine rf_callI (as := [.int x0, .int (0 : Int32), .int (5 : Int32)]) (kd := 0) c_309_3 rfl (by decide) rfl ml_12_82 (by decide) rfl (rcv_0 rfl) (Nat.zero_le _) rfl rfl (t_Mo_in hS (by omega) σ x0 (0 : Int32) (5 : Int32)) (fun v3 => ?_)
  refine rf_ite (fun hq6 => ?_) (fun _ => rf_none)
  exact rf_ret c_309_6 rfl (zB_n hq6) rfl rfl
theorem t_Mo_isSeat {X : Xt} {S : Sh} (hS : ShOK S) {d : Nat} (hd : 1 ≤ d) (σ : Mm) (x0 : Int32) : Rf X S (emI σ) (f_Mo_isSeat σ x0) d 309 0 [.int x0] [] σ := by
  obtain ⟨d1, rfl⟩ : ∃ d1, d = d1 + 1 := ⟨d - 1, by omega⟩
  exact t_Mo_isSeat_e hS hd σ x0
theorem c_310_0 : cd 310 0 = some (.iload_n 1, 1) := by decide +kernel
theorem c_310_1 : cd 310 1 = some (.invokestatic 385, 3) := by decide +kernel
theorem c_310_4 : cd 310 4 = some (.ifCond .eq (37), 3) := by decide +kernel
theorem c_310_7 : cd 310 7 = some (.iload_n 2, 1) := by decide +kernel
theorem c_310_8 : cd 310 8 = some (.iconst (0), 1) := by decide +kernel
theorem c_310_9 : cd 310 9 = some (.iconst (3), 1) := by decide +kernel
theorem c_310_10 : cd 310 10 = some (.invokestatic 82, 3) := by decide +kernel
theorem c_310_13 : cd 310 13 = some (.ifCond .eq (28), 3) := by decide +kernel
theorem c_310_16 : cd 310 16 = some (.iload_n 2, 1) := by decide +kernel
theorem c_310_17 : cd 310 17 = some (.iconst (1), 1) := by decide +kernel
theorem c_310_18 : cd 310 18 = some (.if_icmp .ne (11), 3) := by decide +kernel
theorem c_310_21 : cd 310 21 = some (.aload_n 0, 1) := by decide +kernel
theorem c_310_22 : cd 310 22 = some (.iload_n 3, 1) := by decide +kernel
theorem c_310_23 : cd 310 23 = some (.invokevirtual 141, 3) := by decide +kernel
theorem c_310_26 : cd 310 26 = some (.ifCond .eq (15), 3) := by decide +kernel
theorem c_310_29 : cd 310 29 = some (.iload_n 2, 1) := by decide +kernel
theorem c_310_30 : cd 310 30 = some (.iconst (2), 1) := by decide +kernel
theorem c_310_31 : cd 310 31 = some (.if_icmp .ne (13), 3) := by decide +kernel
theorem c_310_34 : cd 310 34 = some (.iload_n 3, 1) := by decide +kernel
theorem c_310_35 : cd 310 35 = some (.invokestatic 379, 3) := by decide +kernel
theorem c_310_38 : cd 310 38 = some (.ifCond .ne (6), 3) := by decide +kernel
theorem c_310_41 : cd 310 41 = some (.ldc 91, 2) := by decide +kernel
theorem c_310_43 : cd 310 43 = some (.ireturn, 1) := by decide +kernel
theorem c_310_44 : cd 310 44 = some (.iload_n 2, 1) := by decide +kernel
theorem c_310_45 : cd 310 45 = some (.iconst (2), 1) := by decide +kernel
theorem c_310_46 : cd 310 46 = some (.if_icmp .ne (16), 3) := by decide +kernel
theorem c_310_49 : cd 310 49 = some (.aload_n 0, 1) := by decide +kernel
theorem c_310_50 : cd 310 50 = some (.getfield 51, 3) := by decide +kernel
theorem c_310_53 : cd 310 53 = some (.iload_n 3, 1) := by decide +kernel
theorem c_310_54 : cd 310 54 = some (.iaload, 1) := by decide +kernel
theorem c_310_55 : cd 310 55 = some (.ifCond .ge (7), 3) := by decide +kernel
theorem c_310_58 : cd 310 58 = some (.ldc_w 383, 3) := by decide +kernel
theorem c_310_61 : cd 310 61 = some (.ireturn, 1) := by decide +kernel
theorem c_310_62 : cd 310 62 = some (.aload_n 0, 1) := by decide +kernel
theorem c_310_63 : cd 310 63 = some (.getfield 63, 3) := by decide +kernel
theorem c_310_66 : cd 310 66 = some (.iload_n 1, 1) := by decide +kernel
theorem c_310_67 : cd 310 67 = some (.iaload, 1) := by decide +kernel
theorem c_310_68 : cd 310 68 = some (.istore 4, 2) := by decide +kernel
theorem c_310_70 : cd 310 70 = some (.aload_n 0, 1) := by decide +kernel
theorem c_310_71 : cd 310 71 = some (.getfield 63, 3) := by decide +kernel
theorem c_310_74 : cd 310 74 = some (.iload_n 1, 1) := by decide +kernel
theorem c_310_75 : cd 310 75 = some (.iload_n 2, 1) := by decide +kernel
theorem c_310_76 : cd 310 76 = some (.iastore, 1) := by decide +kernel
theorem c_310_77 : cd 310 77 = some (.aload_n 0, 1) := by decide +kernel
theorem c_310_78 : cd 310 78 = some (.getfield 66, 3) := by decide +kernel
theorem c_310_81 : cd 310 81 = some (.iload_n 1, 1) := by decide +kernel
theorem c_310_82 : cd 310 82 = some (.iload_n 2, 1) := by decide +kernel
theorem c_310_83 : cd 310 83 = some (.iconst (1), 1) := by decide +kernel
theorem c_310_84 : cd 310 84 = some (.if_icmp .ne (12), 3) := by decide +kernel
theorem c_310_87 : cd 310 87 = some (.aload_n 0, 1) := by decide +kernel
theorem c_310_88 : cd 310 88 = some (.iload_n 3, 1) := by decide +kernel
theorem c_310_89 : cd 310 89 = some (.iconst (0), 1) := by decide +kernel
theorem c_310_90 : cd 310 90 = some (.invokevirtual 144, 3) := by decide +kernel
theorem c_310_93 : cd 310 93 = some (.goto (4), 3) := by decide +kernel
theorem c_310_96 : cd 310 96 = some (.iconst (0), 1) := by decide +kernel
theorem c_310_97 : cd 310 97 = some (.iastore, 1) := by decide +kernel
theorem c_310_98 : cd 310 98 = some (.aload_n 0, 1) := by decide +kernel
theorem c_310_99 : cd 310 99 = some (.getfield 69, 3) := by decide +kernel
theorem c_310_102 : cd 310 102 = some (.iload_n 1, 1) := by decide +kernel
theorem c_310_103 : cd 310 103 = some (.iload_n 2, 1) := by decide +kernel
theorem c_310_104 : cd 310 104 = some (.iconst (1), 1) := by decide +kernel
theorem c_310_105 : cd 310 105 = some (.if_icmp .ne (12), 3) := by decide +kernel
theorem c_310_108 : cd 310 108 = some (.aload_n 0, 1) := by decide +kernel
theorem c_310_109 : cd 310 109 = some (.iload_n 3, 1) := by decide +kernel
theorem c_310_110 : cd 310 110 = some (.iconst (3), 1) := by decide +kernel
theorem c_310_111 : cd 310 111 = some (.invokevirtual 144, 3) := by decide +kernel
theorem c_310_114 : cd 310 114 = some (.goto (4), 3) := by decide +kernel
theorem c_310_117 : cd 310 117 = some (.iload_n 3, 1) := by decide +kernel
theorem c_310_118 : cd 310 118 = some (.iastore, 1) := by decide +kernel
theorem c_310_119 : cd 310 119 = some (.aload_n 0, 1) := by decide +kernel
theorem c_310_120 : cd 310 120 = some (.getfield 72, 3) := by decide +kernel
theorem c_310_123 : cd 310 123 = some (.iload_n 1, 1) := by decide +kernel
theorem c_310_124 : cd 310 124 = some (.iload_n 2, 1) := by decide +kernel
theorem c_310_125 : cd 310 125 = some (.iconst (1), 1) := by decide +kernel
theorem c_310_126 : cd 310 126 = some (.if_icmp .ne (12), 3) := by decide +kernel
theorem c_310_129 : cd 310 129 = some (.aload_n 0, 1) := by decide +kernel
theorem c_310_130 : cd 310 130 = some (.iload_n 3, 1) := by decide +kernel
theorem c_310_131 : cd 310 131 = some (.iconst (4), 1) := by decide +kernel
theorem c_310_132 : cd 310 132 = some (.invokevirtual 144, 3) := by decide +kernel
theorem c_310_135 : cd 310 135 = some (.goto (4), 3) := by decide +kernel
theorem c_310_138 : cd 310 138 = some (.iconst (0), 1) := by decide +kernel
theorem c_310_139 : cd 310 139 = some (.iastore, 1) := by decide +kernel
theorem c_310_140 : cd 310 140 = some (.iload_n 2, 1) := by decide +kernel
theorem c_310_141 : cd 310 141 = some (.iconst (2), 1) := by decide +kernel
theorem c_310_142 : cd 310 142 = some (.if_icmp .ne (73), 3) := by decide +kernel
theorem c_310_145 : cd 310 145 = some (.aload_n 0, 1) := by decide +kernel
theorem c_310_146 : cd 310 146 = some (.getfield 51, 3) := by decide +kernel
theorem c_310_149 : cd 310 149 = some (.iconst (4), 1) := by decide +kernel
theorem c_310_150 : cd 310 150 = some (.iload_n 1, 1) := by decide +kernel
theorem c_310_151 : cd 310 151 = some (.iadd, 1) := by decide +kernel
theorem c_310_152 : cd 310 152 = some (.aload_n 0, 1) := by decide +kernel
theorem c_310_153 : cd 310 153 = some (.getfield 51, 3) := by decide +kernel
theorem c_310_156 : cd 310 156 = some (.iload_n 3, 1) := by decide +kernel
theorem c_310_157 : cd 310 157 = some (.iaload, 1) := by decide +kernel
theorem c_310_158 : cd 310 158 = some (.iastore, 1) := by decide +kernel
theorem c_310_159 : cd 310 159 = some (.aload_n 0, 1) := by decide +kernel
theorem c_310_160 : cd 310 160 = some (.getfield 54, 3) := by decide +kernel
theorem c_310_163 : cd 310 163 = some (.iconst (4), 1) := by decide +kernel
theorem c_310_164 : cd 310 164 = some (.iload_n 1, 1) := by decide +kernel
theorem c_310_165 : cd 310 165 = some (.iadd, 1) := by decide +kernel
theorem c_310_166 : cd 310 166 = some (.aload_n 0, 1) := by decide +kernel
theorem c_310_167 : cd 310 167 = some (.getfield 54, 3) := by decide +kernel
theorem c_310_170 : cd 310 170 = some (.iload_n 3, 1) := by decide +kernel
theorem c_310_171 : cd 310 171 = some (.iaload, 1) := by decide +kernel
theorem c_310_172 : cd 310 172 = some (.iastore, 1) := by decide +kernel
theorem c_310_173 : cd 310 173 = some (.iconst (0), 1) := by decide +kernel
theorem c_310_174 : cd 310 174 = some (.istore 5, 2) := by decide +kernel
theorem c_310_176 : cd 310 176 = some (.iload 5, 2) := by decide +kernel
theorem c_310_178 : cd 310 178 = some (.bipush (24), 2) := by decide +kernel
theorem c_310_180 : cd 310 180 = some (.if_icmp .ge (35), 3) := by decide +kernel
theorem c_310_183 : cd 310 183 = some (.aload_n 0, 1) := by decide +kernel
theorem c_310_184 : cd 310 184 = some (.getfield 57, 3) := by decide +kernel
theorem c_310_187 : cd 310 187 = some (.bipush (24), 2) := by decide +kernel
theorem c_310_189 : cd 310 189 = some (.iconst (4), 1) := by decide +kernel
theorem c_310_190 : cd 310 190 = some (.iload_n 1, 1) := by decide +kernel
theorem c_310_191 : cd 310 191 = some (.iadd, 1) := by decide +kernel
theorem c_310_192 : cd 310 192 = some (.imul, 1) := by decide +kernel
theorem c_310_193 : cd 310 193 = some (.iload 5, 2) := by decide +kernel
theorem c_310_195 : cd 310 195 = some (.iadd, 1) := by decide +kernel
theorem c_310_196 : cd 310 196 = some (.aload_n 0, 1) := by decide +kernel
theorem c_310_197 : cd 310 197 = some (.getfield 57, 3) := by decide +kernel
theorem c_310_200 : cd 310 200 = some (.bipush (24), 2) := by decide +kernel
theorem c_310_202 : cd 310 202 = some (.iload_n 3, 1) := by decide +kernel
theorem c_310_203 : cd 310 203 = some (.imul, 1) := by decide +kernel
theorem c_310_204 : cd 310 204 = some (.iload 5, 2) := by decide +kernel
theorem c_310_206 : cd 310 206 = some (.iadd, 1) := by decide +kernel
theorem c_310_207 : cd 310 207 = some (.iaload, 1) := by decide +kernel
theorem c_310_208 : cd 310 208 = some (.iastore, 1) := by decide +kernel
theorem c_310_209 : cd 310 209 = some (.iinc 5 (1), 3) := by decide +kernel
theorem c_310_212 : cd 310 212 = some (.goto (-36), 3) := by decide +kernel
theorem c_310_215 : cd 310 215 = some (.iload 4, 2) := by decide +kernel
theorem c_310_217 : cd 310 217 = some (.ireturn, 1) := by decide +kernel
def f_Mo_lay_41 (σ : Mm) : Option (Int32 × Mm) := some ((-1000000001 : Int32), σ)
set_option maxRecDepth 100000 in
set_option maxHeartbeats 4000000 in
theorem t_Mo_lay_41 {X : Xt} {S : Sh} (hS : ShOK S) {d : Nat} (hd : 2 ≤ d + 1) (u0 : Value) (u1 : Value) (u2 : Value) (u3 : Value) (u4 : Value) (u5 : Value) (σ : Mm) : Rf X S emM (f_Mo_lay_41 σ) (d + 1) 310 41 [u0, u1, u2, u3, u4, u5] [] σ := by
  unfold f_Mo_lay_41
  refine rf_ldc (Or.inl ⟨rfl, rfl⟩) c_310_41 rfl kl_12_91 ?_
  exact rf_ret c_310_43 rfl rfl rfl rfl
def f_Mo_lay_215 (x4 : Int32) (σ : Mm) : Option (Int32 × Mm) := some (x4, σ)
set_option maxRecDepth 100000 in
set_option maxHeartbeats 4000000 in
theorem t_Mo_lay_215 {X : Xt} {S : Sh} (hS : ShOK S) {d : Nat} (hd : 2 ≤ d + 1) (x4 : Int32) (u0 : Value) (u1 : Value) (u2 : Value) (u3 : Value) (u5 : Value) (σ : Mm) : Rf X S emM (f_Mo_lay_215 x4 σ) (d + 1) 310 215 [u0, u1, u2, u3, .int x4, u5] [] σ := by
  unfold f_Mo_lay_215
  refine rf_ild (i := 4) (Or.inl ⟨rfl, rfl⟩) c_310_215 rfl ?_
  exact rf_ret c_310_217 rfl rfl rfl rfl
def f_Mo_lay_176 : Nat → Nat → Int32 → Int32 → Int32 → Int32 → Mm → Option (Int32 × Mm)
  | 0, _, _, _, _, _, _ => none
  | n + 1, x0, x1, x3, x4, x5, σ => (if (24 : Int32) ≤ x5 then (f_Mo_lay_215  x4 σ) else (if inbB (((24 : Int32) * x3) + x5) 240 = true then if inbB (((24 : Int32) * ((4 : Int32) + x1)) + x5) 240 = true then nmM (up2 σ (rfT x0 38) (ix (((24 : Int32) * ((4 : Int32) + x1)) + x5)) (σ (rfT x0 38) (ix (((24 : Int32) * x3) + x5)))) fun σ208 => f_Mo_lay_176  n x0 x1 x3 x4 (x5 + (1 : Int32)) σ208 else none else none))
set_option maxRecDepth 100000 in
set_option maxHeartbeats 4000000 in
theorem t_Mo_lay_176 {X : Xt} {S : Sh} (hS : ShOK S) {d : Nat} (hd : 2 ≤ d + 1) : ∀ (n : Nat) (x0 : Nat) (x1 : Int32) (x3 : Int32) (x4 : Int32) (x5 : Int32) (u2 : Value) (σ : Mm) (h_x0 : tgT x0 = 12), Rf X S emM (f_Mo_lay_176 n x0 x1 x3 x4 x5 σ) (d + 1) 310 176 [.ref x0, .int x1, u2, .int x3, .int x4, .int x5] [] σ := by
  intro n
  induction n with
  | zero => intro x0 x1 x3 x4 x5 u2 σ h_x0; exact rf_none
  | succ n ih =>
    intro x0 x1 x3 x4 x5 u2 σ h_x0
    rw [f_Mo_lay_176]
    refine rf_ild (i := 5) (Or.inl ⟨rfl, rfl⟩) c_310_176 rfl ?_
    refine rf_bipush c_310_178 kb_24 ?_
    refine rf_ite (fun hc180 => ?_) (fun hc180 => ?_)
    · refine rf_b2t c_310_180 rfl (decide_eq_true hc180) ?_
      exact t_Mo_lay_215 hS hd  x4 (.ref x0) (.int x1) (u2) (.int x3) (.int x5) σ
    · refine rf_b2f c_310_180 rfl (decide_eq_false hc180) ?_
      refine rf_ald (i := 0) (Or.inr ⟨0, rfl, rfl, rfl⟩) c_310_183 rfl ?_
      refine rf_getr hS c_310_184 rfl fl_12_57 rfl h_x0 ?_
      refine rf_bipush c_310_187 kb_24 ?_
      refine rf_iconst c_310_189 ki_4 ?_
      refine rf_ild (i := 1) (Or.inr ⟨1, rfl, rfl, rfl⟩) c_310_190 rfl ?_
      refine rf_iadd c_310_191 ?_
      refine rf_imul c_310_192 ?_
      refine rf_ild (i := 5) (Or.inl ⟨rfl, rfl⟩) c_310_193 rfl ?_
      refine rf_iadd c_310_195 ?_
      refine rf_ald (i := 0) (Or.inr ⟨0, rfl, rfl, rfl⟩) c_310_196 rfl ?_
      refine rf_getr hS c_310_197 rfl fl_12_57 rfl h_x0 ?_
      refine rf_bipush c_310_200 kb_24 ?_
      refine rf_ild (i := 3) (Or.inr ⟨3, rfl, rfl, rfl⟩) c_310_202 rfl ?_
      refine rf_imul c_310_203 ?_
      refine rf_ild (i := 5) (Or.inl ⟨rfl, rfl⟩) c_310_204 rfl ?_
      refine rf_iadd c_310_206 ?_
      refine rf_ite (fun hb207 => ?_) (fun _ => rf_none)
      refine rf_iald hS c_310_207 (tf_12_38 h_x0) (lf_12_38 h_x0) hb207 ?_
      refine rf_ite (fun hb208 => ?_) (fun _ => rf_none)
      refine rf_iast hS c_310_208 (tf_12_38 h_x0) (lf_12_38 h_x0) hb208 ?_
      refine rf_nm (fun σ208 => ?_)
      refine rf_iinc c_310_209 rfl ki_1 rfl ?_
      refine rf_goto c_310_212 rfl ?_
      exact ih x0 x1 x3 x4 (x5 + (1 : Int32)) (u2) σ208 h_x0
def f_Mo_lay_139 (x0 : Nat) (x1 : Int32) (x2 : Int32) (x3 : Int32) (x4 : Int32) (y0 : Nat) (y1 : Int32) (y2 : Int32) (σ : Mm) : Option (Int32 × Mm) := if inbB y1 6 = true then nmM (up2 σ y0 (ix y1) y2) fun σ139 => (if ¬ x2 = (2 : Int32) then (f_Mo_lay_215  x4 σ139) else (if inbB x3 10 = true then if inbB ((4 : Int32) + x1) 10 = true then nmM (up2 σ139 (rfT x0 36) (ix ((4 : Int32) + x1)) (σ139 (rfT x0 36) (ix x3))) fun σ158 => if inbB x3 10 = true then if inbB ((4 : Int32) + x1) 10 = true then nmM (up2 σ158 (rfT x0 37) (ix ((4 : Int32) + x1)) (σ158 (rfT x0 37) (ix x3))) fun σ172 => f_Mo_lay_176  NN x0 x1 x3 x4 (0 : Int32) σ172 else none else none else none else none)) else none
set_option maxRecDepth 100000 in
set_option maxHeartbeats 4000000 in
theorem t_Mo_lay_139 {X : Xt} {S : Sh} (hS : ShOK S) {d : Nat} (hd : 2 ≤ d + 1) (x0 : Nat) (x1 : Int32) (x2 : Int32) (x3 : Int32) (x4 : Int32) (y0 : Nat) (y1 : Int32) (y2 : Int32) (u5 : Value) (σ : Mm) (h_x0 : tgT x0 = 12) (h_y0 : tgT y0 = 20) (l_y0 : lnT y0 = 6) : Rf X S emM (f_Mo_lay_139 x0 x1 x2 x3 x4 y0 y1 y2 σ) (d + 1) 310 139 [.ref x0, .int x1, .int x2, .int x3, .int x4, u5] [.int y2, .int y1, .ref y0] σ := by
  unfold f_Mo_lay_139
  refine rf_ite (fun hb139 => ?_) (fun _ => rf_none)
  refine rf_iast hS c_310_139 h_y0 l_y0 hb139 ?_
  refine rf_nm (fun σ139 => ?_)
  refine rf_ild (i := 2) (Or.inr ⟨2, rfl, rfl, rfl⟩) c_310_140 rfl ?_
  refine rf_iconst c_310_141 ki_2 ?_
  refine rf_ite (fun hc142 => ?_) (fun hc142 => ?_)
  · refine rf_b2t c_310_142 rfl (decide_eq_true hc142) ?_
    exact t_Mo_lay_215 hS hd  x4 (.ref x0) (.int x1) (.int x2) (.int x3) (u5) σ139
  · refine rf_b2f c_310_142 rfl (decide_eq_false hc142) ?_
    refine rf_ald (i := 0) (Or.inr ⟨0, rfl, rfl, rfl⟩) c_310_145 rfl ?_
    refine rf_getr hS c_310_146 rfl fl_12_51 rfl h_x0 ?_
    refine rf_iconst c_310_149 ki_4 ?_
    refine rf_ild (i := 1) (Or.inr ⟨1, rfl, rfl, rfl⟩) c_310_150 rfl ?_
    refine rf_iadd c_310_151 ?_
    refine rf_ald (i := 0) (Or.inr ⟨0, rfl, rfl, rfl⟩) c_310_152 rfl ?_
    refine rf_getr hS c_310_153 rfl fl_12_51 rfl h_x0 ?_
    refine rf_ild (i := 3) (Or.inr ⟨3, rfl, rfl, rfl⟩) c_310_156 rfl ?_
    refine rf_ite (fun hb157 => ?_) (fun _ => rf_none)
    refine rf_iald hS c_310_157 (tf_12_36 h_x0) (lf_12_36 h_x0) hb157 ?_
    refine rf_ite (fun hb158 => ?_) (fun _ => rf_none)
    refine rf_iast hS c_310_158 (tf_12_36 h_x0) (lf_12_36 h_x0) hb158 ?_
    refine rf_nm (fun σ158 => ?_)
    refine rf_ald (i := 0) (Or.inr ⟨0, rfl, rfl, rfl⟩) c_310_159 rfl ?_
    refine rf_getr hS c_310_160 rfl fl_12_54 rfl h_x0 ?_
    refine rf_iconst c_310_163 ki_4 ?_
    refine rf_ild (i := 1) (Or.inr ⟨1, rfl, rfl, rfl⟩) c_310_164 rfl ?_
    refine rf_iadd c_310_165 ?_
    refine rf_ald (i := 0) (Or.inr ⟨0, rfl, rfl, rfl⟩) c_310_166 rfl ?_
    refine rf_getr hS c_310_167 rfl fl_12_54 rfl h_x0 ?_
    refine rf_ild (i := 3) (Or.inr ⟨3, rfl, rfl, rfl⟩) c_310_170 rfl ?_
    refine rf_ite (fun hb171 => ?_) (fun _ => rf_none)
    refine rf_iald hS c_310_171 (tf_12_37 h_x0) (lf_12_37 h_x0) hb171 ?_
    refine rf_ite (fun hb172 => ?_) (fun _ => rf_none)
    refine rf_iast hS c_310_172 (tf_12_37 h_x0) (lf_12_37 h_x0) hb172 ?_
    refine rf_nm (fun σ172 => ?_)
    refine rf_iconst c_310_173 ki_0 ?_
    refine rf_ist (i := 5) (Or.inl ⟨rfl, rfl⟩) c_310_174 (Nat.le_of_ble_eq_true rfl) rfl ?_
    exact t_Mo_lay_176 hS hd  NN x0 x1 x3 x4 (0 : Int32) (.int x2) σ172 h_x0
def f_Mo_lay_118 (x0 : Nat) (x1 : Int32) (x2 : Int32) (x3 : Int32) (x4 : Int32) (y0 : Nat) (y1 : Int32) (y2 : Int32) (σ : Mm) : Option (Int32 × Mm) := if inbB y1 6 = true then nmM (up2 σ y0 (ix y1) y2) fun σ118 => (if ¬ x2 = (1 : Int32) then (f_Mo_lay_139  x0 x1 x2 x3 x4 (rfT x0 43) x1 (0 : Int32) σ118) else ((f_Mo_paperOf σ118 x0 x3 (4 : Int32)).bind fun v132 => f_Mo_lay_139  x0 x1 x2 x3 x4 (rfT x0 43) x1 v132 σ118)) else none
set_option maxRecDepth 100000 in
set_option maxHeartbeats 4000000 in
theorem t_Mo_lay_118 {X : Xt} {S : Sh} (hS : ShOK S) {d : Nat} (hd : 2 ≤ d + 1) (x0 : Nat) (x1 : Int32) (x2 : Int32) (x3 : Int32) (x4 : Int32) (y0 : Nat) (y1 : Int32) (y2 : Int32) (u5 : Value) (σ : Mm) (h_x0 : tgT x0 = 12) (h_y0 : tgT y0 = 20) (l_y0 : lnT y0 = 6) : Rf X S emM (f_Mo_lay_118 x0 x1 x2 x3 x4 y0 y1 y2 σ) (d + 1) 310 118 [.ref x0, .int x1, .int x2, .int x3, .int x4, u5] [.int y2, .int y1, .ref y0] σ := by
  unfold f_Mo_lay_118
  refine rf_ite (fun hb118 => ?_) (fun _ => rf_none)
  refine rf_iast hS c_310_118 h_y0 l_y0 hb118 ?_
  refine rf_nm (fun σ118 => ?_)
  refine rf_ald (i := 0) (Or.inr ⟨0, rfl, rfl, rfl⟩) c_310_119 rfl ?_
  refine rf_getr hS c_310_120 rfl fl_12_72 rfl h_x0 ?_
  refine rf_ild (i := 1) (Or.inr ⟨1, rfl, rfl, rfl⟩) c_310_123 rfl ?_
  refine rf_ild (i := 2) (Or.inr ⟨2, rfl, rfl, rfl⟩) c_310_124 rfl ?_
  refine rf_iconst c_310_125 ki_1 ?_
  refine rf_ite (fun hc126 => ?_) (fun hc126 => ?_)
  · refine rf_b2t c_310_126 rfl (decide_eq_true hc126) ?_
    refine rf_iconst c_310_138 ki_0 ?_
    exact t_Mo_lay_139 hS hd  x0 x1 x2 x3 x4 (rfT x0 43) x1 (0 : Int32) (u5) σ118 h_x0 (tf_12_43 h_x0) (lf_12_43 h_x0)
  · refine rf_b2f c_310_126 rfl (decide_eq_false hc126) ?_
    refine rf_ald (i := 0) (Or.inr ⟨0, rfl, rfl, rfl⟩) c_310_129 rfl ?_
    refine rf_ild (i := 3) (Or.inr ⟨3, rfl, rfl, rfl⟩) c_310_130 rfl ?_
    refine rf_iconst c_310_131 ki_4 ?_
    refine rf_callI (as := [.ref x0, .int x3, .int (4 : Int32)]) (kd := 1) c_310_132 rfl (by decide) rfl ml_12_144 (by decide) rfl (rcv_1 hS rfl rfl h_x0 (by decide)) (by simp [Value.category]) rfl rfl (t_Mo_paperOf hS (by omega) σ118 x0 x3 (4 : Int32) h_x0) (fun v132 => ?_)
    refine rf_goto c_310_135 rfl ?_
    exact t_Mo_lay_139 hS hd  x0 x1 x2 x3 x4 (rfT x0 43) x1 v132 (u5) σ118 h_x0 (tf_12_43 h_x0) (lf_12_43 h_x0)
def f_Mo_lay_97 (x0 : Nat) (x1 : Int32) (x2 : Int32) (x3 : Int32) (x4 : Int32) (y0 : Nat) (y1 : Int32) (y2 : Int32) (σ : Mm) : Option (Int32 × Mm) := if inbB y1 6 = true then nmM (up2 σ y0 (ix y1) y2) fun σ97 => (if ¬ x2 = (1 : Int32) then (f_Mo_lay_118  x0 x1 x2 x3 x4 (rfT x0 42) x1 x3 σ97) else ((f_Mo_paperOf σ97 x0 x3 (3 : Int32)).bind fun v111 => f_Mo_lay_118  x0 x1 x2 x3 x4 (rfT x0 42) x1 v111 σ97)) else none
set_option maxRecDepth 100000 in
set_option maxHeartbeats 4000000 in
theorem t_Mo_lay_97 {X : Xt} {S : Sh} (hS : ShOK S) {d : Nat} (hd : 2 ≤ d + 1) (x0 : Nat) (x1 : Int32) (x2 : Int32) (x3 : Int32) (x4 : Int32) (y0 : Nat) (y1 : Int32) (y2 : Int32) (u5 : Value) (σ : Mm) (h_x0 : tgT x0 = 12) (h_y0 : tgT y0 = 20) (l_y0 : lnT y0 = 6) : Rf X S emM (f_Mo_lay_97 x0 x1 x2 x3 x4 y0 y1 y2 σ) (d + 1) 310 97 [.ref x0, .int x1, .int x2, .int x3, .int x4, u5] [.int y2, .int y1, .ref y0] σ := by
  unfold f_Mo_lay_97
  refine rf_ite (fun hb97 => ?_) (fun _ => rf_none)
  refine rf_iast hS c_310_97 h_y0 l_y0 hb97 ?_
  refine rf_nm (fun σ97 => ?_)
  refine rf_ald (i := 0) (Or.inr ⟨0, rfl, rfl, rfl⟩) c_310_98 rfl ?_
  refine rf_getr hS c_310_99 rfl fl_12_69 rfl h_x0 ?_
  refine rf_ild (i := 1) (Or.inr ⟨1, rfl, rfl, rfl⟩) c_310_102 rfl ?_
  refine rf_ild (i := 2) (Or.inr ⟨2, rfl, rfl, rfl⟩) c_310_103 rfl ?_
  refine rf_iconst c_310_104 ki_1 ?_
  refine rf_ite (fun hc105 => ?_) (fun hc105 => ?_)
  · refine rf_b2t c_310_105 rfl (decide_eq_true hc105) ?_
    refine rf_ild (i := 3) (Or.inr ⟨3, rfl, rfl, rfl⟩) c_310_117 rfl ?_
    exact t_Mo_lay_118 hS hd  x0 x1 x2 x3 x4 (rfT x0 42) x1 x3 (u5) σ97 h_x0 (tf_12_42 h_x0) (lf_12_42 h_x0)
  · refine rf_b2f c_310_105 rfl (decide_eq_false hc105) ?_
    refine rf_ald (i := 0) (Or.inr ⟨0, rfl, rfl, rfl⟩) c_310_108 rfl ?_
    refine rf_ild (i := 3) (Or.inr ⟨3, rfl, rfl, rfl⟩) c_310_109 rfl ?_
    refine rf_iconst c_310_110 ki_3 ?_
    refine rf_callI (as := [.ref x0, .int x3, .int (3 : Int32)]) (kd := 1) c_310_111 rfl (by decide) rfl ml_12_144 (by decide) rfl (rcv_1 hS rfl rfl h_x0 (by decide)) (by simp [Value.category]) rfl rfl (t_Mo_paperOf hS (by omega) σ97 x0 x3 (3 : Int32) h_x0) (fun v111 => ?_)
    refine rf_goto c_310_114 rfl ?_
    exact t_Mo_lay_118 hS hd  x0 x1 x2 x3 x4 (rfT x0 42) x1 v111 (u5) σ97 h_x0 (tf_12_42 h_x0) (lf_12_42 h_x0)
def f_Mo_lay_62 (x0 : Nat) (x1 : Int32) (x2 : Int32) (x3 : Int32) (σ : Mm) : Option (Int32 × Mm) := if inbB x1 6 = true then if inbB x1 6 = true then nmM (up2 σ (rfT x0 40) (ix x1) x2) fun σ76 => (if ¬ x2 = (1 : Int32) then (f_Mo_lay_97  x0 x1 x2 x3 (σ (rfT x0 40) (ix x1)) (rfT x0 41) x1 (0 : Int32) σ76) else ((f_Mo_paperOf σ76 x0 x3 (0 : Int32)).bind fun v90 => f_Mo_lay_97  x0 x1 x2 x3 (σ (rfT x0 40) (ix x1)) (rfT x0 41) x1 v90 σ76)) else none else none
set_option maxRecDepth 100000 in
set_option maxHeartbeats 4000000 in
theorem t_Mo_lay_62 {X : Xt} {S : Sh} (hS : ShOK S) {d : Nat} (hd : 2 ≤ d + 1) (x0 : Nat) (x1 : Int32) (x2 : Int32) (x3 : Int32) (u4 : Value) (u5 : Value) (σ : Mm) (h_x0 : tgT x0 = 12) : Rf X S emM (f_Mo_lay_62 x0 x1 x2 x3 σ) (d + 1) 310 62 [.ref x0, .int x1, .int x2, .int x3, u4, u5] [] σ := by
  unfold f_Mo_lay_62
  refine rf_ald (i := 0) (Or.inr ⟨0, rfl, rfl, rfl⟩) c_310_62 rfl ?_
  refine rf_getr hS c_310_63 rfl fl_12_63 rfl h_x0 ?_
  refine rf_ild (i := 1) (Or.inr ⟨1, rfl, rfl, rfl⟩) c_310_66 rfl ?_
  refine rf_ite (fun hb67 => ?_) (fun _ => rf_none)
  refine rf_iald hS c_310_67 (tf_12_40 h_x0) (lf_12_40 h_x0) hb67 ?_
  refine rf_ist (i := 4) (Or.inl ⟨rfl, rfl⟩) c_310_68 (Nat.le_of_ble_eq_true rfl) rfl ?_
  refine rf_ald (i := 0) (Or.inr ⟨0, rfl, rfl, rfl⟩) c_310_70 rfl ?_
  refine rf_getr hS c_310_71 rfl fl_12_63 rfl h_x0 ?_
  refine rf_ild (i := 1) (Or.inr ⟨1, rfl, rfl, rfl⟩) c_310_74 rfl ?_
  refine rf_ild (i := 2) (Or.inr ⟨2, rfl, rfl, rfl⟩) c_310_75 rfl ?_
  refine rf_ite (fun hb76 => ?_) (fun _ => rf_none)
  refine rf_iast hS c_310_76 (tf_12_40 h_x0) (lf_12_40 h_x0) hb76 ?_
  refine rf_nm (fun σ76 => ?_)
  refine rf_ald (i := 0) (Or.inr ⟨0, rfl, rfl, rfl⟩) c_310_77 rfl ?_
  refine rf_getr hS c_310_78 rfl fl_12_66 rfl h_x0 ?_
  refine rf_ild (i := 1) (Or.inr ⟨1, rfl, rfl, rfl⟩) c_310_81 rfl ?_
  refine rf_ild (i := 2) (Or.inr ⟨2, rfl, rfl, rfl⟩) c_310_82 rfl ?_
  refine rf_iconst c_310_83 ki_1 ?_
  refine rf_ite (fun hc84 => ?_) (fun hc84 => ?_)
  · refine rf_b2t c_310_84 rfl (decide_eq_true hc84) ?_
    refine rf_iconst c_310_96 ki_0 ?_
    exact t_Mo_lay_97 hS hd  x0 x1 x2 x3 (σ (rfT x0 40) (ix x1)) (rfT x0 41) x1 (0 : Int32) (u5) σ76 h_x0 (tf_12_41 h_x0) (lf_12_41 h_x0)
  · refine rf_b2f c_310_84 rfl (decide_eq_false hc84) ?_
    refine rf_ald (i := 0) (Or.inr ⟨0, rfl, rfl, rfl⟩) c_310_87 rfl ?_
    refine rf_ild (i := 3) (Or.inr ⟨3, rfl, rfl, rfl⟩) c_310_88 rfl ?_
    refine rf_iconst c_310_89 ki_0 ?_
    refine rf_callI (as := [.ref x0, .int x3, .int (0 : Int32)]) (kd := 1) c_310_90 rfl (by decide) rfl ml_12_144 (by decide) rfl (rcv_1 hS rfl rfl h_x0 (by decide)) (by simp [Value.category]) rfl rfl (t_Mo_paperOf hS (by omega) σ76 x0 x3 (0 : Int32) h_x0) (fun v90 => ?_)
    refine rf_goto c_310_93 rfl ?_
    exact t_Mo_lay_97 hS hd  x0 x1 x2 x3 (σ (rfT x0 40) (ix x1)) (rfT x0 41) x1 v90 (u5) σ76 h_x0 (tf_12_41 h_x0) (lf_12_41 h_x0)
def f_Mo_lay_44 (x0 : Nat) (x1 : Int32) (x2 : Int32) (x3 : Int32) (σ : Mm) : Option (Int32 × Mm) := (if ¬ x2 = (2 : Int32) then (f_Mo_lay_62  x0 x1 x2 x3 σ) else (if inbB x3 10 = true then (if 0 ≤ (σ (rfT x0 36) (ix x3)) then (f_Mo_lay_62  x0 x1 x2 x3 σ) else (some ((-1000000011 : Int32), σ))) else none))
set_option maxRecDepth 100000 in
set_option maxHeartbeats 4000000 in
theorem t_Mo_lay_44 {X : Xt} {S : Sh} (hS : ShOK S) {d : Nat} (hd : 2 ≤ d + 1) (x0 : Nat) (x1 : Int32) (x2 : Int32) (x3 : Int32) (u4 : Value) (u5 : Value) (σ : Mm) (h_x0 : tgT x0 = 12) : Rf X S emM (f_Mo_lay_44 x0 x1 x2 x3 σ) (d + 1) 310 44 [.ref x0, .int x1, .int x2, .int x3, u4, u5] [] σ := by
  unfold f_Mo_lay_44
  refine rf_ild (i := 2) (Or.inr ⟨2, rfl, rfl, rfl⟩) c_310_44 rfl ?_
  refine rf_iconst c_310_45 ki_2 ?_
  refine rf_ite (fun hc46 => ?_) (fun hc46 => ?_)
  · refine rf_b2t c_310_46 rfl (decide_eq_true hc46) ?_
    exact t_Mo_lay_62 hS hd  x0 x1 x2 x3 (u4) (u5) σ h_x0
  · refine rf_b2f c_310_46 rfl (decide_eq_false hc46) ?_
    refine rf_ald (i := 0) (Or.inr ⟨0, rfl, rfl, rfl⟩) c_310_49 rfl ?_
    refine rf_getr hS c_310_50 rfl fl_12_51 rfl h_x0 ?_
    refine rf_ild (i := 3) (Or.inr ⟨3, rfl, rfl, rfl⟩) c_310_53 rfl ?_
    refine rf_ite (fun hb54 => ?_) (fun _ => rf_none)
    refine rf_iald hS c_310_54 (tf_12_36 h_x0) (lf_12_36 h_x0) hb54 ?_
    refine rf_ite (fun hc55 => ?_) (fun hc55 => ?_)
    · refine rf_b1t c_310_55 rfl (decide_eq_true hc55) ?_
      exact t_Mo_lay_62 hS hd  x0 x1 x2 x3 (u4) (u5) σ h_x0
    · refine rf_b1f c_310_55 rfl (decide_eq_false hc55) ?_
      refine rf_ldc (Or.inr ⟨rfl, rfl⟩) c_310_58 rfl kl_12_383 ?_
      exact rf_ret c_310_61 rfl rfl rfl rfl
def f_Mo_lay_29 (x0 : Nat) (x1 : Int32) (x2 : Int32) (x3 : Int32) (σ : Mm) : Option (Int32 × Mm) := (if ¬ x2 = (2 : Int32) then (f_Mo_lay_44  x0 x1 x2 x3 σ) else ((f_Mo_isRegister σ x3).bind fun v35 => (if ¬ v35 = 0 then (f_Mo_lay_44  x0 x1 x2 x3 σ) else (f_Mo_lay_41  σ))))
set_option maxRecDepth 100000 in
set_option maxHeartbeats 4000000 in
theorem t_Mo_lay_29 {X : Xt} {S : Sh} (hS : ShOK S) {d : Nat} (hd : 2 ≤ d + 1) (x0 : Nat) (x1 : Int32) (x2 : Int32) (x3 : Int32) (u4 : Value) (u5 : Value) (σ : Mm) (h_x0 : tgT x0 = 12) : Rf X S emM (f_Mo_lay_29 x0 x1 x2 x3 σ) (d + 1) 310 29 [.ref x0, .int x1, .int x2, .int x3, u4, u5] [] σ := by
  unfold f_Mo_lay_29
  refine rf_ild (i := 2) (Or.inr ⟨2, rfl, rfl, rfl⟩) c_310_29 rfl ?_
  refine rf_iconst c_310_30 ki_2 ?_
  refine rf_ite (fun hc31 => ?_) (fun hc31 => ?_)
  · refine rf_b2t c_310_31 rfl (decide_eq_true hc31) ?_
    exact t_Mo_lay_44 hS hd  x0 x1 x2 x3 (u4) (u5) σ h_x0
  · refine rf_b2f c_310_31 rfl (decide_eq_false hc31) ?_
    refine rf_ild (i := 3) (Or.inr ⟨3, rfl, rfl, rfl⟩) c_310_34 rfl ?_
    refine rf_callI (as := [.int x3]) (kd := 0) c_310_35 rfl (by decide) rfl ml_12_379 (by decide) rfl (rcv_0 rfl) (Nat.zero_le _) rfl rfl (t_Mo_isRegister hS (by omega) σ x3) (fun v35 => ?_)
    refine rf_ite (fun hc38 => ?_) (fun hc38 => ?_)
    · refine rf_b1t c_310_38 rfl (decide_eq_true hc38) ?_
      exact t_Mo_lay_44 hS hd  x0 x1 x2 x3 (u4) (u5) σ h_x0
    · refine rf_b1f c_310_38 rfl (decide_eq_false hc38) ?_
      exact t_Mo_lay_41 hS hd  (.ref x0) (.int x1) (.int x2) (.int x3) (u4) (u5) σ
def f_Mo_lay (x0 : Nat) (x1 : Int32) (x2 : Int32) (x3 : Int32) (σ : Mm) : Option (Int32 × Mm) := (f_Mo_isSeat σ x1).bind fun v1 => (if v1 = 0 then (f_Mo_lay_41  σ) else ((f_Mo_in σ x2 (0 : Int32) (3 : Int32)).bind fun v10 => (if v10 = 0 then (f_Mo_lay_41  σ) else (if ¬ x2 = (1 : Int32) then (f_Mo_lay_29  x0 x1 x2 x3 σ) else ((f_Mo_isPaper σ x0 x3).bind fun v23 => (if v23 = 0 then (f_Mo_lay_41  σ) else (f_Mo_lay_29  x0 x1 x2 x3 σ)))))))
set_option maxRecDepth 100000 in
set_option maxHeartbeats 4000000 in
theorem t_Mo_lay_e {X : Xt} {S : Sh} (hS : ShOK S) {d : Nat} (hd : 2 ≤ d + 1) (x0 : Nat) (x1 : Int32) (x2 : Int32) (x3 : Int32) (σ : Mm) (h_x0 : tgT x0 = 12) : Rf X S emM (f_Mo_lay x0 x1 x2 x3 σ) (d + 1) 310 0 [.ref x0, .int x1, .int x2, .int x3, unset0, unset0] [] σ := by
  unfold f_Mo_lay
  refine rf_ild (i := 1) (Or.inr ⟨1, rfl, rfl, rfl⟩) c_310_0 rfl ?_
  refine rf_callI (as := [.int x1]) (kd := 0) c_310_1 rfl (by decide) rfl ml_12_385 (by decide) rfl (rcv_0 rfl) (Nat.zero_le _) rfl rfl (t_Mo_isSeat hS (by omega) σ x1) (fun v1 => ?_)
  refine rf_ite (fun hc4 => ?_) (fun hc4 => ?_)
  · refine rf_b1t c_310_4 rfl (decide_eq_true hc4) ?_
    exact t_Mo_lay_41 hS hd  (.ref x0) (.int x1) (.int x2) (.int x3) (unset0) (unset0) σ
  · refine rf_b1f c_310_4 rfl (decide_eq_false hc4) ?_
    refine rf_ild (i := 2) (Or.inr ⟨2, rfl, rfl, rfl⟩) c_310_7 rfl ?_
    refine rf_iconst c_310_8 ki_0 ?_
    refine rf_iconst c_310_9 ki_3 ?_
    refine rf_callI (as := [.int x2, .int (0 : Int32), .int (3 : Int32)]) (kd := 0) c_310_10 rfl (by decide) rfl ml_12_82 (by decide) rfl (rcv_0 rfl) (Nat.zero_le _) rfl rfl (t_Mo_in hS (by omega) σ x2 (0 : Int32) (3 : Int32)) (fun v10 => ?_)
    refine rf_ite (fun hc13 => ?_) (fun hc13 => ?_)
    · refine rf_b1t c_310_13 rfl (decide_eq_true hc13) ?_
      exact t_Mo_lay_41 hS hd  (.ref x0) (.int x1) (.int x2) (.int x3) (unset0) (unset0) σ
    · refine rf_b1f c_310_13 rfl (decide_eq_false hc13) ?_
      refine rf_ild (i := 2) (Or.inr ⟨2, rfl, rfl, rfl⟩) c_310_16 rfl ?_
      refine rf_iconst c_310_17 ki_1 ?_
      refine rf_ite (fun hc18 => ?_) (fun hc18 => ?_)
      · refine rf_b2t c_310_18 rfl (decide_eq_true hc18) ?_
        exact t_Mo_lay_29 hS hd  x0 x1 x2 x3 (unset0) (unset0) σ h_x0
      · refine rf_b2f c_310_18 rfl (decide_eq_false hc18) ?_
        refine rf_ald (i := 0) (Or.inr ⟨0, rfl, rfl, rfl⟩) c_310_21 rfl ?_
        refine rf_ild (i := 3) (Or.inr ⟨3, rfl, rfl, rfl⟩) c_310_22 rfl ?_
        refine rf_callI (as := [.ref x0, .int x3]) (kd := 1) c_310_23 rfl (by decide) rfl ml_12_141 (by decide) rfl (rcv_1 hS rfl rfl h_x0 (by decide)) (Nat.zero_le _) rfl rfl (t_Mo_isPaper hS (by omega) σ x0 x3 h_x0) (fun v23 => ?_)
        refine rf_ite (fun hc26 => ?_) (fun hc26 => ?_)
        · refine rf_b1t c_310_26 rfl (decide_eq_true hc26) ?_
          exact t_Mo_lay_41 hS hd  (.ref x0) (.int x1) (.int x2) (.int x3) (unset0) (unset0) σ
        · refine rf_b1f c_310_26 rfl (decide_eq_false hc26) ?_
          exact t_Mo_lay_29 hS hd  x0 x1 x2 x3 (unset0) (unset0) σ h_x0
theorem t_Mo_lay {X : Xt} {S : Sh} (hS : ShOK S) {d : Nat} (hd : 2 ≤ d) (x0 : Nat) (x1 : Int32) (x2 : Int32) (x3 : Int32) (σ : Mm) (h_x0 : tgT x0 = 12) : Rf X S emM (f_Mo_lay x0 x1 x2 x3 σ) d 310 0 [.ref x0, .int x1, .int x2, .int x3, unset0, unset0] [] σ := by
  obtain ⟨d1, rfl⟩ : ∃ d1, d = d1 + 1 := ⟨d - 1, by omega⟩
  exact t_Mo_lay_e hS hd x0 x1 x2 x3 σ h_x0
theorem c_311_0 : cd 311 0 = some (.iload_n 1, 1) := by decide +kernel
theorem c_311_1 : cd 311 1 = some (.invokestatic 385, 3) := by decide +kernel
theorem c_311_4 : cd 311 4 = some (.ifCond .ne (8), 3) := by decide +kernel
theorem c_311_7 : cd 311 7 = some (.ldc 91, 2) := by decide +kernel
theorem c_311_9 : cd 311 9 = some (.goto (34), 3) := by decide +kernel
theorem c_311_12 : cd 311 12 = some (.aload_n 0, 1) := by decide +kernel
theorem c_311_13 : cd 311 13 = some (.getfield 63, 3) := by decide +kernel
theorem c_311_16 : cd 311 16 = some (.iload_n 1, 1) := by decide +kernel
theorem c_311_17 : cd 311 17 = some (.iaload, 1) := by decide +kernel
theorem c_311_18 : cd 311 18 = some (.ifCond .ne (9), 3) := by decide +kernel
theorem c_311_21 : cd 311 21 = some (.ldc_w 383, 3) := by decide +kernel
theorem c_311_24 : cd 311 24 = some (.goto (19), 3) := by decide +kernel
theorem c_311_27 : cd 311 27 = some (.aload_n 0, 1) := by decide +kernel
theorem c_311_28 : cd 311 28 = some (.getfield 63, 3) := by decide +kernel
theorem c_311_31 : cd 311 31 = some (.iload_n 1, 1) := by decide +kernel
theorem c_311_32 : cd 311 32 = some (.iaload, 1) := by decide +kernel
theorem c_311_33 : cd 311 33 = some (.iload_n 2, 1) := by decide +kernel
theorem c_311_34 : cd 311 34 = some (.if_icmp .eq (8), 3) := by decide +kernel
theorem c_311_37 : cd 311 37 = some (.ldc 154, 2) := by decide +kernel
theorem c_311_39 : cd 311 39 = some (.goto (4), 3) := by decide +kernel
theorem c_311_42 : cd 311 42 = some (.iconst (0), 1) := by decide +kernel
theorem c_311_43 : cd 311 43 = some (.ireturn, 1) := by decide +kernel
def f_Mo_whyNot_43 (σ : Mm) (y0 : Int32) : Option Int32 := some y0
set_option maxRecDepth 100000 in
set_option maxHeartbeats 4000000 in
theorem t_Mo_whyNot_43 {X : Xt} {S : Sh} (hS : ShOK S) {d : Nat} (hd : 2 ≤ d + 1) (σ : Mm) (y0 : Int32) (u0 : Value) (u1 : Value) (u2 : Value) : Rf X S (emI σ) (f_Mo_whyNot_43 σ y0) (d + 1) 311 43 [u0, u1, u2] [.int y0] σ := by
  unfold f_Mo_whyNot_43
  exact rf_ret c_311_43 rfl rfl rfl rfl
def f_Mo_whyNot (σ : Mm) (x0 : Nat) (x1 : Int32) (x2 : Int32) : Option Int32 := (f_Mo_isSeat σ x1).bind fun v1 => (if ¬ v1 = 0 then (if inbB x1 6 = true then (if ¬ (σ (rfT x0 40) (ix x1)) = 0 then (if inbB x1 6 = true then (if (σ (rfT x0 40) (ix x1)) = x2 then (f_Mo_whyNot_43 σ (0 : Int32)) else (f_Mo_whyNot_43 σ (-1000000012 : Int32))) else none) else (f_Mo_whyNot_43 σ (-1000000011 : Int32))) else none) else (f_Mo_whyNot_43 σ (-1000000001 : Int32)))
set_option maxRecDepth 100000 in
set_option maxHeartbeats 4000000 in
theorem t_Mo_whyNot_e {X : Xt} {S : Sh} (hS : ShOK S) {d : Nat} (hd : 2 ≤ d + 1) (σ : Mm) (x0 : Nat) (x1 : Int32) (x2 : Int32) (h_x0 : tgT x0 = 12) : Rf X S (emI σ) (f_Mo_whyNot σ x0 x1 x2) (d + 1) 311 0 [.ref x0, .int x1, .int x2] [] σ := by
  unfold f_Mo_whyNot
  refine rf_ild (i := 1) (Or.inr ⟨1, rfl, rfl, rfl⟩) c_311_0 rfl ?_
  refine rf_callI (as := [.int x1]) (kd := 0) c_311_1 rfl (by decide) rfl ml_12_385 (by decide) rfl (rcv_0 rfl) (Nat.zero_le _) rfl rfl (t_Mo_isSeat hS (by omega) σ x1) (fun v1 => ?_)
  refine rf_ite (fun hc4 => ?_) (fun hc4 => ?_)
  · refine rf_b1t c_311_4 rfl (decide_eq_true hc4) ?_
    refine rf_ald (i := 0) (Or.inr ⟨0, rfl, rfl, rfl⟩) c_311_12 rfl ?_
    refine rf_getr hS c_311_13 rfl fl_12_63 rfl h_x0 ?_
    refine rf_ild (i := 1) (Or.inr ⟨1, rfl, rfl, rfl⟩) c_311_16 rfl ?_
    refine rf_ite (fun hb17 => ?_) (fun _ => rf_none)
    refine rf_iald hS c_311_17 (tf_12_40 h_x0) (lf_12_40 h_x0) hb17 ?_
    refine rf_ite (fun hc18 => ?_) (fun hc18 => ?_)
    · refine rf_b1t c_311_18 rfl (decide_eq_true hc18) ?_
      refine rf_ald (i := 0) (Or.inr ⟨0, rfl, rfl, rfl⟩) c_311_27 rfl ?_
      refine rf_getr hS c_311_28 rfl fl_12_63 rfl h_x0 ?_
      refine rf_ild (i := 1) (Or.inr ⟨1, rfl, rfl, rfl⟩) c_311_31 rfl ?_
      refine rf_ite (fun hb32 => ?_) (fun _ => rf_none)
      refine rf_iald hS c_311_32 (tf_12_40 h_x0) (lf_12_40 h_x0) hb32 ?_
      refine rf_ild (i := 2) (Or.inr ⟨2, rfl, rfl, rfl⟩) c_311_33 rfl ?_
      refine rf_ite (fun hc34 => ?_) (fun hc34 => ?_)
      · refine rf_b2t c_311_34 rfl (decide_eq_true hc34) ?_
        refine rf_iconst c_311_42 ki_0 ?_
        exact t_Mo_whyNot_43 hS hd σ  (0 : Int32) (.ref x0) (.int x1) (.int x2)
      · refine rf_b2f c_311_34 rfl (decide_eq_false hc34) ?_
        refine rf_ldc (Or.inl ⟨rfl, rfl⟩) c_311_37 rfl kl_12_154 ?_
        refine rf_goto c_311_39 rfl ?_
        exact t_Mo_whyNot_43 hS hd σ  (-1000000012 : Int32) (.ref x0) (.int x1) (.int x2)
    · refine rf_b1f c_311_18 rfl (decide_eq_false hc18) ?_
      refine rf_ldc (Or.inr ⟨rfl, rfl⟩) c_311_21 rfl kl_12_383 ?_
      refine rf_goto c_311_24 rfl ?_
      exact t_Mo_whyNot_43 hS hd σ  (-1000000011 : Int32) (.ref x0) (.int x1) (.int x2)
  · refine rf_b1f c_311_4 rfl (decide_eq_false hc4) ?_
    refine rf_ldc (Or.inl ⟨rfl, rfl⟩) c_311_7 rfl kl_12_91 ?_
    refine rf_goto c_311_9 rfl ?_
    exact t_Mo_whyNot_43 hS hd σ  (-1000000001 : Int32) (.ref x0) (.int x1) (.int x2)
theorem t_Mo_whyNot {X : Xt} {S : Sh} (hS : ShOK S) {d : Nat} (hd : 2 ≤ d) (σ : Mm) (x0 : Nat) (x1 : Int32) (x2 : Int32) (h_x0 : tgT x0 = 12) : Rf X S (emI σ) (f_Mo_whyNot σ x0 x1 x2) d 311 0 [.ref x0, .int x1, .int x2] [] σ := by
  obtain ⟨d1, rfl⟩ : ∃ d1, d = d1 + 1 := ⟨d - 1, by omega⟩
  exact t_Mo_whyNot_e hS hd σ x0 x1 x2 h_x0
theorem c_312_0 : cd 312 0 = some (.iload_n 2, 1) := by decide +kernel
theorem c_312_1 : cd 312 1 = some (.iconst (0), 1) := by decide +kernel
theorem c_312_2 : cd 312 2 = some (.iconst (4), 1) := by decide +kernel
theorem c_312_3 : cd 312 3 = some (.invokestatic 82, 3) := by decide +kernel
theorem c_312_6 : cd 312 6 = some (.ifCond .ne (6), 3) := by decide +kernel
theorem c_312_9 : cd 312 9 = some (.ldc 91, 2) := by decide +kernel
theorem c_312_11 : cd 312 11 = some (.ireturn, 1) := by decide +kernel
theorem c_312_12 : cd 312 12 = some (.aload_n 0, 1) := by decide +kernel
theorem c_312_13 : cd 312 13 = some (.iload_n 1, 1) := by decide +kernel
theorem c_312_14 : cd 312 14 = some (.iconst (1), 1) := by decide +kernel
theorem c_312_15 : cd 312 15 = some (.invokevirtual 388, 3) := by decide +kernel
theorem c_312_18 : cd 312 18 = some (.istore_n 3, 1) := by decide +kernel
theorem c_312_19 : cd 312 19 = some (.iload_n 3, 1) := by decide +kernel
theorem c_312_20 : cd 312 20 = some (.ifCond .eq (5), 3) := by decide +kernel
theorem c_312_23 : cd 312 23 = some (.iload_n 3, 1) := by decide +kernel
theorem c_312_24 : cd 312 24 = some (.ireturn, 1) := by decide +kernel
theorem c_312_25 : cd 312 25 = some (.aload_n 0, 1) := by decide +kernel
theorem c_312_26 : cd 312 26 = some (.getfield 66, 3) := by decide +kernel
theorem c_312_29 : cd 312 29 = some (.iload_n 1, 1) := by decide +kernel
theorem c_312_30 : cd 312 30 = some (.iaload, 1) := by decide +kernel
theorem c_312_31 : cd 312 31 = some (.iload_n 2, 1) := by decide +kernel
theorem c_312_32 : cd 312 32 = some (.invokestatic 151, 3) := by decide +kernel
theorem c_312_35 : cd 312 35 = some (.ifCond .eq (27), 3) := by decide +kernel
theorem c_312_38 : cd 312 38 = some (.aload_n 0, 1) := by decide +kernel
theorem c_312_39 : cd 312 39 = some (.getfield 66, 3) := by decide +kernel
theorem c_312_42 : cd 312 42 = some (.iload_n 1, 1) := by decide +kernel
theorem c_312_43 : cd 312 43 = some (.iaload, 1) := by decide +kernel
theorem c_312_44 : cd 312 44 = some (.aload_n 0, 1) := by decide +kernel
theorem c_312_45 : cd 312 45 = some (.getfield 69, 3) := by decide +kernel
theorem c_312_48 : cd 312 48 = some (.iload_n 1, 1) := by decide +kernel
theorem c_312_49 : cd 312 49 = some (.iaload, 1) := by decide +kernel
theorem c_312_50 : cd 312 50 = some (.aload_n 0, 1) := by decide +kernel
theorem c_312_51 : cd 312 51 = some (.getfield 72, 3) := by decide +kernel
theorem c_312_54 : cd 312 54 = some (.iload_n 1, 1) := by decide +kernel
theorem c_312_55 : cd 312 55 = some (.iaload, 1) := by decide +kernel
theorem c_312_56 : cd 312 56 = some (.invokestatic 147, 3) := by decide +kernel
theorem c_312_59 : cd 312 59 = some (.goto (5), 3) := by decide +kernel
theorem c_312_62 : cd 312 62 = some (.ldc 154, 2) := by decide +kernel
theorem c_312_64 : cd 312 64 = some (.ireturn, 1) := by decide +kernel
def f_Mo_ask_64 (σ : Mm) (y0 : Int32) : Option Int32 := some y0
set_option maxRecDepth 100000 in
set_option maxHeartbeats 4000000 in
theorem t_Mo_ask_64 {X : Xt} {S : Sh} (hS : ShOK S) {d : Nat} (hd : 3 ≤ d + 1) (σ : Mm) (y0 : Int32) (u0 : Value) (u1 : Value) (u2 : Value) (u3 : Value) : Rf X S (emI σ) (f_Mo_ask_64 σ y0) (d + 1) 312 64 [u0, u1, u2, u3] [.int y0] σ := by
  unfold f_Mo_ask_64
  exact rf_ret c_312_64 rfl rfl rfl rfl
def f_Mo_ask (σ : Mm) (x0 : Nat) (x1 : Int32) (x2 : Int32) : Option Int32 := (f_Mo_in σ x2 (0 : Int32) (4 : Int32)).bind fun v3 => (if ¬ v3 = 0 then ((f_Mo_whyNot σ x0 x1 (1 : Int32)).bind fun v15 => (if v15 = 0 then (if inbB x1 6 = true then (f_Mo_isUnder σ (σ (rfT x0 41) (ix x1)) x2).bind fun v32 => (if v32 = 0 then (f_Mo_ask_64 σ (-1000000012 : Int32)) else (if inbB x1 6 = true then if inbB x1 6 = true then if inbB x1 6 = true then (f_Mo_weighs σ (σ (rfT x0 41) (ix x1)) (σ (rfT x0 42) (ix x1)) (σ (rfT x0 43) (ix x1))).bind fun v56 => f_Mo_ask_64 σ v56 else none else none else none)) else none) else (some v15))) else (some (-1000000001 : Int32)))
set_option maxRecDepth 100000 in
set_option maxHeartbeats 4000000 in
theorem t_Mo_ask_e {X : Xt} {S : Sh} (hS : ShOK S) {d : Nat} (hd : 3 ≤ d + 1) (σ : Mm) (x0 : Nat) (x1 : Int32) (x2 : Int32) (h_x0 : tgT x0 = 12) : Rf X S (emI σ) (f_Mo_ask σ x0 x1 x2) (d + 1) 312 0 [.ref x0, .int x1, .int x2, unset0] [] σ := by
  unfold f_Mo_ask
  refine rf_ild (i := 2) (Or.inr ⟨2, rfl, rfl, rfl⟩) c_312_0 rfl ?_
  refine rf_iconst c_312_1 ki_0 ?_
  refine rf_iconst c_312_2 ki_4 ?_
  refine rf_callI (as := [.int x2, .int (0 : Int32), .int (4 : Int32)]) (kd := 0) c_312_3 rfl (by decide) rfl ml_12_82 (by decide) rfl (rcv_0 rfl) (Nat.zero_le _) rfl rfl (t_Mo_in hS (by omega) σ x2 (0 : Int32) (4 : Int32)) (fun v3 => ?_)
  refine rf_ite (fun hc6 => ?_) (fun hc6 => ?_)
  · refine rf_b1t c_312_6 rfl (decide_eq_true hc6) ?_
    refine rf_ald (i := 0) (Or.inr ⟨0, rfl, rfl, rfl⟩) c_312_12 rfl ?_
    refine rf_ild (i := 1) (Or.inr ⟨1, rfl, rfl, rfl⟩) c_312_13 rfl ?_
    refine rf_iconst c_312_14 ki_1 ?_
    refine rf_callI (as := [.ref x0, .int x1, .int (1 : Int32)]) (kd := 1) c_312_15 rfl (by decide) rfl ml_12_388 (by decide) rfl (rcv_1 hS rfl rfl h_x0 (by decide)) (Nat.zero_le _) rfl rfl (t_Mo_whyNot hS (by omega) σ x0 x1 (1 : Int32) h_x0) (fun v15 => ?_)
    refine rf_ist (i := 3) (Or.inr ⟨3, rfl, rfl, rfl⟩) c_312_18 (Nat.le_of_ble_eq_true rfl) rfl ?_
    refine rf_ild (i := 3) (Or.inr ⟨3, rfl, rfl, rfl⟩) c_312_19 rfl ?_
    refine rf_ite (fun hc20 => ?_) (fun hc20 => ?_)
    · refine rf_b1t c_312_20 rfl (decide_eq_true hc20) ?_
      refine rf_ald (i := 0) (Or.inr ⟨0, rfl, rfl, rfl⟩) c_312_25 rfl ?_
      refine rf_getr hS c_312_26 rfl fl_12_66 rfl h_x0 ?_
      refine rf_ild (i := 1) (Or.inr ⟨1, rfl, rfl, rfl⟩) c_312_29 rfl ?_
      refine rf_ite (fun hb30 => ?_) (fun _ => rf_none)
      refine rf_iald hS c_312_30 (tf_12_41 h_x0) (lf_12_41 h_x0) hb30 ?_
      refine rf_ild (i := 2) (Or.inr ⟨2, rfl, rfl, rfl⟩) c_312_31 rfl ?_
      refine rf_callI (as := [.int (σ (rfT x0 41) (ix x1)), .int x2]) (kd := 0) c_312_32 rfl (by decide) rfl ml_12_151 (by decide) rfl (rcv_0 rfl) (Nat.zero_le _) rfl rfl (t_Mo_isUnder hS (by omega) σ (σ (rfT x0 41) (ix x1)) x2) (fun v32 => ?_)
      refine rf_ite (fun hc35 => ?_) (fun hc35 => ?_)
      · refine rf_b1t c_312_35 rfl (decide_eq_true hc35) ?_
        refine rf_ldc (Or.inl ⟨rfl, rfl⟩) c_312_62 rfl kl_12_154 ?_
        exact t_Mo_ask_64 hS hd σ  (-1000000012 : Int32) (.ref x0) (.int x1) (.int x2) (.int v15)
      · refine rf_b1f c_312_35 rfl (decide_eq_false hc35) ?_
        refine rf_ald (i := 0) (Or.inr ⟨0, rfl, rfl, rfl⟩) c_312_38 rfl ?_
        refine rf_getr hS c_312_39 rfl fl_12_66 rfl h_x0 ?_
        refine rf_ild (i := 1) (Or.inr ⟨1, rfl, rfl, rfl⟩) c_312_42 rfl ?_
        refine rf_ite (fun hb43 => ?_) (fun _ => rf_none)
        refine rf_iald hS c_312_43 (tf_12_41 h_x0) (lf_12_41 h_x0) hb43 ?_
        refine rf_ald (i := 0) (Or.inr ⟨0, rfl, rfl, rfl⟩) c_312_44 rfl ?_
        refine rf_getr hS c_312_45 rfl fl_12_69 rfl h_x0 ?_
        refine rf_ild (i := 1) (Or.inr ⟨1, rfl, rfl, rfl⟩) c_312_48 rfl ?_
        refine rf_ite (fun hb49 => ?_) (fun _ => rf_none)
        refine rf_iald hS c_312_49 (tf_12_42 h_x0) (lf_12_42 h_x0) hb49 ?_
        refine rf_ald (i := 0) (Or.inr ⟨0, rfl, rfl, rfl⟩) c_312_50 rfl ?_
        refine rf_getr hS c_312_51 rfl fl_12_72 rfl h_x0 ?_
        refine rf_ild (i := 1) (Or.inr ⟨1, rfl, rfl, rfl⟩) c_312_54 rfl ?_
        refine rf_ite (fun hb55 => ?_) (fun _ => rf_none)
        refine rf_iald hS c_312_55 (tf_12_43 h_x0) (lf_12_43 h_x0) hb55 ?_
        refine rf_callI (as := [.int (σ (rfT x0 41) (ix x1)), .int (σ (rfT x0 42) (ix x1)), .int (σ (rfT x0 43) (ix x1))]) (kd := 0) c_312_56 rfl (by decide) rfl ml_12_147 (by decide) rfl (rcv_0 rfl) (Nat.zero_le _) rfl rfl (t_Mo_weighs hS (by omega) σ (σ (rfT x0 41) (ix x1)) (σ (rfT x0 42) (ix x1)) (σ (rfT x0 43) (ix x1))) (fun v56 => ?_)
        refine rf_goto c_312_59 rfl ?_
        exact t_Mo_ask_64 hS hd σ  v56 (.ref x0) (.int x1) (.int x2) (.int v15)
    · refine rf_b1f c_312_20 rfl (decide_eq_false hc20) ?_
      refine rf_ild (i := 3) (Or.inr ⟨3, rfl, rfl, rfl⟩) c_312_23 rfl ?_
      exact rf_ret c_312_24 rfl rfl rfl rfl
  · refine rf_b1f c_312_6 rfl (decide_eq_false hc6) ?_
    refine rf_ldc (Or.inl ⟨rfl, rfl⟩) c_312_9 rfl kl_12_91 ?_
    exact rf_ret c_312_11 rfl rfl rfl rfl
theorem t_Mo_ask {X : Xt} {S : Sh} (hS : ShOK S) {d : Nat} (hd : 3 ≤ d) (σ : Mm) (x0 : Nat) (x1 : Int32) (x2 : Int32) (h_x0 : tgT x0 = 12) : Rf X S (emI σ) (f_Mo_ask σ x0 x1 x2) d 312 0 [.ref x0, .int x1, .int x2, unset0] [] σ := by
  obtain ⟨d1, rfl⟩ : ∃ d1, d = d1 + 1 := ⟨d - 1, by omega⟩
  exact t_Mo_ask_e hS hd σ x0 x1 x2 h_x0
theorem c_313_0 : cd 313 0 = some (.aload_n 0, 1) := by decide +kernel
theorem c_313_1 : cd 313 1 = some (.iload_n 1, 1) := by decide +kernel
theorem c_313_2 : cd 313 2 = some (.iconst (2), 1) := by decide +kernel
theorem c_313_3 : cd 313 3 = some (.invokevirtual 388, 3) := by decide +kernel
theorem c_313_6 : cd 313 6 = some (.istore_n 3, 1) := by decide +kernel
theorem c_313_7 : cd 313 7 = some (.iload_n 3, 1) := by decide +kernel
theorem c_313_8 : cd 313 8 = some (.ifCond .eq (5), 3) := by decide +kernel
theorem c_313_11 : cd 313 11 = some (.iload_n 3, 1) := by decide +kernel
theorem c_313_12 : cd 313 12 = some (.ireturn, 1) := by decide +kernel
theorem c_313_13 : cd 313 13 = some (.iload_n 2, 1) := by decide +kernel
theorem c_313_14 : cd 313 14 = some (.iconst (0), 1) := by decide +kernel
theorem c_313_15 : cd 313 15 = some (.aload_n 0, 1) := by decide +kernel
theorem c_313_16 : cd 313 16 = some (.getfield 54, 3) := by decide +kernel
theorem c_313_19 : cd 313 19 = some (.iconst (4), 1) := by decide +kernel
theorem c_313_20 : cd 313 20 = some (.iload_n 1, 1) := by decide +kernel
theorem c_313_21 : cd 313 21 = some (.iadd, 1) := by decide +kernel
theorem c_313_22 : cd 313 22 = some (.iaload, 1) := by decide +kernel
theorem c_313_23 : cd 313 23 = some (.iconst (1), 1) := by decide +kernel
theorem c_313_24 : cd 313 24 = some (.isub, 1) := by decide +kernel
theorem c_313_25 : cd 313 25 = some (.invokestatic 82, 3) := by decide +kernel
theorem c_313_28 : cd 313 28 = some (.ifCond .eq (19), 3) := by decide +kernel
theorem c_313_31 : cd 313 31 = some (.aload_n 0, 1) := by decide +kernel
theorem c_313_32 : cd 313 32 = some (.getfield 57, 3) := by decide +kernel
theorem c_313_35 : cd 313 35 = some (.bipush (24), 2) := by decide +kernel
theorem c_313_37 : cd 313 37 = some (.iconst (4), 1) := by decide +kernel
theorem c_313_38 : cd 313 38 = some (.iload_n 1, 1) := by decide +kernel
theorem c_313_39 : cd 313 39 = some (.iadd, 1) := by decide +kernel
theorem c_313_40 : cd 313 40 = some (.imul, 1) := by decide +kernel
theorem c_313_41 : cd 313 41 = some (.iload_n 2, 1) := by decide +kernel
theorem c_313_42 : cd 313 42 = some (.iadd, 1) := by decide +kernel
theorem c_313_43 : cd 313 43 = some (.iaload, 1) := by decide +kernel
theorem c_313_44 : cd 313 44 = some (.goto (6), 3) := by decide +kernel
theorem c_313_47 : cd 313 47 = some (.ldc_w 384, 3) := by decide +kernel
theorem c_313_50 : cd 313 50 = some (.ireturn, 1) := by decide +kernel
def f_Mo_item_50 (σ : Mm) (y0 : Int32) : Option Int32 := some y0
set_option maxRecDepth 100000 in
set_option maxHeartbeats 4000000 in
theorem t_Mo_item_50 {X : Xt} {S : Sh} (hS : ShOK S) {d : Nat} (hd : 3 ≤ d + 1) (σ : Mm) (y0 : Int32) (u0 : Value) (u1 : Value) (u2 : Value) (u3 : Value) : Rf X S (emI σ) (f_Mo_item_50 σ y0) (d + 1) 313 50 [u0, u1, u2, u3] [.int y0] σ := by
  unfold f_Mo_item_50
  exact rf_ret c_313_50 rfl rfl rfl rfl
def f_Mo_item (σ : Mm) (x0 : Nat) (x1 : Int32) (x2 : Int32) : Option Int32 := (f_Mo_whyNot σ x0 x1 (2 : Int32)).bind fun v3 => (if v3 = 0 then (if inbB ((4 : Int32) + x1) 10 = true then (f_Mo_in σ x2 (0 : Int32) ((σ (rfT x0 37) (ix ((4 : Int32) + x1))) - (1 : Int32))).bind fun v25 => (if v25 = 0 then (f_Mo_item_50 σ (-1000000013 : Int32)) else (if inbB (((24 : Int32) * ((4 : Int32) + x1)) + x2) 240 = true then f_Mo_item_50 σ (σ (rfT x0 38) (ix (((24 : Int32) * ((4 : Int32) + x1)) + x2))) else none)) else none) else (some v3))
set_option maxRecDepth 100000 in
set_option maxHeartbeats 4000000 in
theorem t_Mo_item_e {X : Xt} {S : Sh} (hS : ShOK S) {d : Nat} (hd : 3 ≤ d + 1) (σ : Mm) (x0 : Nat) (x1 : Int32) (x2 : Int32) (h_x0 : tgT x0 = 12) : Rf X S (emI σ) (f_Mo_item σ x0 x1 x2) (d + 1) 313 0 [.ref x0, .int x1, .int x2, unset0] [] σ := by
  unfold f_Mo_item
  refine rf_ald (i := 0) (Or.inr ⟨0, rfl, rfl, rfl⟩) c_313_0 rfl ?_
  refine rf_ild (i := 1) (Or.inr ⟨1, rfl, rfl, rfl⟩) c_313_1 rfl ?_
  refine rf_iconst c_313_2 ki_2 ?_
  refine rf_callI (as := [.ref x0, .int x1, .int (2 : Int32)]) (kd := 1) c_313_3 rfl (by decide) rfl ml_12_388 (by decide) rfl (rcv_1 hS rfl rfl h_x0 (by decide)) (Nat.zero_le _) rfl rfl (t_Mo_whyNot hS (by omega) σ x0 x1 (2 : Int32) h_x0) (fun v3 => ?_)
  refine rf_ist (i := 3) (Or.inr ⟨3, rfl, rfl, rfl⟩) c_313_6 (Nat.le_of_ble_eq_true rfl) rfl ?_
  refine rf_ild (i := 3) (Or.inr ⟨3, rfl, rfl, rfl⟩) c_313_7 rfl ?_
  refine rf_ite (fun hc8 => ?_) (fun hc8 => ?_)
  · refine rf_b1t c_313_8 rfl (decide_eq_true hc8) ?_
    refine rf_ild (i := 2) (Or.inr ⟨2, rfl, rfl, rfl⟩) c_313_13 rfl ?_
    refine rf_iconst c_313_14 ki_0 ?_
    refine rf_ald (i := 0) (Or.inr ⟨0, rfl, rfl, rfl⟩) c_313_15 rfl ?_
    refine rf_getr hS c_313_16 rfl fl_12_54 rfl h_x0 ?_
    refine rf_iconst c_313_19 ki_4 ?_
    refine rf_ild (i := 1) (Or.inr ⟨1, rfl, rfl, rfl⟩) c_313_20 rfl ?_
    refine rf_iadd c_313_21 ?_
    refine rf_ite (fun hb22 => ?_) (fun _ => rf_none)
    refine rf_iald hS c_313_22 (tf_12_37 h_x0) (lf_12_37 h_x0) hb22 ?_
    refine rf_iconst c_313_23 ki_1 ?_
    refine rf_isub c_313_24 ?_
    refine rf_callI (as := [.int x2, .int (0 : Int32), .int ((σ (rfT x0 37) (ix ((4 : Int32) + x1))) - (1 : Int32))]) (kd := 0) c_313_25 rfl (by decide) rfl ml_12_82 (by decide) rfl (rcv_0 rfl) (Nat.zero_le _) rfl rfl (t_Mo_in hS (by omega) σ x2 (0 : Int32) ((σ (rfT x0 37) (ix ((4 : Int32) + x1))) - (1 : Int32))) (fun v25 => ?_)
    refine rf_ite (fun hc28 => ?_) (fun hc28 => ?_)
    · refine rf_b1t c_313_28 rfl (decide_eq_true hc28) ?_
      refine rf_ldc (Or.inr ⟨rfl, rfl⟩) c_313_47 rfl kl_12_384 ?_
      exact t_Mo_item_50 hS hd σ  (-1000000013 : Int32) (.ref x0) (.int x1) (.int x2) (.int v3)
    · refine rf_b1f c_313_28 rfl (decide_eq_false hc28) ?_
      refine rf_ald (i := 0) (Or.inr ⟨0, rfl, rfl, rfl⟩) c_313_31 rfl ?_
      refine rf_getr hS c_313_32 rfl fl_12_57 rfl h_x0 ?_
      refine rf_bipush c_313_35 kb_24 ?_
      refine rf_iconst c_313_37 ki_4 ?_
      refine rf_ild (i := 1) (Or.inr ⟨1, rfl, rfl, rfl⟩) c_313_38 rfl ?_
      refine rf_iadd c_313_39 ?_
      refine rf_imul c_313_40 ?_
      refine rf_ild (i := 2) (Or.inr ⟨2, rfl, rfl, rfl⟩) c_313_41 rfl ?_
      refine rf_iadd c_313_42 ?_
      refine rf_ite (fun hb43 => ?_) (fun _ => rf_none)
      refine rf_iald hS c_313_43 (tf_12_38 h_x0) (lf_12_38 h_x0) hb43 ?_
      refine rf_goto c_313_44 rfl ?_
      exact t_Mo_item_50 hS hd σ  (σ (rfT x0 38) (ix (((24 : Int32) * ((4 : Int32) + x1)) + x2))) (.ref x0) (.int x1) (.int x2) (.int v3)
  · refine rf_b1f c_313_8 rfl (decide_eq_false hc8) ?_
    refine rf_ild (i := 3) (Or.inr ⟨3, rfl, rfl, rfl⟩) c_313_11 rfl ?_
    exact rf_ret c_313_12 rfl rfl rfl rfl
theorem t_Mo_item {X : Xt} {S : Sh} (hS : ShOK S) {d : Nat} (hd : 3 ≤ d) (σ : Mm) (x0 : Nat) (x1 : Int32) (x2 : Int32) (h_x0 : tgT x0 = 12) : Rf X S (emI σ) (f_Mo_item σ x0 x1 x2) d 313 0 [.ref x0, .int x1, .int x2, unset0] [] σ := by
  obtain ⟨d1, rfl⟩ : ∃ d1, d = d1 + 1 := ⟨d - 1, by omega⟩
  exact t_Mo_item_e hS hd σ x0 x1 x2 h_x0
theorem c_314_0 : cd 314 0 = some (.aload_n 0, 1) := by decide +kernel
theorem c_314_1 : cd 314 1 = some (.iload_n 1, 1) := by decide +kernel
theorem c_314_2 : cd 314 2 = some (.iconst (3), 1) := by decide +kernel
theorem c_314_3 : cd 314 3 = some (.invokevirtual 388, 3) := by decide +kernel
theorem c_314_6 : cd 314 6 = some (.istore_n 3, 1) := by decide +kernel
theorem c_314_7 : cd 314 7 = some (.iload_n 3, 1) := by decide +kernel
theorem c_314_8 : cd 314 8 = some (.ifCond .eq (5), 3) := by decide +kernel
theorem c_314_11 : cd 314 11 = some (.iload_n 3, 1) := by decide +kernel
theorem c_314_12 : cd 314 12 = some (.ireturn, 1) := by decide +kernel
theorem c_314_13 : cd 314 13 = some (.iload_n 2, 1) := by decide +kernel
theorem c_314_14 : cd 314 14 = some (.ifCond .ne (8), 3) := by decide +kernel
theorem c_314_17 : cd 314 17 = some (.ldc 155, 2) := by decide +kernel
theorem c_314_19 : cd 314 19 = some (.goto (11), 3) := by decide +kernel
theorem c_314_22 : cd 314 22 = some (.aload_n 0, 1) := by decide +kernel
theorem c_314_23 : cd 314 23 = some (.getfield 69, 3) := by decide +kernel
theorem c_314_26 : cd 314 26 = some (.iload_n 1, 1) := by decide +kernel
theorem c_314_27 : cd 314 27 = some (.iaload, 1) := by decide +kernel
theorem c_314_28 : cd 314 28 = some (.iload_n 2, 1) := by decide +kernel
theorem c_314_29 : cd 314 29 = some (.irem, 1) := by decide +kernel
theorem c_314_30 : cd 314 30 = some (.ireturn, 1) := by decide +kernel
def f_Mo_rest_30 (σ : Mm) (y0 : Int32) : Option Int32 := some y0
set_option maxRecDepth 100000 in
set_option maxHeartbeats 4000000 in
theorem t_Mo_rest_30 {X : Xt} {S : Sh} (hS : ShOK S) {d : Nat} (hd : 3 ≤ d + 1) (σ : Mm) (y0 : Int32) (u0 : Value) (u1 : Value) (u2 : Value) (u3 : Value) : Rf X S (emI σ) (f_Mo_rest_30 σ y0) (d + 1) 314 30 [u0, u1, u2, u3] [.int y0] σ := by
  unfold f_Mo_rest_30
  exact rf_ret c_314_30 rfl rfl rfl rfl
def f_Mo_rest (σ : Mm) (x0 : Nat) (x1 : Int32) (x2 : Int32) : Option Int32 := (f_Mo_whyNot σ x0 x1 (3 : Int32)).bind fun v3 => (if v3 = 0 then (if ¬ x2 = 0 then (if inbB x1 6 = true then if x2 = 0 then none else f_Mo_rest_30 σ (irm (σ (rfT x0 42) (ix x1)) x2) else none) else (f_Mo_rest_30 σ (-1000000002 : Int32))) else (some v3))
set_option maxRecDepth 100000 in
set_option maxHeartbeats 4000000 in
theorem t_Mo_rest_e {X : Xt} {S : Sh} (hS : ShOK S) {d : Nat} (hd : 3 ≤ d + 1) (σ : Mm) (x0 : Nat) (x1 : Int32) (x2 : Int32) (h_x0 : tgT x0 = 12) : Rf X S (emI σ) (f_Mo_rest σ x0 x1 x2) (d + 1) 314 0 [.ref x0, .int x1, .int x2, unset0] [] σ := by
  unfold f_Mo_rest
  refine rf_ald (i := 0) (Or.inr ⟨0, rfl, rfl, rfl⟩) c_314_0 rfl ?_
  refine rf_ild (i := 1) (Or.inr ⟨1, rfl, rfl, rfl⟩) c_314_1 rfl ?_
  refine rf_iconst c_314_2 ki_3 ?_
  refine rf_callI (as := [.ref x0, .int x1, .int (3 : Int32)]) (kd := 1) c_314_3 rfl (by decide) rfl ml_12_388 (by decide) rfl (rcv_1 hS rfl rfl h_x0 (by decide)) (Nat.zero_le _) rfl rfl (t_Mo_whyNot hS (by omega) σ x0 x1 (3 : Int32) h_x0) (fun v3 => ?_)
  refine rf_ist (i := 3) (Or.inr ⟨3, rfl, rfl, rfl⟩) c_314_6 (Nat.le_of_ble_eq_true rfl) rfl ?_
  refine rf_ild (i := 3) (Or.inr ⟨3, rfl, rfl, rfl⟩) c_314_7 rfl ?_
  refine rf_ite (fun hc8 => ?_) (fun hc8 => ?_)
  · refine rf_b1t c_314_8 rfl (decide_eq_true hc8) ?_
    refine rf_ild (i := 2) (Or.inr ⟨2, rfl, rfl, rfl⟩) c_314_13 rfl ?_
    refine rf_ite (fun hc14 => ?_) (fun hc14 => ?_)
    · refine rf_b1t c_314_14 rfl (decide_eq_true hc14) ?_
      refine rf_ald (i := 0) (Or.inr ⟨0, rfl, rfl, rfl⟩) c_314_22 rfl ?_
      refine rf_getr hS c_314_23 rfl fl_12_69 rfl h_x0 ?_
      refine rf_ild (i := 1) (Or.inr ⟨1, rfl, rfl, rfl⟩) c_314_26 rfl ?_
      refine rf_ite (fun hb27 => ?_) (fun _ => rf_none)
      refine rf_iald hS c_314_27 (tf_12_42 h_x0) (lf_12_42 h_x0) hb27 ?_
      refine rf_ild (i := 2) (Or.inr ⟨2, rfl, rfl, rfl⟩) c_314_28 rfl ?_
      refine rf_ite (fun _ => rf_none) (fun hz29 => ?_)
      refine rf_irem c_314_29 hz29 ?_
      exact t_Mo_rest_30 hS hd σ  (irm (σ (rfT x0 42) (ix x1)) x2) (.ref x0) (.int x1) (.int x2) (.int v3)
    · refine rf_b1f c_314_14 rfl (decide_eq_false hc14) ?_
      refine rf_ldc (Or.inl ⟨rfl, rfl⟩) c_314_17 rfl kl_12_155 ?_
      refine rf_goto c_314_19 rfl ?_
      exact t_Mo_rest_30 hS hd σ  (-1000000002 : Int32) (.ref x0) (.int x1) (.int x2) (.int v3)
  · refine rf_b1f c_314_8 rfl (decide_eq_false hc8) ?_
    refine rf_ild (i := 3) (Or.inr ⟨3, rfl, rfl, rfl⟩) c_314_11 rfl ?_
    exact rf_ret c_314_12 rfl rfl rfl rfl
theorem t_Mo_rest {X : Xt} {S : Sh} (hS : ShOK S) {d : Nat} (hd : 3 ≤ d) (σ : Mm) (x0 : Nat) (x1 : Int32) (x2 : Int32) (h_x0 : tgT x0 = 12) : Rf X S (emI σ) (f_Mo_rest σ x0 x1 x2) d 314 0 [.ref x0, .int x1, .int x2, unset0] [] σ := by
  obtain ⟨d1, rfl⟩ : ∃ d1, d = d1 + 1 := ⟨d - 1, by omega⟩
  exact t_Mo_rest_e hS hd σ x0 x1 x2 h_x0
theorem c_315_0 : cd 315 0 = some (.aload_n 0, 1) := by decide +kernel
theorem c_315_1 : cd 315 1 = some (.getfield 391, 3) := by decide +kernel
theorem c_315_4 : cd 315 4 = some (.bipush (60), 2) := by decide +kernel
theorem c_315_6 : cd 315 6 = some (.if_icmp .ne (6), 3) := by decide +kernel
theorem c_315_9 : cd 315 9 = some (.ldc 86, 2) := by decide +kernel
theorem c_315_11 : cd 315 11 = some (.ireturn, 1) := by decide +kernel
theorem c_315_12 : cd 315 12 = some (.aload_n 0, 1) := by decide +kernel
theorem c_315_13 : cd 315 13 = some (.getfield 75, 3) := by decide +kernel
theorem c_315_16 : cd 315 16 = some (.aload_n 0, 1) := by decide +kernel
theorem c_315_17 : cd 315 17 = some (.getfield 391, 3) := by decide +kernel
theorem c_315_20 : cd 315 20 = some (.iload_n 1, 1) := by decide +kernel
theorem c_315_21 : cd 315 21 = some (.iastore, 1) := by decide +kernel
theorem c_315_22 : cd 315 22 = some (.aload_n 0, 1) := by decide +kernel
theorem c_315_23 : cd 315 23 = some (.dup, 1) := by decide +kernel
theorem c_315_24 : cd 315 24 = some (.getfield 391, 3) := by decide +kernel
theorem c_315_27 : cd 315 27 = some (.iconst (1), 1) := by decide +kernel
theorem c_315_28 : cd 315 28 = some (.iadd, 1) := by decide +kernel
theorem c_315_29 : cd 315 29 = some (.putfield 391, 3) := by decide +kernel
theorem c_315_32 : cd 315 32 = some (.aload_n 0, 1) := by decide +kernel
theorem c_315_33 : cd 315 33 = some (.getfield 391, 3) := by decide +kernel
theorem c_315_36 : cd 315 36 = some (.ireturn, 1) := by decide +kernel
def f_Mo_tell (x0 : Nat) (x1 : Int32) (σ : Mm) : Option (Int32 × Mm) := (if ¬ (σ x0 44) = (60 : Int32) then (if inbB (σ x0 44) 60 = true then nmM (up2 σ (rfT x0 45) (ix (σ x0 44)) x1) fun σ21 => nmM (up2 σ21 x0 44 ((σ21 x0 44) + (1 : Int32))) fun σ29 => some ((σ29 x0 44), σ29) else none) else (some ((-1000000003 : Int32), σ)))
set_option maxRecDepth 100000 in
set_option maxHeartbeats 4000000 in
theorem t_Mo_tell {X : Xt} {S : Sh} (hS : ShOK S) {d : Nat} (hd : 0 ≤ d) (x0 : Nat) (x1 : Int32) (σ : Mm) (h_x0 : tgT x0 = 12) : Rf X S emM (f_Mo_tell x0 x1 σ) d 315 0 [.ref x0, .int x1] [] σ := by
  unfold f_Mo_tell
  refine rf_ald (i := 0) (Or.inr ⟨0, rfl, rfl, rfl⟩) c_315_0 rfl ?_
  refine rf_geti hS c_315_1 rfl fl_12_391 rfl h_x0 ?_
  refine rf_bipush c_315_4 kb_60 ?_
  refine rf_ite (fun hc6 => ?_) (fun hc6 => ?_)
  · refine rf_b2t c_315_6 rfl (decide_eq_true hc6) ?_
    refine rf_ald (i := 0) (Or.inr ⟨0, rfl, rfl, rfl⟩) c_315_12 rfl ?_
    refine rf_getr hS c_315_13 rfl fl_12_75 rfl h_x0 ?_
    refine rf_ald (i := 0) (Or.inr ⟨0, rfl, rfl, rfl⟩) c_315_16 rfl ?_
    refine rf_geti hS c_315_17 rfl fl_12_391 rfl h_x0 ?_
    refine rf_ild (i := 1) (Or.inr ⟨1, rfl, rfl, rfl⟩) c_315_20 rfl ?_
    refine rf_ite (fun hb21 => ?_) (fun _ => rf_none)
    refine rf_iast hS c_315_21 (tf_12_45 h_x0) (lf_12_45 h_x0) hb21 ?_
    refine rf_nm (fun σ21 => ?_)
    refine rf_ald (i := 0) (Or.inr ⟨0, rfl, rfl, rfl⟩) c_315_22 rfl ?_
    refine rf_dup c_315_23 rfl ?_
    refine rf_geti hS c_315_24 rfl fl_12_391 rfl h_x0 ?_
    refine rf_iconst c_315_27 ki_1 ?_
    refine rf_iadd c_315_28 ?_
    refine rf_puti hS c_315_29 rfl fl_12_391 rfl rfl rfl rfl h_x0 ?_
    refine rf_nm (fun σ29 => ?_)
    refine rf_ald (i := 0) (Or.inr ⟨0, rfl, rfl, rfl⟩) c_315_32 rfl ?_
    refine rf_geti hS c_315_33 rfl fl_12_391 rfl h_x0 ?_
    exact rf_ret c_315_36 rfl rfl rfl rfl
  · refine rf_b2f c_315_6 rfl (decide_eq_false hc6) ?_
    refine rf_ldc (Or.inl ⟨rfl, rfl⟩) c_315_9 rfl kl_12_86 ?_
    exact rf_ret c_315_11 rfl rfl rfl rfl
theorem c_316_0 : cd 316 0 = some (.aload_n 0, 1) := by decide +kernel
theorem c_316_1 : cd 316 1 = some (.getfield 391, 3) := by decide +kernel
theorem c_316_4 : cd 316 4 = some (.istore_n 2, 1) := by decide +kernel
theorem c_316_5 : cd 316 5 = some (.aload_n 0, 1) := by decide +kernel
theorem c_316_6 : cd 316 6 = some (.iconst (0), 1) := by decide +kernel
theorem c_316_7 : cd 316 7 = some (.putfield 391, 3) := by decide +kernel
theorem c_316_10 : cd 316 10 = some (.iload_n 1, 1) := by decide +kernel
theorem c_316_11 : cd 316 11 = some (.iconst (1), 1) := by decide +kernel
theorem c_316_12 : cd 316 12 = some (.bipush (28), 2) := by decide +kernel
theorem c_316_14 : cd 316 14 = some (.invokestatic 82, 3) := by decide +kernel
theorem c_316_17 : cd 316 17 = some (.ifCond .ne (6), 3) := by decide +kernel
theorem c_316_20 : cd 316 20 = some (.ldc 91, 2) := by decide +kernel
theorem c_316_22 : cd 316 22 = some (.ireturn, 1) := by decide +kernel
theorem c_316_23 : cd 316 23 = some (.aload_n 0, 1) := by decide +kernel
theorem c_316_24 : cd 316 24 = some (.getfield 394, 3) := by decide +kernel
theorem c_316_27 : cd 316 27 = some (.ifCond .ne (6), 3) := by decide +kernel
theorem c_316_30 : cd 316 30 = some (.ldc 155, 2) := by decide +kernel
theorem c_316_32 : cd 316 32 = some (.ireturn, 1) := by decide +kernel
theorem c_316_33 : cd 316 33 = some (.aload_n 0, 1) := by decide +kernel
theorem c_316_34 : cd 316 34 = some (.aload_n 0, 1) := by decide +kernel
theorem c_316_35 : cd 316 35 = some (.getfield 9, 3) := by decide +kernel
theorem c_316_38 : cd 316 38 = some (.aload_n 0, 1) := by decide +kernel
theorem c_316_39 : cd 316 39 = some (.getfield 16, 3) := by decide +kernel
theorem c_316_42 : cd 316 42 = some (.invokevirtual 397, 3) := by decide +kernel
theorem c_316_45 : cd 316 45 = some (.aload_n 0, 1) := by decide +kernel
theorem c_316_46 : cd 316 46 = some (.aload_n 0, 1) := by decide +kernel
theorem c_316_47 : cd 316 47 = some (.getfield 13, 3) := by decide +kernel
theorem c_316_50 : cd 316 50 = some (.aload_n 0, 1) := by decide +kernel
theorem c_316_51 : cd 316 51 = some (.getfield 9, 3) := by decide +kernel
theorem c_316_54 : cd 316 54 = some (.invokevirtual 397, 3) := by decide +kernel
theorem c_316_57 : cd 316 57 = some (.iconst (0), 1) := by decide +kernel
theorem c_316_58 : cd 316 58 = some (.istore_n 3, 1) := by decide +kernel
theorem c_316_59 : cd 316 59 = some (.iload_n 3, 1) := by decide +kernel
theorem c_316_60 : cd 316 60 = some (.iload_n 1, 1) := by decide +kernel
theorem c_316_61 : cd 316 61 = some (.if_icmp .ge (51), 3) := by decide +kernel
theorem c_316_64 : cd 316 64 = some (.aload_n 0, 1) := by decide +kernel
theorem c_316_65 : cd 316 65 = some (.invokevirtual 349, 3) := by decide +kernel
theorem c_316_68 : cd 316 68 = some (.aload_n 0, 1) := by decide +kernel
theorem c_316_69 : cd 316 69 = some (.getfield 78, 3) := by decide +kernel
theorem c_316_72 : cd 316 72 = some (.iconst (2), 1) := by decide +kernel
theorem c_316_73 : cd 316 73 = some (.iload_n 3, 1) := by decide +kernel
theorem c_316_74 : cd 316 74 = some (.imul, 1) := by decide +kernel
theorem c_316_75 : cd 316 75 = some (.aload_n 0, 1) := by decide +kernel
theorem c_316_76 : cd 316 76 = some (.aload_n 0, 1) := by decide +kernel
theorem c_316_77 : cd 316 77 = some (.getfield 9, 3) := by decide +kernel
theorem c_316_80 : cd 316 80 = some (.iconst (0), 1) := by decide +kernel
theorem c_316_81 : cd 316 81 = some (.iaload, 1) := by decide +kernel
theorem c_316_82 : cd 316 82 = some (.invokevirtual 328, 3) := by decide +kernel
theorem c_316_85 : cd 316 85 = some (.invokestatic 376, 3) := by decide +kernel
theorem c_316_88 : cd 316 88 = some (.iastore, 1) := by decide +kernel
theorem c_316_89 : cd 316 89 = some (.aload_n 0, 1) := by decide +kernel
theorem c_316_90 : cd 316 90 = some (.getfield 78, 3) := by decide +kernel
theorem c_316_93 : cd 316 93 = some (.iconst (2), 1) := by decide +kernel
theorem c_316_94 : cd 316 94 = some (.iload_n 3, 1) := by decide +kernel
theorem c_316_95 : cd 316 95 = some (.imul, 1) := by decide +kernel
theorem c_316_96 : cd 316 96 = some (.iconst (1), 1) := by decide +kernel
theorem c_316_97 : cd 316 97 = some (.iadd, 1) := by decide +kernel
theorem c_316_98 : cd 316 98 = some (.aload_n 0, 1) := by decide +kernel
theorem c_316_99 : cd 316 99 = some (.invokevirtual 371, 3) := by decide +kernel
theorem c_316_102 : cd 316 102 = some (.invokestatic 376, 3) := by decide +kernel
theorem c_316_105 : cd 316 105 = some (.iastore, 1) := by decide +kernel
theorem c_316_106 : cd 316 106 = some (.iinc 3 (1), 3) := by decide +kernel
theorem c_316_109 : cd 316 109 = some (.goto (-50), 3) := by decide +kernel
theorem c_316_112 : cd 316 112 = some (.aload_n 0, 1) := by decide +kernel
theorem c_316_113 : cd 316 113 = some (.aload_n 0, 1) := by decide +kernel
theorem c_316_114 : cd 316 114 = some (.getfield 16, 3) := by decide +kernel
theorem c_316_117 : cd 316 117 = some (.aload_n 0, 1) := by decide +kernel
theorem c_316_118 : cd 316 118 = some (.getfield 9, 3) := by decide +kernel
theorem c_316_121 : cd 316 121 = some (.invokevirtual 397, 3) := by decide +kernel
theorem c_316_124 : cd 316 124 = some (.iconst (0), 1) := by decide +kernel
theorem c_316_125 : cd 316 125 = some (.istore_n 3, 1) := by decide +kernel
theorem c_316_126 : cd 316 126 = some (.iload_n 3, 1) := by decide +kernel
theorem c_316_127 : cd 316 127 = some (.iload_n 2, 1) := by decide +kernel
theorem c_316_128 : cd 316 128 = some (.if_icmp .ge (35), 3) := by decide +kernel
theorem c_316_131 : cd 316 131 = some (.iload_n 3, 1) := by decide +kernel
theorem c_316_132 : cd 316 132 = some (.iconst (2), 1) := by decide +kernel
theorem c_316_133 : cd 316 133 = some (.iload_n 1, 1) := by decide +kernel
theorem c_316_134 : cd 316 134 = some (.imul, 1) := by decide +kernel
theorem c_316_135 : cd 316 135 = some (.if_icmp .ge (18), 3) := by decide +kernel
theorem c_316_138 : cd 316 138 = some (.aload_n 0, 1) := by decide +kernel
theorem c_316_139 : cd 316 139 = some (.getfield 75, 3) := by decide +kernel
theorem c_316_142 : cd 316 142 = some (.iload_n 3, 1) := by decide +kernel
theorem c_316_143 : cd 316 143 = some (.iaload, 1) := by decide +kernel
theorem c_316_144 : cd 316 144 = some (.aload_n 0, 1) := by decide +kernel
theorem c_316_145 : cd 316 145 = some (.getfield 78, 3) := by decide +kernel
theorem c_316_148 : cd 316 148 = some (.iload_n 3, 1) := by decide +kernel
theorem c_316_149 : cd 316 149 = some (.iaload, 1) := by decide +kernel
theorem c_316_150 : cd 316 150 = some (.if_icmp .eq (7), 3) := by decide +kernel
theorem c_316_153 : cd 316 153 = some (.iconst (1), 1) := by decide +kernel
theorem c_316_154 : cd 316 154 = some (.iload_n 3, 1) := by decide +kernel
theorem c_316_155 : cd 316 155 = some (.iadd, 1) := by decide +kernel
theorem c_316_156 : cd 316 156 = some (.ireturn, 1) := by decide +kernel
theorem c_316_157 : cd 316 157 = some (.iinc 3 (1), 3) := by decide +kernel
theorem c_316_160 : cd 316 160 = some (.goto (-34), 3) := by decide +kernel
theorem c_316_163 : cd 316 163 = some (.iload_n 2, 1) := by decide +kernel
theorem c_316_164 : cd 316 164 = some (.iconst (2), 1) := by decide +kernel
theorem c_316_165 : cd 316 165 = some (.iload_n 1, 1) := by decide +kernel
theorem c_316_166 : cd 316 166 = some (.imul, 1) := by decide +kernel
theorem c_316_167 : cd 316 167 = some (.if_icmp .ge (9), 3) := by decide +kernel
theorem c_316_170 : cd 316 170 = some (.iconst (1), 1) := by decide +kernel
theorem c_316_171 : cd 316 171 = some (.iload_n 2, 1) := by decide +kernel
theorem c_316_172 : cd 316 172 = some (.iadd, 1) := by decide +kernel
theorem c_316_173 : cd 316 173 = some (.goto (4), 3) := by decide +kernel
theorem c_316_176 : cd 316 176 = some (.iconst (0), 1) := by decide +kernel
theorem c_316_177 : cd 316 177 = some (.ireturn, 1) := by decide +kernel
def f_Mo_check_153 (x3 : Int32) (σ : Mm) : Option (Int32 × Mm) := some (((1 : Int32) + x3), σ)
set_option maxRecDepth 100000 in
set_option maxHeartbeats 4000000 in
theorem t_Mo_check_153 {X : Xt} {S : Sh} (hS : ShOK S) {d : Nat} (hd : 10 ≤ d + 1) (x3 : Int32) (u0 : Value) (u1 : Value) (u2 : Value) (σ : Mm) : Rf X S emM (f_Mo_check_153 x3 σ) (d + 1) 316 153 [u0, u1, u2, .int x3] [] σ := by
  unfold f_Mo_check_153
  refine rf_iconst c_316_153 ki_1 ?_
  refine rf_ild (i := 3) (Or.inr ⟨3, rfl, rfl, rfl⟩) c_316_154 rfl ?_
  refine rf_iadd c_316_155 ?_
  exact rf_ret c_316_156 rfl rfl rfl rfl
def f_Mo_check_177 (y0 : Int32) (σ : Mm) : Option (Int32 × Mm) := some (y0, σ)
set_option maxRecDepth 100000 in
set_option maxHeartbeats 4000000 in
theorem t_Mo_check_177 {X : Xt} {S : Sh} (hS : ShOK S) {d : Nat} (hd : 10 ≤ d + 1) (y0 : Int32) (u0 : Value) (u1 : Value) (u2 : Value) (u3 : Value) (σ : Mm) : Rf X S emM (f_Mo_check_177 y0 σ) (d + 1) 316 177 [u0, u1, u2, u3] [.int y0] σ := by
  unfold f_Mo_check_177
  exact rf_ret c_316_177 rfl rfl rfl rfl
def f_Mo_check_126 : Nat → Nat → Int32 → Int32 → Int32 → Mm → Option (Int32 × Mm)
  | 0, _, _, _, _, _ => none
  | n + 1, x0, x1, x2, x3, σ => (if x2 ≤ x3 then (if ((2 : Int32) * x1) ≤ x2 then (f_Mo_check_177  (0 : Int32) σ) else (f_Mo_check_177  ((1 : Int32) + x2) σ)) else (if ((2 : Int32) * x1) ≤ x3 then (f_Mo_check_153  x3 σ) else (if inbB x3 60 = true then if inbB x3 60 = true then (if (σ (rfT x0 45) (ix x3)) = (σ (rfT x0 46) (ix x3)) then (f_Mo_check_126  n x0 x1 x2 (x3 + (1 : Int32)) σ) else (f_Mo_check_153  x3 σ)) else none else none)))
set_option maxRecDepth 100000 in
set_option maxHeartbeats 4000000 in
theorem t_Mo_check_126 {X : Xt} {S : Sh} (hS : ShOK S) {d : Nat} (hd : 10 ≤ d + 1) : ∀ (n : Nat) (x0 : Nat) (x1 : Int32) (x2 : Int32) (x3 : Int32) (σ : Mm) (h_x0 : tgT x0 = 12), Rf X S emM (f_Mo_check_126 n x0 x1 x2 x3 σ) (d + 1) 316 126 [.ref x0, .int x1, .int x2, .int x3] [] σ := by
  intro n
  induction n with
  | zero => intro x0 x1 x2 x3 σ h_x0; exact rf_none
  | succ n ih =>
    intro x0 x1 x2 x3 σ h_x0
    rw [f_Mo_check_126]
    refine rf_ild (i := 3) (Or.inr ⟨3, rfl, rfl, rfl⟩) c_316_126 rfl ?_
    refine rf_ild (i := 2) (Or.inr ⟨2, rfl, rfl, rfl⟩) c_316_127 rfl ?_
    refine rf_ite (fun hc128 => ?_) (fun hc128 => ?_)
    · refine rf_b2t c_316_128 rfl (decide_eq_true hc128) ?_
      refine rf_ild (i := 2) (Or.inr ⟨2, rfl, rfl, rfl⟩) c_316_163 rfl ?_
      refine rf_iconst c_316_164 ki_2 ?_
      refine rf_ild (i := 1) (Or.inr ⟨1, rfl, rfl, rfl⟩) c_316_165 rfl ?_
      refine rf_imul c_316_166 ?_
      refine rf_ite (fun hc167 => ?_) (fun hc167 => ?_)
      · refine rf_b2t c_316_167 rfl (decide_eq_true hc167) ?_
        refine rf_iconst c_316_176 ki_0 ?_
        exact t_Mo_check_177 hS hd  (0 : Int32) (.ref x0) (.int x1) (.int x2) (.int x3) σ
      · refine rf_b2f c_316_167 rfl (decide_eq_false hc167) ?_
        refine rf_iconst c_316_170 ki_1 ?_
        refine rf_ild (i := 2) (Or.inr ⟨2, rfl, rfl, rfl⟩) c_316_171 rfl ?_
        refine rf_iadd c_316_172 ?_
        refine rf_goto c_316_173 rfl ?_
        exact t_Mo_check_177 hS hd  ((1 : Int32) + x2) (.ref x0) (.int x1) (.int x2) (.int x3) σ
    · refine rf_b2f c_316_128 rfl (decide_eq_false hc128) ?_
      refine rf_ild (i := 3) (Or.inr ⟨3, rfl, rfl, rfl⟩) c_316_131 rfl ?_
      refine rf_iconst c_316_132 ki_2 ?_
      refine rf_ild (i := 1) (Or.inr ⟨1, rfl, rfl, rfl⟩) c_316_133 rfl ?_
      refine rf_imul c_316_134 ?_
      refine rf_ite (fun hc135 => ?_) (fun hc135 => ?_)
      · refine rf_b2t c_316_135 rfl (decide_eq_true hc135) ?_
        exact t_Mo_check_153 hS hd  x3 (.ref x0) (.int x1) (.int x2) σ
      · refine rf_b2f c_316_135 rfl (decide_eq_false hc135) ?_
        refine rf_ald (i := 0) (Or.inr ⟨0, rfl, rfl, rfl⟩) c_316_138 rfl ?_
        refine rf_getr hS c_316_139 rfl fl_12_75 rfl h_x0 ?_
        refine rf_ild (i := 3) (Or.inr ⟨3, rfl, rfl, rfl⟩) c_316_142 rfl ?_
        refine rf_ite (fun hb143 => ?_) (fun _ => rf_none)
        refine rf_iald hS c_316_143 (tf_12_45 h_x0) (lf_12_45 h_x0) hb143 ?_
        refine rf_ald (i := 0) (Or.inr ⟨0, rfl, rfl, rfl⟩) c_316_144 rfl ?_
        refine rf_getr hS c_316_145 rfl fl_12_78 rfl h_x0 ?_
        refine rf_ild (i := 3) (Or.inr ⟨3, rfl, rfl, rfl⟩) c_316_148 rfl ?_
        refine rf_ite (fun hb149 => ?_) (fun _ => rf_none)
        refine rf_iald hS c_316_149 (tf_12_46 h_x0) (lf_12_46 h_x0) hb149 ?_
        refine rf_ite (fun hc150 => ?_) (fun hc150 => ?_)
        · refine rf_b2t c_316_150 rfl (decide_eq_true hc150) ?_
          refine rf_iinc c_316_157 rfl ki_1 rfl ?_
          refine rf_goto c_316_160 rfl ?_
          exact ih x0 x1 x2 (x3 + (1 : Int32)) σ h_x0
        · refine rf_b2f c_316_150 rfl (decide_eq_false hc150) ?_
          exact t_Mo_check_153 hS hd  x3 (.ref x0) (.int x1) (.int x2) σ
def f_Mo_check_59 : Nat → Nat → Int32 → Int32 → Int32 → Mm → Option (Int32 × Mm)
  | 0, _, _, _, _, _ => none
  | n + 1, x0, x1, x2, x3, σ => (if x1 ≤ x3 then ((f_Mo_copyRow x0 (rfT x0 2) (rfT x0 0) σ).bind fun v121 => f_Mo_check_126  NN x0 x1 x2 (0 : Int32) v121) else ((f_Mo_goesBy x0 σ).bind fun v65 => (f_Mo_standing v65 x0 (v65 (rfT x0 0) (ix (0 : Int32)))).bind fun v82 => (f_Mo_bits v65 v82).bind fun v85 => if inbB ((2 : Int32) * x3) 60 = true then nmM (up2 v65 (rfT x0 46) (ix ((2 : Int32) * x3)) v85) fun σ88 => (f_Mo_openNow x0 σ88).bind fun v99 => (f_Mo_bits v99.2 v99.1).bind fun v102 => if inbB (((2 : Int32) * x3) + (1 : Int32)) 60 = true then nmM (up2 v99.2 (rfT x0 46) (ix (((2 : Int32) * x3) + (1 : Int32))) v102) fun σ105 => f_Mo_check_59  n x0 x1 x2 (x3 + (1 : Int32)) σ105 else none else none))
set_option maxRecDepth 100000 in
set_option maxHeartbeats 4000000 in
theorem t_Mo_check_59 {X : Xt} {S : Sh} (hS : ShOK S) {d : Nat} (hd : 10 ≤ d + 1) : ∀ (n : Nat) (x0 : Nat) (x1 : Int32) (x2 : Int32) (x3 : Int32) (σ : Mm) (h_x0 : tgT x0 = 12), Rf X S emM (f_Mo_check_59 n x0 x1 x2 x3 σ) (d + 1) 316 59 [.ref x0, .int x1, .int x2, .int x3] [] σ := by
  intro n
  induction n with
  | zero => intro x0 x1 x2 x3 σ h_x0; exact rf_none
  | succ n ih =>
    intro x0 x1 x2 x3 σ h_x0
    rw [f_Mo_check_59]
    refine rf_ild (i := 3) (Or.inr ⟨3, rfl, rfl, rfl⟩) c_316_59 rfl ?_
    refine rf_ild (i := 1) (Or.inr ⟨1, rfl, rfl, rfl⟩) c_316_60 rfl ?_
    refine rf_ite (fun hc61 => ?_) (fun hc61 => ?_)
    · refine rf_b2t c_316_61 rfl (decide_eq_true hc61) ?_
      refine rf_ald (i := 0) (Or.inr ⟨0, rfl, rfl, rfl⟩) c_316_112 rfl ?_
      refine rf_ald (i := 0) (Or.inr ⟨0, rfl, rfl, rfl⟩) c_316_113 rfl ?_
      refine rf_getr hS c_316_114 rfl fl_12_16 rfl h_x0 ?_
      refine rf_ald (i := 0) (Or.inr ⟨0, rfl, rfl, rfl⟩) c_316_117 rfl ?_
      refine rf_getr hS c_316_118 rfl fl_12_9 rfl h_x0 ?_
      refine rf_callV (as := [.ref x0, .ref (rfT x0 2), .ref (rfT x0 0)]) (kd := 1) c_316_121 rfl (by decide) rfl ml_12_397 (by decide) rfl (rcv_1 hS rfl rfl h_x0 (by decide)) (Nat.zero_le _) rfl rfl (t_Mo_copyRow hS (by omega) x0 (rfT x0 2) (rfT x0 0) σ h_x0 (tf_12_2 h_x0) (lf_12_2 h_x0) (tf_12_0 h_x0) (lf_12_0 h_x0)) (fun v121 => ?_)
      refine rf_iconst c_316_124 ki_0 ?_
      refine rf_ist (i := 3) (Or.inr ⟨3, rfl, rfl, rfl⟩) c_316_125 (Nat.le_of_ble_eq_true rfl) rfl ?_
      exact t_Mo_check_126 hS hd  NN x0 x1 x2 (0 : Int32) v121 h_x0
    · refine rf_b2f c_316_61 rfl (decide_eq_false hc61) ?_
      refine rf_ald (i := 0) (Or.inr ⟨0, rfl, rfl, rfl⟩) c_316_64 rfl ?_
      refine rf_callV (as := [.ref x0]) (kd := 1) c_316_65 rfl (by decide) rfl ml_12_349 (by decide) rfl (rcv_1 hS rfl rfl h_x0 (by decide)) (Nat.zero_le _) rfl rfl (t_Mo_goesBy hS (by omega) x0 σ h_x0) (fun v65 => ?_)
      refine rf_ald (i := 0) (Or.inr ⟨0, rfl, rfl, rfl⟩) c_316_68 rfl ?_
      refine rf_getr hS c_316_69 rfl fl_12_78 rfl h_x0 ?_
      refine rf_iconst c_316_72 ki_2 ?_
      refine rf_ild (i := 3) (Or.inr ⟨3, rfl, rfl, rfl⟩) c_316_73 rfl ?_
      refine rf_imul c_316_74 ?_
      refine rf_ald (i := 0) (Or.inr ⟨0, rfl, rfl, rfl⟩) c_316_75 rfl ?_
      refine rf_ald (i := 0) (Or.inr ⟨0, rfl, rfl, rfl⟩) c_316_76 rfl ?_
      refine rf_getr hS c_316_77 rfl fl_12_9 rfl h_x0 ?_
      refine rf_iconst c_316_80 ki_0 ?_
      refine rf_iald hS c_316_81 (tf_12_0 h_x0) (lf_12_0 h_x0) (by decide) ?_
      refine rf_callI (as := [.ref x0, .int (v65 (rfT x0 0) (ix (0 : Int32)))]) (kd := 1) c_316_82 rfl (by decide) rfl ml_12_328 (by decide) rfl (rcv_1 hS rfl rfl h_x0 (by decide)) (by simp [Value.category]) rfl rfl (t_Mo_standing hS (by omega) v65 x0 (v65 (rfT x0 0) (ix (0 : Int32))) h_x0) (fun v82 => ?_)
      refine rf_callI (as := [.int v82]) (kd := 0) c_316_85 rfl (by decide) rfl ml_12_376 (by decide) rfl (rcv_0 rfl) (by simp [Value.category]) rfl rfl (t_Mo_bits hS (by omega) v65 v82) (fun v85 => ?_)
      refine rf_ite (fun hb88 => ?_) (fun _ => rf_none)
      refine rf_iast hS c_316_88 (tf_12_46 h_x0) (lf_12_46 h_x0) hb88 ?_
      refine rf_nm (fun σ88 => ?_)
      refine rf_ald (i := 0) (Or.inr ⟨0, rfl, rfl, rfl⟩) c_316_89 rfl ?_
      refine rf_getr hS c_316_90 rfl fl_12_78 rfl h_x0 ?_
      refine rf_iconst c_316_93 ki_2 ?_
      refine rf_ild (i := 3) (Or.inr ⟨3, rfl, rfl, rfl⟩) c_316_94 rfl ?_
      refine rf_imul c_316_95 ?_
      refine rf_iconst c_316_96 ki_1 ?_
      refine rf_iadd c_316_97 ?_
      refine rf_ald (i := 0) (Or.inr ⟨0, rfl, rfl, rfl⟩) c_316_98 rfl ?_
      refine rf_callM (as := [.ref x0]) (kd := 1) c_316_99 rfl (by decide) rfl ml_12_371 (by decide) rfl (rcv_1 hS rfl rfl h_x0 (by decide)) (by simp [Value.category]) rfl rfl (t_Mo_openNow hS (by omega) x0 σ88 h_x0) (fun v99 => ?_)
      refine rf_callI (as := [.int v99.1]) (kd := 0) c_316_102 rfl (by decide) rfl ml_12_376 (by decide) rfl (rcv_0 rfl) (by simp [Value.category]) rfl rfl (t_Mo_bits hS (by omega) v99.2 v99.1) (fun v102 => ?_)
      refine rf_ite (fun hb105 => ?_) (fun _ => rf_none)
      refine rf_iast hS c_316_105 (tf_12_46 h_x0) (lf_12_46 h_x0) hb105 ?_
      refine rf_nm (fun σ105 => ?_)
      refine rf_iinc c_316_106 rfl ki_1 rfl ?_
      refine rf_goto c_316_109 rfl ?_
      exact ih x0 x1 x2 (x3 + (1 : Int32)) σ105 h_x0
def f_Mo_check (x0 : Nat) (x1 : Int32) (σ : Mm) : Option (Int32 × Mm) := nmM (up2 σ x0 44 (0 : Int32)) fun σ7 => (f_Mo_in σ7 x1 (1 : Int32) (28 : Int32)).bind fun v14 => (if ¬ v14 = 0 then (if ¬ (σ7 x0 3) = 0 then ((f_Mo_copyRow x0 (rfT x0 0) (rfT x0 2) σ7).bind fun v42 => (f_Mo_copyRow x0 (rfT x0 1) (rfT x0 0) v42).bind fun v54 => f_Mo_check_59  NN x0 x1 (σ x0 44) (0 : Int32) v54) else (some ((-1000000002 : Int32), σ7))) else (some ((-1000000001 : Int32), σ7)))
set_option maxRecDepth 100000 in
set_option maxHeartbeats 4000000 in
theorem t_Mo_check_e {X : Xt} {S : Sh} (hS : ShOK S) {d : Nat} (hd : 10 ≤ d + 1) (x0 : Nat) (x1 : Int32) (σ : Mm) (h_x0 : tgT x0 = 12) : Rf X S emM (f_Mo_check x0 x1 σ) (d + 1) 316 0 [.ref x0, .int x1, unset0, unset0] [] σ := by
  unfold f_Mo_check
  refine rf_ald (i := 0) (Or.inr ⟨0, rfl, rfl, rfl⟩) c_316_0 rfl ?_
  refine rf_geti hS c_316_1 rfl fl_12_391 rfl h_x0 ?_
  refine rf_ist (i := 2) (Or.inr ⟨2, rfl, rfl, rfl⟩) c_316_4 (Nat.le_of_ble_eq_true rfl) rfl ?_
  refine rf_ald (i := 0) (Or.inr ⟨0, rfl, rfl, rfl⟩) c_316_5 rfl ?_
  refine rf_iconst c_316_6 ki_0 ?_
  refine rf_puti hS c_316_7 rfl fl_12_391 rfl rfl rfl rfl h_x0 ?_
  refine rf_nm (fun σ7 => ?_)
  refine rf_ild (i := 1) (Or.inr ⟨1, rfl, rfl, rfl⟩) c_316_10 rfl ?_
  refine rf_iconst c_316_11 ki_1 ?_
  refine rf_bipush c_316_12 kb_28 ?_
  refine rf_callI (as := [.int x1, .int (1 : Int32), .int (28 : Int32)]) (kd := 0) c_316_14 rfl (by decide) rfl ml_12_82 (by decide) rfl (rcv_0 rfl) (Nat.zero_le _) rfl rfl (t_Mo_in hS (by omega) σ7 x1 (1 : Int32) (28 : Int32)) (fun v14 => ?_)
  refine rf_ite (fun hc17 => ?_) (fun hc17 => ?_)
  · refine rf_b1t c_316_17 rfl (decide_eq_true hc17) ?_
    refine rf_ald (i := 0) (Or.inr ⟨0, rfl, rfl, rfl⟩) c_316_23 rfl ?_
    refine rf_geti hS c_316_24 rfl fl_12_394 rfl h_x0 ?_
    refine rf_ite (fun hc27 => ?_) (fun hc27 => ?_)
    · refine rf_b1t c_316_27 rfl (decide_eq_true hc27) ?_
      refine rf_ald (i := 0) (Or.inr ⟨0, rfl, rfl, rfl⟩) c_316_33 rfl ?_
      refine rf_ald (i := 0) (Or.inr ⟨0, rfl, rfl, rfl⟩) c_316_34 rfl ?_
      refine rf_getr hS c_316_35 rfl fl_12_9 rfl h_x0 ?_
      refine rf_ald (i := 0) (Or.inr ⟨0, rfl, rfl, rfl⟩) c_316_38 rfl ?_
      refine rf_getr hS c_316_39 rfl fl_12_16 rfl h_x0 ?_
      refine rf_callV (as := [.ref x0, .ref (rfT x0 0), .ref (rfT x0 2)]) (kd := 1) c_316_42 rfl (by decide) rfl ml_12_397 (by decide) rfl (rcv_1 hS rfl rfl h_x0 (by decide)) (Nat.zero_le _) rfl rfl (t_Mo_copyRow hS (by omega) x0 (rfT x0 0) (rfT x0 2) σ7 h_x0 (tf_12_0 h_x0) (lf_12_0 h_x0) (tf_12_2 h_x0) (lf_12_2 h_x0)) (fun v42 => ?_)
      refine rf_ald (i := 0) (Or.inr ⟨0, rfl, rfl, rfl⟩) c_316_45 rfl ?_
      refine rf_ald (i := 0) (Or.inr ⟨0, rfl, rfl, rfl⟩) c_316_46 rfl ?_
      refine rf_getr hS c_316_47 rfl fl_12_13 rfl h_x0 ?_
      refine rf_ald (i := 0) (Or.inr ⟨0, rfl, rfl, rfl⟩) c_316_50 rfl ?_
      refine rf_getr hS c_316_51 rfl fl_12_9 rfl h_x0 ?_
      refine rf_callV (as := [.ref x0, .ref (rfT x0 1), .ref (rfT x0 0)]) (kd := 1) c_316_54 rfl (by decide) rfl ml_12_397 (by decide) rfl (rcv_1 hS rfl rfl h_x0 (by decide)) (Nat.zero_le _) rfl rfl (t_Mo_copyRow hS (by omega) x0 (rfT x0 1) (rfT x0 0) v42 h_x0 (tf_12_1 h_x0) (lf_12_1 h_x0) (tf_12_0 h_x0) (lf_12_0 h_x0)) (fun v54 => ?_)
      refine rf_iconst c_316_57 ki_0 ?_
      refine rf_ist (i := 3) (Or.inr ⟨3, rfl, rfl, rfl⟩) c_316_58 (Nat.le_of_ble_eq_true rfl) rfl ?_
      exact t_Mo_check_59 hS hd  NN x0 x1 (σ x0 44) (0 : Int32) v54 h_x0
    · refine rf_b1f c_316_27 rfl (decide_eq_false hc27) ?_
      refine rf_ldc (Or.inl ⟨rfl, rfl⟩) c_316_30 rfl kl_12_155 ?_
      exact rf_ret c_316_32 rfl rfl rfl rfl
  · refine rf_b1f c_316_17 rfl (decide_eq_false hc17) ?_
    refine rf_ldc (Or.inl ⟨rfl, rfl⟩) c_316_20 rfl kl_12_91 ?_
    exact rf_ret c_316_22 rfl rfl rfl rfl
theorem t_Mo_check {X : Xt} {S : Sh} (hS : ShOK S) {d : Nat} (hd : 10 ≤ d) (x0 : Nat) (x1 : Int32) (σ : Mm) (h_x0 : tgT x0 = 12) : Rf X S emM (f_Mo_check x0 x1 σ) d 316 0 [.ref x0, .int x1, unset0, unset0] [] σ := by
  obtain ⟨d1, rfl⟩ : ∃ d1, d = d1 + 1 := ⟨d - 1, by omega⟩
  exact t_Mo_check_e hS hd x0 x1 σ h_x0
theorem c_317_0 : cd 317 0 = some (.aload_n 0, 1) := by decide +kernel
theorem c_317_1 : cd 317 1 = some (.aload_n 0, 1) := by decide +kernel
theorem c_317_2 : cd 317 2 = some (.getfield 9, 3) := by decide +kernel
theorem c_317_5 : cd 317 5 = some (.aload_n 0, 1) := by decide +kernel
theorem c_317_6 : cd 317 6 = some (.getfield 13, 3) := by decide +kernel
theorem c_317_9 : cd 317 9 = some (.invokevirtual 397, 3) := by decide +kernel
theorem c_317_12 : cd 317 12 = some (.aload_n 0, 1) := by decide +kernel
theorem c_317_13 : cd 317 13 = some (.iconst (1), 1) := by decide +kernel
theorem c_317_14 : cd 317 14 = some (.putfield 394, 3) := by decide +kernel
theorem c_317_17 : cd 317 17 = some (.aload_n 0, 1) := by decide +kernel
theorem c_317_18 : cd 317 18 = some (.getfield 9, 3) := by decide +kernel
theorem c_317_21 : cd 317 21 = some (.iconst (0), 1) := by decide +kernel
theorem c_317_22 : cd 317 22 = some (.iaload, 1) := by decide +kernel
theorem c_317_23 : cd 317 23 = some (.ireturn, 1) := by decide +kernel
def f_Mo_keep (x0 : Nat) (σ : Mm) : Option (Int32 × Mm) := (f_Mo_copyRow x0 (rfT x0 0) (rfT x0 1) σ).bind fun v9 => nmM (up2 v9 x0 3 (1 : Int32)) fun σ14 => some ((σ14 (rfT x0 0) (ix (0 : Int32))), σ14)
set_option maxRecDepth 100000 in
set_option maxHeartbeats 4000000 in
theorem t_Mo_keep_e {X : Xt} {S : Sh} (hS : ShOK S) {d : Nat} (hd : 1 ≤ d + 1) (x0 : Nat) (σ : Mm) (h_x0 : tgT x0 = 12) : Rf X S emM (f_Mo_keep x0 σ) (d + 1) 317 0 [.ref x0] [] σ := by
  unfold f_Mo_keep
  refine rf_ald (i := 0) (Or.inr ⟨0, rfl, rfl, rfl⟩) c_317_0 rfl ?_
  refine rf_ald (i := 0) (Or.inr ⟨0, rfl, rfl, rfl⟩) c_317_1 rfl ?_
  refine rf_getr hS c_317_2 rfl fl_12_9 rfl h_x0 ?_
  refine rf_ald (i := 0) (Or.inr ⟨0, rfl, rfl, rfl⟩) c_317_5 rfl ?_
  refine rf_getr hS c_317_6 rfl fl_12_13 rfl h_x0 ?_
  refine rf_callV (as := [.ref x0, .ref (rfT x0 0), .ref (rfT x0 1)]) (kd := 1) c_317_9 rfl (by decide) rfl ml_12_397 (by decide) rfl (rcv_1 hS rfl rfl h_x0 (by decide)) (Nat.zero_le _) rfl rfl (t_Mo_copyRow hS (by omega) x0 (rfT x0 0) (rfT x0 1) σ h_x0 (tf_12_0 h_x0) (lf_12_0 h_x0) (tf_12_1 h_x0) (lf_12_1 h_x0)) (fun v9 => ?_)
  refine rf_ald (i := 0) (Or.inr ⟨0, rfl, rfl, rfl⟩) c_317_12 rfl ?_
  refine rf_iconst c_317_13 ki_1 ?_
  refine rf_puti hS c_317_14 rfl fl_12_394 rfl rfl (by decide) (by decide) h_x0 ?_
  refine rf_nm (fun σ14 => ?_)
  refine rf_ald (i := 0) (Or.inr ⟨0, rfl, rfl, rfl⟩) c_317_17 rfl ?_
  refine rf_getr hS c_317_18 rfl fl_12_9 rfl h_x0 ?_
  refine rf_iconst c_317_21 ki_0 ?_
  refine rf_iald hS c_317_22 (tf_12_0 h_x0) (lf_12_0 h_x0) (by decide) ?_
  exact rf_ret c_317_23 rfl rfl rfl rfl
theorem t_Mo_keep {X : Xt} {S : Sh} (hS : ShOK S) {d : Nat} (hd : 1 ≤ d) (x0 : Nat) (σ : Mm) (h_x0 : tgT x0 = 12) : Rf X S emM (f_Mo_keep x0 σ) d 317 0 [.ref x0] [] σ := by
  obtain ⟨d1, rfl⟩ : ∃ d1, d = d1 + 1 := ⟨d - 1, by omega⟩
  exact t_Mo_keep_e hS hd x0 σ h_x0
theorem c_318_0 : cd 318 0 = some (.aload_n 0, 1) := by decide +kernel
theorem c_318_1 : cd 318 1 = some (.getfield 394, 3) := by decide +kernel
theorem c_318_4 : cd 318 4 = some (.ifCond .ne (6), 3) := by decide +kernel
theorem c_318_7 : cd 318 7 = some (.ldc 155, 2) := by decide +kernel
theorem c_318_9 : cd 318 9 = some (.ireturn, 1) := by decide +kernel
theorem c_318_10 : cd 318 10 = some (.aload_n 0, 1) := by decide +kernel
theorem c_318_11 : cd 318 11 = some (.aload_n 0, 1) := by decide +kernel
theorem c_318_12 : cd 318 12 = some (.getfield 13, 3) := by decide +kernel
theorem c_318_15 : cd 318 15 = some (.aload_n 0, 1) := by decide +kernel
theorem c_318_16 : cd 318 16 = some (.getfield 9, 3) := by decide +kernel
theorem c_318_19 : cd 318 19 = some (.invokevirtual 397, 3) := by decide +kernel
theorem c_318_22 : cd 318 22 = some (.aload_n 0, 1) := by decide +kernel
theorem c_318_23 : cd 318 23 = some (.getfield 9, 3) := by decide +kernel
theorem c_318_26 : cd 318 26 = some (.iconst (0), 1) := by decide +kernel
theorem c_318_27 : cd 318 27 = some (.iaload, 1) := by decide +kernel
theorem c_318_28 : cd 318 28 = some (.ireturn, 1) := by decide +kernel
def f_Mo_back (x0 : Nat) (σ : Mm) : Option (Int32 × Mm) := (if ¬ (σ x0 3) = 0 then ((f_Mo_copyRow x0 (rfT x0 1) (rfT x0 0) σ).bind fun v19 => some ((v19 (rfT x0 0) (ix (0 : Int32))), v19)) else (some ((-1000000002 : Int32), σ)))
set_option maxRecDepth 100000 in
set_option maxHeartbeats 4000000 in
theorem t_Mo_back_e {X : Xt} {S : Sh} (hS : ShOK S) {d : Nat} (hd : 1 ≤ d + 1) (x0 : Nat) (σ : Mm) (h_x0 : tgT x0 = 12) : Rf X S emM (f_Mo_back x0 σ) (d + 1) 318 0 [.ref x0] [] σ := by
  unfold f_Mo_back
  refine rf_ald (i := 0) (Or.inr ⟨0, rfl, rfl, rfl⟩) c_318_0 rfl ?_
  refine rf_geti hS c_318_1 rfl fl_12_394 rfl h_x0 ?_
  refine rf_ite (fun hc4 => ?_) (fun hc4 => ?_)
  · refine rf_b1t c_318_4 rfl (decide_eq_true hc4) ?_
    refine rf_ald (i := 0) (Or.inr ⟨0, rfl, rfl, rfl⟩) c_318_10 rfl ?_
    refine rf_ald (i := 0) (Or.inr ⟨0, rfl, rfl, rfl⟩) c_318_11 rfl ?_
    refine rf_getr hS c_318_12 rfl fl_12_13 rfl h_x0 ?_
    refine rf_ald (i := 0) (Or.inr ⟨0, rfl, rfl, rfl⟩) c_318_15 rfl ?_
    refine rf_getr hS c_318_16 rfl fl_12_9 rfl h_x0 ?_
    refine rf_callV (as := [.ref x0, .ref (rfT x0 1), .ref (rfT x0 0)]) (kd := 1) c_318_19 rfl (by decide) rfl ml_12_397 (by decide) rfl (rcv_1 hS rfl rfl h_x0 (by decide)) (Nat.zero_le _) rfl rfl (t_Mo_copyRow hS (by omega) x0 (rfT x0 1) (rfT x0 0) σ h_x0 (tf_12_1 h_x0) (lf_12_1 h_x0) (tf_12_0 h_x0) (lf_12_0 h_x0)) (fun v19 => ?_)
    refine rf_ald (i := 0) (Or.inr ⟨0, rfl, rfl, rfl⟩) c_318_22 rfl ?_
    refine rf_getr hS c_318_23 rfl fl_12_9 rfl h_x0 ?_
    refine rf_iconst c_318_26 ki_0 ?_
    refine rf_iald hS c_318_27 (tf_12_0 h_x0) (lf_12_0 h_x0) (by decide) ?_
    exact rf_ret c_318_28 rfl rfl rfl rfl
  · refine rf_b1f c_318_4 rfl (decide_eq_false hc4) ?_
    refine rf_ldc (Or.inl ⟨rfl, rfl⟩) c_318_7 rfl kl_12_155 ?_
    exact rf_ret c_318_9 rfl rfl rfl rfl
theorem t_Mo_back {X : Xt} {S : Sh} (hS : ShOK S) {d : Nat} (hd : 1 ≤ d) (x0 : Nat) (σ : Mm) (h_x0 : tgT x0 = 12) : Rf X S emM (f_Mo_back x0 σ) d 318 0 [.ref x0] [] σ := by
  obtain ⟨d1, rfl⟩ : ∃ d1, d = d1 + 1 := ⟨d - 1, by omega⟩
  exact t_Mo_back_e hS hd x0 σ h_x0
theorem c_319_0 : cd 319 0 = some (.iconst (0), 1) := by decide +kernel
theorem c_319_1 : cd 319 1 = some (.istore_n 2, 1) := by decide +kernel
theorem c_319_2 : cd 319 2 = some (.iconst (0), 1) := by decide +kernel
theorem c_319_3 : cd 319 3 = some (.istore_n 3, 1) := by decide +kernel
theorem c_319_4 : cd 319 4 = some (.iload_n 3, 1) := by decide +kernel
theorem c_319_5 : cd 319 5 = some (.aload_n 0, 1) := by decide +kernel
theorem c_319_6 : cd 319 6 = some (.getfield 9, 3) := by decide +kernel
theorem c_319_9 : cd 319 9 = some (.iconst (4), 1) := by decide +kernel
theorem c_319_10 : cd 319 10 = some (.iaload, 1) := by decide +kernel
theorem c_319_11 : cd 319 11 = some (.if_icmp .ge (26), 3) := by decide +kernel
theorem c_319_14 : cd 319 14 = some (.iload_n 2, 1) := by decide +kernel
theorem c_319_15 : cd 319 15 = some (.aload_n 0, 1) := by decide +kernel
theorem c_319_16 : cd 319 16 = some (.iload_n 3, 1) := by decide +kernel
theorem c_319_17 : cd 319 17 = some (.iload_n 1, 1) := by decide +kernel
theorem c_319_18 : cd 319 18 = some (.invokevirtual 144, 3) := by decide +kernel
theorem c_319_21 : cd 319 21 = some (.ifCond .lt (7), 3) := by decide +kernel
theorem c_319_24 : cd 319 24 = some (.iconst (1), 1) := by decide +kernel
theorem c_319_25 : cd 319 25 = some (.goto (4), 3) := by decide +kernel
theorem c_319_28 : cd 319 28 = some (.iconst (0), 1) := by decide +kernel
theorem c_319_29 : cd 319 29 = some (.iadd, 1) := by decide +kernel
theorem c_319_30 : cd 319 30 = some (.istore_n 2, 1) := by decide +kernel
theorem c_319_31 : cd 319 31 = some (.iinc 3 (1), 3) := by decide +kernel
theorem c_319_34 : cd 319 34 = some (.goto (-30), 3) := by decide +kernel
theorem c_319_37 : cd 319 37 = some (.iload_n 2, 1) := by decide +kernel
theorem c_319_38 : cd 319 38 = some (.ireturn, 1) := by decide +kernel
def f_Mo_papersThat_29 (σ : Mm) (k4 : Nat → Int32 → Int32 → Int32 → Option (Int32)) (x0 : Nat) (x1 : Int32) (x3 : Int32) (y0 : Int32) (y1 : Int32) : Option Int32 := k4 x0 x1 (y0 + y1) (x3 + (1 : Int32))
set_option maxRecDepth 100000 in
set_option maxHeartbeats 4000000 in
theorem t_Mo_papersThat_29 {X : Xt} {S : Sh} (hS : ShOK S) {d : Nat} (hd : 1 ≤ d + 1) (σ : Mm) {k4 : Nat → Int32 → Int32 → Int32 → Option (Int32)} (hk4 : ∀ (x0 : Nat) (x1 : Int32) (x2 : Int32) (x3 : Int32) (h_x0 : tgT x0 = 12), Rf X S (emI σ) (k4 x0 x1 x2 x3) (d + 1) 319 4 [.ref x0, .int x1, .int x2, .int x3] [] σ) (x0 : Nat) (x1 : Int32) (x3 : Int32) (y0 : Int32) (y1 : Int32) (u2 : Value) (h_x0 : tgT x0 = 12) : Rf X S (emI σ) (f_Mo_papersThat_29 σ k4 x0 x1 x3 y0 y1) (d + 1) 319 29 [.ref x0, .int x1, u2, .int x3] [.int y1, .int y0] σ := by
  unfold f_Mo_papersThat_29
  refine rf_iadd c_319_29 ?_
  refine rf_ist (i := 2) (Or.inr ⟨2, rfl, rfl, rfl⟩) c_319_30 (Nat.le_of_ble_eq_true rfl) rfl ?_
  refine rf_iinc c_319_31 rfl ki_1 rfl ?_
  refine rf_goto c_319_34 rfl ?_
  exact hk4 x0 x1 (y0 + y1) (x3 + (1 : Int32)) h_x0
def f_Mo_papersThat_4 (σ : Mm) : Nat → Nat → Int32 → Int32 → Int32 → Option Int32
  | 0, _, _, _, _ => none
  | n + 1, x0, x1, x2, x3 => (if (σ (rfT x0 0) (ix (4 : Int32))) ≤ x3 then (some x2) else ((f_Mo_paperOf σ x0 x3 x1).bind fun v18 => (if v18 < 0 then (f_Mo_papersThat_29 σ (f_Mo_papersThat_4 σ n) x0 x1 x3 x2 (0 : Int32)) else (f_Mo_papersThat_29 σ (f_Mo_papersThat_4 σ n) x0 x1 x3 x2 (1 : Int32)))))
set_option maxRecDepth 100000 in
set_option maxHeartbeats 4000000 in
theorem t_Mo_papersThat_4 {X : Xt} {S : Sh} (hS : ShOK S) {d : Nat} (hd : 1 ≤ d + 1) (σ : Mm) : ∀ (n : Nat) (x0 : Nat) (x1 : Int32) (x2 : Int32) (x3 : Int32) (h_x0 : tgT x0 = 12), Rf X S (emI σ) (f_Mo_papersThat_4 σ n x0 x1 x2 x3) (d + 1) 319 4 [.ref x0, .int x1, .int x2, .int x3] [] σ := by
  intro n
  induction n with
  | zero => intro x0 x1 x2 x3 h_x0; exact rf_none
  | succ n ih =>
    intro x0 x1 x2 x3 h_x0
    rw [f_Mo_papersThat_4]
    refine rf_ild (i := 3) (Or.inr ⟨3, rfl, rfl, rfl⟩) c_319_4 rfl ?_
    refine rf_ald (i := 0) (Or.inr ⟨0, rfl, rfl, rfl⟩) c_319_5 rfl ?_
    refine rf_getr hS c_319_6 rfl fl_12_9 rfl h_x0 ?_
    refine rf_iconst c_319_9 ki_4 ?_
    refine rf_iald hS c_319_10 (tf_12_0 h_x0) (lf_12_0 h_x0) (by decide) ?_
    refine rf_ite (fun hc11 => ?_) (fun hc11 => ?_)
    · refine rf_b2t c_319_11 rfl (decide_eq_true hc11) ?_
      refine rf_ild (i := 2) (Or.inr ⟨2, rfl, rfl, rfl⟩) c_319_37 rfl ?_
      exact rf_ret c_319_38 rfl rfl rfl rfl
    · refine rf_b2f c_319_11 rfl (decide_eq_false hc11) ?_
      refine rf_ild (i := 2) (Or.inr ⟨2, rfl, rfl, rfl⟩) c_319_14 rfl ?_
      refine rf_ald (i := 0) (Or.inr ⟨0, rfl, rfl, rfl⟩) c_319_15 rfl ?_
      refine rf_ild (i := 3) (Or.inr ⟨3, rfl, rfl, rfl⟩) c_319_16 rfl ?_
      refine rf_ild (i := 1) (Or.inr ⟨1, rfl, rfl, rfl⟩) c_319_17 rfl ?_
      refine rf_callI (as := [.ref x0, .int x3, .int x1]) (kd := 1) c_319_18 rfl (by decide) rfl ml_12_144 (by decide) rfl (rcv_1 hS rfl rfl h_x0 (by decide)) (by simp [Value.category]) rfl rfl (t_Mo_paperOf hS (by omega) σ x0 x3 x1 h_x0) (fun v18 => ?_)
      refine rf_ite (fun hc21 => ?_) (fun hc21 => ?_)
      · refine rf_b1t c_319_21 rfl (decide_eq_true hc21) ?_
        refine rf_iconst c_319_28 ki_0 ?_
        exact t_Mo_papersThat_29 hS hd σ ih x0 x1 x3 x2 (0 : Int32) (.int x2) h_x0
      · refine rf_b1f c_319_21 rfl (decide_eq_false hc21) ?_
        refine rf_iconst c_319_24 ki_1 ?_
        refine rf_goto c_319_25 rfl ?_
        exact t_Mo_papersThat_29 hS hd σ ih x0 x1 x3 x2 (1 : Int32) (.int x2) h_x0
def f_Mo_papersThat (σ : Mm) (x0 : Nat) (x1 : Int32) : Option Int32 := f_Mo_papersThat_4 σ NN x0 x1 (0 : Int32) (0 : Int32)
set_option maxRecDepth 100000 in
set_option maxHeartbeats 4000000 in
theorem t_Mo_papersThat_e {X : Xt} {S : Sh} (hS : ShOK S) {d : Nat} (hd : 1 ≤ d + 1) (σ : Mm) (x0 : Nat) (x1 : Int32) (h_x0 : tgT x0 = 12) : Rf X S (emI σ) (f_Mo_papersThat σ x0 x1) (d + 1) 319 0 [.ref x0, .int x1, unset0, unset0] [] σ := by
  unfold f_Mo_papersThat
  refine rf_iconst c_319_0 ki_0 ?_
  refine rf_ist (i := 2) (Or.inr ⟨2, rfl, rfl, rfl⟩) c_319_1 (Nat.le_of_ble_eq_true rfl) rfl ?_
  refine rf_iconst c_319_2 ki_0 ?_
  refine rf_ist (i := 3) (Or.inr ⟨3, rfl, rfl, rfl⟩) c_319_3 (Nat.le_of_ble_eq_true rfl) rfl ?_
  exact t_Mo_papersThat_4 hS hd σ  NN x0 x1 (0 : Int32) (0 : Int32) h_x0
theorem t_Mo_papersThat {X : Xt} {S : Sh} (hS : ShOK S) {d : Nat} (hd : 1 ≤ d) (σ : Mm) (x0 : Nat) (x1 : Int32) (h_x0 : tgT x0 = 12) : Rf X S (emI σ) (f_Mo_papersThat σ x0 x1) d 319 0 [.ref x0, .int x1, unset0, unset0] [] σ := by
  obtain ⟨d1, rfl⟩ : ∃ d1, d = d1 + 1 := ⟨d - 1, by omega⟩
  exact t_Mo_papersThat_e hS hd σ x0 x1 h_x0
theorem c_320_0 : cd 320 0 = some (.iconst (0), 1) := by decide +kernel
theorem c_320_1 : cd 320 1 = some (.istore_n 1, 1) := by decide +kernel
theorem c_320_2 : cd 320 2 = some (.iconst (0), 1) := by decide +kernel
theorem c_320_3 : cd 320 3 = some (.istore_n 2, 1) := by decide +kernel
theorem c_320_4 : cd 320 4 = some (.iload_n 2, 1) := by decide +kernel
theorem c_320_5 : cd 320 5 = some (.aload_n 0, 1) := by decide +kernel
theorem c_320_6 : cd 320 6 = some (.getfield 9, 3) := by decide +kernel
theorem c_320_9 : cd 320 9 = some (.bipush (7), 2) := by decide +kernel
theorem c_320_11 : cd 320 11 = some (.iaload, 1) := by decide +kernel
theorem c_320_12 : cd 320 12 = some (.if_icmp .ge (20), 3) := by decide +kernel
theorem c_320_15 : cd 320 15 = some (.iload_n 1, 1) := by decide +kernel
theorem c_320_16 : cd 320 16 = some (.iconst (1), 1) := by decide +kernel
theorem c_320_17 : cd 320 17 = some (.aload_n 0, 1) := by decide +kernel
theorem c_320_18 : cd 320 18 = some (.iload_n 2, 1) := by decide +kernel
theorem c_320_19 : cd 320 19 = some (.iconst (4), 1) := by decide +kernel
theorem c_320_20 : cd 320 20 = some (.invokevirtual 353, 3) := by decide +kernel
theorem c_320_23 : cd 320 23 = some (.isub, 1) := by decide +kernel
theorem c_320_24 : cd 320 24 = some (.iadd, 1) := by decide +kernel
theorem c_320_25 : cd 320 25 = some (.istore_n 1, 1) := by decide +kernel
theorem c_320_26 : cd 320 26 = some (.iinc 2 (1), 3) := by decide +kernel
theorem c_320_29 : cd 320 29 = some (.goto (-25), 3) := by decide +kernel
theorem c_320_32 : cd 320 32 = some (.iload_n 1, 1) := by decide +kernel
theorem c_320_33 : cd 320 33 = some (.ireturn, 1) := by decide +kernel
def f_Mo_copiesOut_4 (σ : Mm) : Nat → Nat → Int32 → Int32 → Option Int32
  | 0, _, _, _ => none
  | n + 1, x0, x1, x2 => (if (σ (rfT x0 0) (ix (7 : Int32))) ≤ x2 then (some x1) else ((f_Mo_copyOf σ x0 x2 (4 : Int32)).bind fun v20 => f_Mo_copiesOut_4 σ n x0 (x1 + ((1 : Int32) - v20)) (x2 + (1 : Int32))))
set_option maxRecDepth 100000 in
set_option maxHeartbeats 4000000 in
theorem t_Mo_copiesOut_4 {X : Xt} {S : Sh} (hS : ShOK S) {d : Nat} (hd : 1 ≤ d + 1) (σ : Mm) : ∀ (n : Nat) (x0 : Nat) (x1 : Int32) (x2 : Int32) (h_x0 : tgT x0 = 12), Rf X S (emI σ) (f_Mo_copiesOut_4 σ n x0 x1 x2) (d + 1) 320 4 [.ref x0, .int x1, .int x2] [] σ := by
  intro n
  induction n with
  | zero => intro x0 x1 x2 h_x0; exact rf_none
  | succ n ih =>
    intro x0 x1 x2 h_x0
    rw [f_Mo_copiesOut_4]
    refine rf_ild (i := 2) (Or.inr ⟨2, rfl, rfl, rfl⟩) c_320_4 rfl ?_
    refine rf_ald (i := 0) (Or.inr ⟨0, rfl, rfl, rfl⟩) c_320_5 rfl ?_
    refine rf_getr hS c_320_6 rfl fl_12_9 rfl h_x0 ?_
    refine rf_bipush c_320_9 kb_7 ?_
    refine rf_iald hS c_320_11 (tf_12_0 h_x0) (lf_12_0 h_x0) (by decide) ?_
    refine rf_ite (fun hc12 => ?_) (fun hc12 => ?_)
    · refine rf_b2t c_320_12 rfl (decide_eq_true hc12) ?_
      refine rf_ild (i := 1) (Or.inr ⟨1, rfl, rfl, rfl⟩) c_320_32 rfl ?_
      exact rf_ret c_320_33 rfl rfl rfl rfl
    · refine rf_b2f c_320_12 rfl (decide_eq_false hc12) ?_
      refine rf_ild (i := 1) (Or.inr ⟨1, rfl, rfl, rfl⟩) c_320_15 rfl ?_
      refine rf_iconst c_320_16 ki_1 ?_
      refine rf_ald (i := 0) (Or.inr ⟨0, rfl, rfl, rfl⟩) c_320_17 rfl ?_
      refine rf_ild (i := 2) (Or.inr ⟨2, rfl, rfl, rfl⟩) c_320_18 rfl ?_
      refine rf_iconst c_320_19 ki_4 ?_
      refine rf_callI (as := [.ref x0, .int x2, .int (4 : Int32)]) (kd := 1) c_320_20 rfl (by decide) rfl ml_12_353 (by decide) rfl (rcv_1 hS rfl rfl h_x0 (by decide)) (by simp [Value.category]) rfl rfl (t_Mo_copyOf hS (by omega) σ x0 x2 (4 : Int32) h_x0) (fun v20 => ?_)
      refine rf_isub c_320_23 ?_
      refine rf_iadd c_320_24 ?_
      refine rf_ist (i := 1) (Or.inr ⟨1, rfl, rfl, rfl⟩) c_320_25 (Nat.le_of_ble_eq_true rfl) rfl ?_
      refine rf_iinc c_320_26 rfl ki_1 rfl ?_
      refine rf_goto c_320_29 rfl ?_
      exact ih x0 (x1 + ((1 : Int32) - v20)) (x2 + (1 : Int32)) h_x0
def f_Mo_copiesOut (σ : Mm) (x0 : Nat) : Option Int32 := f_Mo_copiesOut_4 σ NN x0 (0 : Int32) (0 : Int32)
set_option maxRecDepth 100000 in
set_option maxHeartbeats 4000000 in
theorem t_Mo_copiesOut_e {X : Xt} {S : Sh} (hS : ShOK S) {d : Nat} (hd : 1 ≤ d + 1) (σ : Mm) (x0 : Nat) (h_x0 : tgT x0 = 12) : Rf X S (emI σ) (f_Mo_copiesOut σ x0) (d + 1) 320 0 [.ref x0, unset0, unset0] [] σ := by
  unfold f_Mo_copiesOut
  refine rf_iconst c_320_0 ki_0 ?_
  refine rf_ist (i := 1) (Or.inr ⟨1, rfl, rfl, rfl⟩) c_320_1 (Nat.le_of_ble_eq_true rfl) rfl ?_
  refine rf_iconst c_320_2 ki_0 ?_
  refine rf_ist (i := 2) (Or.inr ⟨2, rfl, rfl, rfl⟩) c_320_3 (Nat.le_of_ble_eq_true rfl) rfl ?_
  exact t_Mo_copiesOut_4 hS hd σ  NN x0 (0 : Int32) (0 : Int32) h_x0
theorem t_Mo_copiesOut {X : Xt} {S : Sh} (hS : ShOK S) {d : Nat} (hd : 1 ≤ d) (σ : Mm) (x0 : Nat) (h_x0 : tgT x0 = 12) : Rf X S (emI σ) (f_Mo_copiesOut σ x0) d 320 0 [.ref x0, unset0, unset0] [] σ := by
  obtain ⟨d1, rfl⟩ : ∃ d1, d = d1 + 1 := ⟨d - 1, by omega⟩
  exact t_Mo_copiesOut_e hS hd σ x0 h_x0
theorem c_321_0 : cd 321 0 = some (.iload_n 1, 1) := by decide +kernel
theorem c_321_1 : cd 321 1 = some (.tableswitch (195) (0) (15) #[79, 86, 93, 100, 106, 113, 120, 128, 142, 150, 155, 163, 171, 176, 181, 188], 79) := by decide +kernel
theorem c_321_80 : cd 321 80 = some (.aload_n 0, 1) := by decide +kernel
theorem c_321_81 : cd 321 81 = some (.getfield 9, 3) := by decide +kernel
theorem c_321_84 : cd 321 84 = some (.iconst (2), 1) := by decide +kernel
theorem c_321_85 : cd 321 85 = some (.iaload, 1) := by decide +kernel
theorem c_321_86 : cd 321 86 = some (.ireturn, 1) := by decide +kernel
theorem c_321_87 : cd 321 87 = some (.aload_n 0, 1) := by decide +kernel
theorem c_321_88 : cd 321 88 = some (.getfield 9, 3) := by decide +kernel
theorem c_321_91 : cd 321 91 = some (.iconst (3), 1) := by decide +kernel
theorem c_321_92 : cd 321 92 = some (.iaload, 1) := by decide +kernel
theorem c_321_93 : cd 321 93 = some (.ireturn, 1) := by decide +kernel
theorem c_321_94 : cd 321 94 = some (.aload_n 0, 1) := by decide +kernel
theorem c_321_95 : cd 321 95 = some (.getfield 9, 3) := by decide +kernel
theorem c_321_98 : cd 321 98 = some (.iconst (4), 1) := by decide +kernel
theorem c_321_99 : cd 321 99 = some (.iaload, 1) := by decide +kernel
theorem c_321_100 : cd 321 100 = some (.ireturn, 1) := by decide +kernel
theorem c_321_101 : cd 321 101 = some (.aload_n 0, 1) := by decide +kernel
theorem c_321_102 : cd 321 102 = some (.iconst (5), 1) := by decide +kernel
theorem c_321_103 : cd 321 103 = some (.invokevirtual 401, 3) := by decide +kernel
theorem c_321_106 : cd 321 106 = some (.ireturn, 1) := by decide +kernel
theorem c_321_107 : cd 321 107 = some (.aload_n 0, 1) := by decide +kernel
theorem c_321_108 : cd 321 108 = some (.bipush (9), 2) := by decide +kernel
theorem c_321_110 : cd 321 110 = some (.invokevirtual 401, 3) := by decide +kernel
theorem c_321_113 : cd 321 113 = some (.ireturn, 1) := by decide +kernel
theorem c_321_114 : cd 321 114 = some (.aload_n 0, 1) := by decide +kernel
theorem c_321_115 : cd 321 115 = some (.getfield 9, 3) := by decide +kernel
theorem c_321_118 : cd 321 118 = some (.iconst (5), 1) := by decide +kernel
theorem c_321_119 : cd 321 119 = some (.iaload, 1) := by decide +kernel
theorem c_321_120 : cd 321 120 = some (.ireturn, 1) := by decide +kernel
theorem c_321_121 : cd 321 121 = some (.aload_n 0, 1) := by decide +kernel
theorem c_321_122 : cd 321 122 = some (.getfield 9, 3) := by decide +kernel
theorem c_321_125 : cd 321 125 = some (.bipush (6), 2) := by decide +kernel
theorem c_321_127 : cd 321 127 = some (.iaload, 1) := by decide +kernel
theorem c_321_128 : cd 321 128 = some (.ireturn, 1) := by decide +kernel
theorem c_321_129 : cd 321 129 = some (.aload_n 0, 1) := by decide +kernel
theorem c_321_130 : cd 321 130 = some (.aload_n 0, 1) := by decide +kernel
theorem c_321_131 : cd 321 131 = some (.getfield 9, 3) := by decide +kernel
theorem c_321_134 : cd 321 134 = some (.iconst (0), 1) := by decide +kernel
theorem c_321_135 : cd 321 135 = some (.iaload, 1) := by decide +kernel
theorem c_321_136 : cd 321 136 = some (.invokevirtual 328, 3) := by decide +kernel
theorem c_321_139 : cd 321 139 = some (.invokestatic 376, 3) := by decide +kernel
theorem c_321_142 : cd 321 142 = some (.ireturn, 1) := by decide +kernel
theorem c_321_143 : cd 321 143 = some (.aload_n 0, 1) := by decide +kernel
theorem c_321_144 : cd 321 144 = some (.getfield 9, 3) := by decide +kernel
theorem c_321_147 : cd 321 147 = some (.bipush (7), 2) := by decide +kernel
theorem c_321_149 : cd 321 149 = some (.iaload, 1) := by decide +kernel
theorem c_321_150 : cd 321 150 = some (.ireturn, 1) := by decide +kernel
theorem c_321_151 : cd 321 151 = some (.aload_n 0, 1) := by decide +kernel
theorem c_321_152 : cd 321 152 = some (.invokevirtual 404, 3) := by decide +kernel
theorem c_321_155 : cd 321 155 = some (.ireturn, 1) := by decide +kernel
theorem c_321_156 : cd 321 156 = some (.aload_n 0, 1) := by decide +kernel
theorem c_321_157 : cd 321 157 = some (.getfield 9, 3) := by decide +kernel
theorem c_321_160 : cd 321 160 = some (.bipush (8), 2) := by decide +kernel
theorem c_321_162 : cd 321 162 = some (.iaload, 1) := by decide +kernel
theorem c_321_163 : cd 321 163 = some (.ireturn, 1) := by decide +kernel
theorem c_321_164 : cd 321 164 = some (.aload_n 0, 1) := by decide +kernel
theorem c_321_165 : cd 321 165 = some (.getfield 9, 3) := by decide +kernel
theorem c_321_168 : cd 321 168 = some (.bipush (9), 2) := by decide +kernel
theorem c_321_170 : cd 321 170 = some (.iaload, 1) := by decide +kernel
theorem c_321_171 : cd 321 171 = some (.ireturn, 1) := by decide +kernel
theorem c_321_172 : cd 321 172 = some (.aload_n 0, 1) := by decide +kernel
theorem c_321_173 : cd 321 173 = some (.getfield 391, 3) := by decide +kernel
theorem c_321_176 : cd 321 176 = some (.ireturn, 1) := by decide +kernel
theorem c_321_177 : cd 321 177 = some (.aload_n 0, 1) := by decide +kernel
theorem c_321_178 : cd 321 178 = some (.getfield 159, 3) := by decide +kernel
theorem c_321_181 : cd 321 181 = some (.ireturn, 1) := by decide +kernel
theorem c_321_182 : cd 321 182 = some (.aload_n 0, 1) := by decide +kernel
theorem c_321_183 : cd 321 183 = some (.getfield 9, 3) := by decide +kernel
theorem c_321_186 : cd 321 186 = some (.iconst (0), 1) := by decide +kernel
theorem c_321_187 : cd 321 187 = some (.iaload, 1) := by decide +kernel
theorem c_321_188 : cd 321 188 = some (.ireturn, 1) := by decide +kernel
theorem c_321_189 : cd 321 189 = some (.aload_n 0, 1) := by decide +kernel
theorem c_321_190 : cd 321 190 = some (.getfield 9, 3) := by decide +kernel
theorem c_321_193 : cd 321 193 = some (.iconst (1), 1) := by decide +kernel
theorem c_321_194 : cd 321 194 = some (.iaload, 1) := by decide +kernel
theorem c_321_195 : cd 321 195 = some (.ireturn, 1) := by decide +kernel
theorem c_321_196 : cd 321 196 = some (.ldc 91, 2) := by decide +kernel
theorem c_321_198 : cd 321 198 = some (.ireturn, 1) := by decide +kernel
def f_Mo_count (σ : Mm) (x0 : Nat) (x1 : Int32) : Option Int32 := (if x1 = (0 : Int32) then (some (σ (rfT x0 0) (ix (2 : Int32)))) else (if x1 = (1 : Int32) then (some (σ (rfT x0 0) (ix (3 : Int32)))) else (if x1 = (2 : Int32) then (some (σ (rfT x0 0) (ix (4 : Int32)))) else (if x1 = (3 : Int32) then ((f_Mo_papersThat σ x0 (5 : Int32)).bind fun v103 => some v103) else (if x1 = (4 : Int32) then ((f_Mo_papersThat σ x0 (9 : Int32)).bind fun v110 => some v110) else (if x1 = (5 : Int32) then (some (σ (rfT x0 0) (ix (5 : Int32)))) else (if x1 = (6 : Int32) then (some (σ (rfT x0 0) (ix (6 : Int32)))) else (if x1 = (7 : Int32) then ((f_Mo_standing σ x0 (σ (rfT x0 0) (ix (0 : Int32)))).bind fun v136 => (f_Mo_bits σ v136).bind fun v139 => some v139) else (if x1 = (8 : Int32) then (some (σ (rfT x0 0) (ix (7 : Int32)))) else (if x1 = (9 : Int32) then ((f_Mo_copiesOut σ x0).bind fun v152 => some v152) else (if x1 = (10 : Int32) then (some (σ (rfT x0 0) (ix (8 : Int32)))) else (if x1 = (11 : Int32) then (some (σ (rfT x0 0) (ix (9 : Int32)))) else (if x1 = (12 : Int32) then (some (σ x0 44)) else (if x1 = (13 : Int32) then (some (σ x0 10)) else (if x1 = (14 : Int32) then (some (σ (rfT x0 0) (ix (0 : Int32)))) else (if x1 = (15 : Int32) then (some (σ (rfT x0 0) (ix (1 : Int32)))) else (some (-1000000001 : Int32))))))))))))))))))
set_option maxRecDepth 100000 in
set_option maxHeartbeats 4000000 in
theorem t_Mo_count_e {X : Xt} {S : Sh} (hS : ShOK S) {d : Nat} (hd : 2 ≤ d + 1) (σ : Mm) (x0 : Nat) (x1 : Int32) (h_x0 : tgT x0 = 12) : Rf X S (emI σ) (f_Mo_count σ x0 x1) (d + 1) 321 0 [.ref x0, .int x1] [] σ := by
  unfold f_Mo_count
  refine rf_ild (i := 1) (Or.inr ⟨1, rfl, rfl, rfl⟩) c_321_0 rfl ?_
  refine rf_ite (fun hs1_0 => ?_) (fun hs1_0 => ?_)
  · refine rf_tsw (o := 79) c_321_1 (by rw [hs1_0]; decide) rfl ?_
    refine rf_ald (i := 0) (Or.inr ⟨0, rfl, rfl, rfl⟩) c_321_80 rfl ?_
    refine rf_getr hS c_321_81 rfl fl_12_9 rfl h_x0 ?_
    refine rf_iconst c_321_84 ki_2 ?_
    refine rf_iald hS c_321_85 (tf_12_0 h_x0) (lf_12_0 h_x0) (by decide) ?_
    exact rf_ret c_321_86 rfl rfl rfl rfl
  · refine rf_ite (fun hs1_1 => ?_) (fun hs1_1 => ?_)
    · refine rf_tsw (o := 86) c_321_1 (by rw [hs1_1]; decide) rfl ?_
      refine rf_ald (i := 0) (Or.inr ⟨0, rfl, rfl, rfl⟩) c_321_87 rfl ?_
      refine rf_getr hS c_321_88 rfl fl_12_9 rfl h_x0 ?_
      refine rf_iconst c_321_91 ki_3 ?_
      refine rf_iald hS c_321_92 (tf_12_0 h_x0) (lf_12_0 h_x0) (by decide) ?_
      exact rf_ret c_321_93 rfl rfl rfl rfl
    · refine rf_ite (fun hs1_2 => ?_) (fun hs1_2 => ?_)
      · refine rf_tsw (o := 93) c_321_1 (by rw [hs1_2]; decide) rfl ?_
        refine rf_ald (i := 0) (Or.inr ⟨0, rfl, rfl, rfl⟩) c_321_94 rfl ?_
        refine rf_getr hS c_321_95 rfl fl_12_9 rfl h_x0 ?_
        refine rf_iconst c_321_98 ki_4 ?_
        refine rf_iald hS c_321_99 (tf_12_0 h_x0) (lf_12_0 h_x0) (by decide) ?_
        exact rf_ret c_321_100 rfl rfl rfl rfl
      · refine rf_ite (fun hs1_3 => ?_) (fun hs1_3 => ?_)
        · refine rf_tsw (o := 100) c_321_1 (by rw [hs1_3]; decide) rfl ?_
          refine rf_ald (i := 0) (Or.inr ⟨0, rfl, rfl, rfl⟩) c_321_101 rfl ?_
          refine rf_iconst c_321_102 ki_5 ?_
          refine rf_callI (as := [.ref x0, .int (5 : Int32)]) (kd := 1) c_321_103 rfl (by decide) rfl ml_12_401 (by decide) rfl (rcv_1 hS rfl rfl h_x0 (by decide)) (Nat.zero_le _) rfl rfl (t_Mo_papersThat hS (by omega) σ x0 (5 : Int32) h_x0) (fun v103 => ?_)
          exact rf_ret c_321_106 rfl rfl rfl rfl
        · refine rf_ite (fun hs1_4 => ?_) (fun hs1_4 => ?_)
          · refine rf_tsw (o := 106) c_321_1 (by rw [hs1_4]; decide) rfl ?_
            refine rf_ald (i := 0) (Or.inr ⟨0, rfl, rfl, rfl⟩) c_321_107 rfl ?_
            refine rf_bipush c_321_108 kb_9 ?_
            refine rf_callI (as := [.ref x0, .int (9 : Int32)]) (kd := 1) c_321_110 rfl (by decide) rfl ml_12_401 (by decide) rfl (rcv_1 hS rfl rfl h_x0 (by decide)) (Nat.zero_le _) rfl rfl (t_Mo_papersThat hS (by omega) σ x0 (9 : Int32) h_x0) (fun v110 => ?_)
            exact rf_ret c_321_113 rfl rfl rfl rfl
          · refine rf_ite (fun hs1_5 => ?_) (fun hs1_5 => ?_)
            · refine rf_tsw (o := 113) c_321_1 (by rw [hs1_5]; decide) rfl ?_
              refine rf_ald (i := 0) (Or.inr ⟨0, rfl, rfl, rfl⟩) c_321_114 rfl ?_
              refine rf_getr hS c_321_115 rfl fl_12_9 rfl h_x0 ?_
              refine rf_iconst c_321_118 ki_5 ?_
              refine rf_iald hS c_321_119 (tf_12_0 h_x0) (lf_12_0 h_x0) (by decide) ?_
              exact rf_ret c_321_120 rfl rfl rfl rfl
            · refine rf_ite (fun hs1_6 => ?_) (fun hs1_6 => ?_)
              · refine rf_tsw (o := 120) c_321_1 (by rw [hs1_6]; decide) rfl ?_
                refine rf_ald (i := 0) (Or.inr ⟨0, rfl, rfl, rfl⟩) c_321_121 rfl ?_
                refine rf_getr hS c_321_122 rfl fl_12_9 rfl h_x0 ?_
                refine rf_bipush c_321_125 kb_6 ?_
                refine rf_iald hS c_321_127 (tf_12_0 h_x0) (lf_12_0 h_x0) (by decide) ?_
                exact rf_ret c_321_128 rfl rfl rfl rfl
              · refine rf_ite (fun hs1_7 => ?_) (fun hs1_7 => ?_)
                · refine rf_tsw (o := 128) c_321_1 (by rw [hs1_7]; decide) rfl ?_
                  refine rf_ald (i := 0) (Or.inr ⟨0, rfl, rfl, rfl⟩) c_321_129 rfl ?_
                  refine rf_ald (i := 0) (Or.inr ⟨0, rfl, rfl, rfl⟩) c_321_130 rfl ?_
                  refine rf_getr hS c_321_131 rfl fl_12_9 rfl h_x0 ?_
                  refine rf_iconst c_321_134 ki_0 ?_
                  refine rf_iald hS c_321_135 (tf_12_0 h_x0) (lf_12_0 h_x0) (by decide) ?_
                  refine rf_callI (as := [.ref x0, .int (σ (rfT x0 0) (ix (0 : Int32)))]) (kd := 1) c_321_136 rfl (by decide) rfl ml_12_328 (by decide) rfl (rcv_1 hS rfl rfl h_x0 (by decide)) (Nat.zero_le _) rfl rfl (t_Mo_standing hS (by omega) σ x0 (σ (rfT x0 0) (ix (0 : Int32))) h_x0) (fun v136 => ?_)
                  refine rf_callI (as := [.int v136]) (kd := 0) c_321_139 rfl (by decide) rfl ml_12_376 (by decide) rfl (rcv_0 rfl) (Nat.zero_le _) rfl rfl (t_Mo_bits hS (by omega) σ v136) (fun v139 => ?_)
                  exact rf_ret c_321_142 rfl rfl rfl rfl
                · refine rf_ite (fun hs1_8 => ?_) (fun hs1_8 => ?_)
                  · refine rf_tsw (o := 142) c_321_1 (by rw [hs1_8]; decide) rfl ?_
                    refine rf_ald (i := 0) (Or.inr ⟨0, rfl, rfl, rfl⟩) c_321_143 rfl ?_
                    refine rf_getr hS c_321_144 rfl fl_12_9 rfl h_x0 ?_
                    refine rf_bipush c_321_147 kb_7 ?_
                    refine rf_iald hS c_321_149 (tf_12_0 h_x0) (lf_12_0 h_x0) (by decide) ?_
                    exact rf_ret c_321_150 rfl rfl rfl rfl
                  · refine rf_ite (fun hs1_9 => ?_) (fun hs1_9 => ?_)
                    · refine rf_tsw (o := 150) c_321_1 (by rw [hs1_9]; decide) rfl ?_
                      refine rf_ald (i := 0) (Or.inr ⟨0, rfl, rfl, rfl⟩) c_321_151 rfl ?_
                      refine rf_callI (as := [.ref x0]) (kd := 1) c_321_152 rfl (by decide) rfl ml_12_404 (by decide) rfl (rcv_1 hS rfl rfl h_x0 (by decide)) (Nat.zero_le _) rfl rfl (t_Mo_copiesOut hS (by omega) σ x0 h_x0) (fun v152 => ?_)
                      exact rf_ret c_321_155 rfl rfl rfl rfl
                    · refine rf_ite (fun hs1_10 => ?_) (fun hs1_10 => ?_)
                      · refine rf_tsw (o := 155) c_321_1 (by rw [hs1_10]; decide) rfl ?_
                        refine rf_ald (i := 0) (Or.inr ⟨0, rfl, rfl, rfl⟩) c_321_156 rfl ?_
                        refine rf_getr hS c_321_157 rfl fl_12_9 rfl h_x0 ?_
                        refine rf_bipush c_321_160 kb_8 ?_
                        refine rf_iald hS c_321_162 (tf_12_0 h_x0) (lf_12_0 h_x0) (by decide) ?_
                        exact rf_ret c_321_163 rfl rfl rfl rfl
                      · refine rf_ite (fun hs1_11 => ?_) (fun hs1_11 => ?_)
                        · refine rf_tsw (o := 163) c_321_1 (by rw [hs1_11]; decide) rfl ?_
                          refine rf_ald (i := 0) (Or.inr ⟨0, rfl, rfl, rfl⟩) c_321_164 rfl ?_
                          refine rf_getr hS c_321_165 rfl fl_12_9 rfl h_x0 ?_
                          refine rf_bipush c_321_168 kb_9 ?_
                          refine rf_iald hS c_321_170 (tf_12_0 h_x0) (lf_12_0 h_x0) (by decide) ?_
                          exact rf_ret c_321_171 rfl rfl rfl rfl
                        · refine rf_ite (fun hs1_12 => ?_) (fun hs1_12 => ?_)
                          · refine rf_tsw (o := 171) c_321_1 (by rw [hs1_12]; decide) rfl ?_
                            refine rf_ald (i := 0) (Or.inr ⟨0, rfl, rfl, rfl⟩) c_321_172 rfl ?_
                            refine rf_geti hS c_321_173 rfl fl_12_391 rfl h_x0 ?_
                            exact rf_ret c_321_176 rfl rfl rfl rfl
                          · refine rf_ite (fun hs1_13 => ?_) (fun hs1_13 => ?_)
                            · refine rf_tsw (o := 176) c_321_1 (by rw [hs1_13]; decide) rfl ?_
                              refine rf_ald (i := 0) (Or.inr ⟨0, rfl, rfl, rfl⟩) c_321_177 rfl ?_
                              refine rf_geti hS c_321_178 rfl fl_12_159 rfl h_x0 ?_
                              exact rf_ret c_321_181 rfl rfl rfl rfl
                            · refine rf_ite (fun hs1_14 => ?_) (fun hs1_14 => ?_)
                              · refine rf_tsw (o := 181) c_321_1 (by rw [hs1_14]; decide) rfl ?_
                                refine rf_ald (i := 0) (Or.inr ⟨0, rfl, rfl, rfl⟩) c_321_182 rfl ?_
                                refine rf_getr hS c_321_183 rfl fl_12_9 rfl h_x0 ?_
                                refine rf_iconst c_321_186 ki_0 ?_
                                refine rf_iald hS c_321_187 (tf_12_0 h_x0) (lf_12_0 h_x0) (by decide) ?_
                                exact rf_ret c_321_188 rfl rfl rfl rfl
                              · refine rf_ite (fun hs1_15 => ?_) (fun hs1_15 => ?_)
                                · refine rf_tsw (o := 188) c_321_1 (by rw [hs1_15]; decide) rfl ?_
                                  refine rf_ald (i := 0) (Or.inr ⟨0, rfl, rfl, rfl⟩) c_321_189 rfl ?_
                                  refine rf_getr hS c_321_190 rfl fl_12_9 rfl h_x0 ?_
                                  refine rf_iconst c_321_193 ki_1 ?_
                                  refine rf_iald hS c_321_194 (tf_12_0 h_x0) (lf_12_0 h_x0) (by decide) ?_
                                  exact rf_ret c_321_195 rfl rfl rfl rfl
                                · refine rf_tsw c_321_1 (if_pos (by have e0 := lv_neT hs1_0 (a := 0) (by decide); have e1 := lv_neT hs1_1 (a := 1) (by decide); have e2 := lv_neT hs1_2 (a := 2) (by decide); have e3 := lv_neT hs1_3 (a := 3) (by decide); have e4 := lv_neT hs1_4 (a := 4) (by decide); have e5 := lv_neT hs1_5 (a := 5) (by decide); have e6 := lv_neT hs1_6 (a := 6) (by decide); have e7 := lv_neT hs1_7 (a := 7) (by decide); have e8 := lv_neT hs1_8 (a := 8) (by decide); have e9 := lv_neT hs1_9 (a := 9) (by decide); have e10 := lv_neT hs1_10 (a := 10) (by decide); have e11 := lv_neT hs1_11 (a := 11) (by decide); have e12 := lv_neT hs1_12 (a := 12) (by decide); have e13 := lv_neT hs1_13 (a := 13) (by decide); have e14 := lv_neT hs1_14 (a := 14) (by decide); have e15 := lv_neT hs1_15 (a := 15) (by decide); omega)) rfl ?_
                                  refine rf_ldc (Or.inl ⟨rfl, rfl⟩) c_321_196 rfl kl_12_91 ?_
                                  exact rf_ret c_321_198 rfl rfl rfl rfl
theorem t_Mo_count {X : Xt} {S : Sh} (hS : ShOK S) {d : Nat} (hd : 2 ≤ d) (σ : Mm) (x0 : Nat) (x1 : Int32) (h_x0 : tgT x0 = 12) : Rf X S (emI σ) (f_Mo_count σ x0 x1) d 321 0 [.ref x0, .int x1] [] σ := by
  obtain ⟨d1, rfl⟩ : ∃ d1, d = d1 + 1 := ⟨d - 1, by omega⟩
  exact t_Mo_count_e hS hd σ x0 x1 h_x0
