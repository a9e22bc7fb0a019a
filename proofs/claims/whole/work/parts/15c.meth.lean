/-! methods: Tb_become St_become St_countingRules St_greatestRule St_neededOffices St_dueBy St_dueOf St_leastPaperOfBoth Tb_firstSitting Tb_sitsOn In_numberOfTrailingZeros St_whatLacks Tb_seatsAt St_addDecision St_settleBySilence St_letDayGoBy St_tooLateBy Tb_hasSeat St_papersKnownTo St_openPapers St_reckonedFrom St_sentPapers St_papersThatCame Tb_add Tb_changeSeats Tb_mayPass -/
theorem c_83_0 : cd 83 0 = some (.aload_n 1, 1) := by decide +kernel
theorem c_83_1 : cd 83 1 = some (.getfield 9, 3) := by decide +kernel
theorem c_83_4 : cd 83 4 = some (.iconst (0), 1) := by decide +kernel
theorem c_83_5 : cd 83 5 = some (.aload_n 0, 1) := by decide +kernel
theorem c_83_6 : cd 83 6 = some (.getfield 9, 3) := by decide +kernel
theorem c_83_9 : cd 83 9 = some (.iconst (0), 1) := by decide +kernel
theorem c_83_10 : cd 83 10 = some (.bipush (6), 2) := by decide +kernel
theorem c_83_12 : cd 83 12 = some (.invokestatic 24, 3) := by decide +kernel
theorem c_83_15 : cd 83 15 = some (.aload_n 1, 1) := by decide +kernel
theorem c_83_16 : cd 83 16 = some (.getfield 15, 3) := by decide +kernel
theorem c_83_19 : cd 83 19 = some (.iconst (0), 1) := by decide +kernel
theorem c_83_20 : cd 83 20 = some (.aload_n 0, 1) := by decide +kernel
theorem c_83_21 : cd 83 21 = some (.getfield 15, 3) := by decide +kernel
theorem c_83_24 : cd 83 24 = some (.iconst (0), 1) := by decide +kernel
theorem c_83_25 : cd 83 25 = some (.bipush (6), 2) := by decide +kernel
theorem c_83_27 : cd 83 27 = some (.invokestatic 24, 3) := by decide +kernel
theorem c_83_30 : cd 83 30 = some (.aload_n 1, 1) := by decide +kernel
theorem c_83_31 : cd 83 31 = some (.getfield 18, 3) := by decide +kernel
theorem c_83_34 : cd 83 34 = some (.iconst (0), 1) := by decide +kernel
theorem c_83_35 : cd 83 35 = some (.aload_n 0, 1) := by decide +kernel
theorem c_83_36 : cd 83 36 = some (.getfield 18, 3) := by decide +kernel
theorem c_83_39 : cd 83 39 = some (.iconst (0), 1) := by decide +kernel
theorem c_83_40 : cd 83 40 = some (.bipush (6), 2) := by decide +kernel
theorem c_83_42 : cd 83 42 = some (.invokestatic 24, 3) := by decide +kernel
theorem c_83_45 : cd 83 45 = some (.aload_n 1, 1) := by decide +kernel
theorem c_83_46 : cd 83 46 = some (.getfield 21, 3) := by decide +kernel
theorem c_83_49 : cd 83 49 = some (.iconst (0), 1) := by decide +kernel
theorem c_83_50 : cd 83 50 = some (.aload_n 0, 1) := by decide +kernel
theorem c_83_51 : cd 83 51 = some (.getfield 21, 3) := by decide +kernel
theorem c_83_54 : cd 83 54 = some (.iconst (0), 1) := by decide +kernel
theorem c_83_55 : cd 83 55 = some (.bipush (6), 2) := by decide +kernel
theorem c_83_57 : cd 83 57 = some (.invokestatic 24, 3) := by decide +kernel
theorem c_83_60 : cd 83 60 = some (.aload_n 0, 1) := by decide +kernel
theorem c_83_61 : cd 83 61 = some (.aload_n 1, 1) := by decide +kernel
theorem c_83_62 : cd 83 62 = some (.getfield 30, 3) := by decide +kernel
theorem c_83_65 : cd 83 65 = some (.putfield 30, 3) := by decide +kernel
theorem c_83_68 : cd 83 68 = some (.return_, 1) := by decide +kernel
def f_Tb_become (x0 : Nat) (x1 : Nat) (σ : Mm) : Option Mm := nmM (cp2 σ (rfT x1 0) (ix (0 : Int32)) (rfT x0 0) (ix (0 : Int32)) (ix (6 : Int32))) fun σ12 => nmM (cp2 σ12 (rfT x1 1) (ix (0 : Int32)) (rfT x0 1) (ix (0 : Int32)) (ix (6 : Int32))) fun σ27 => nmM (cp2 σ27 (rfT x1 2) (ix (0 : Int32)) (rfT x0 2) (ix (0 : Int32)) (ix (6 : Int32))) fun σ42 => nmM (cp2 σ42 (rfT x1 3) (ix (0 : Int32)) (rfT x0 3) (ix (0 : Int32)) (ix (6 : Int32))) fun σ57 => nmM (up2 σ57 x0 4 (σ57 x1 4)) fun σ65 => some σ65
set_option maxRecDepth 100000 in
set_option maxHeartbeats 4000000 in
theorem t_Tb_become {X : Xt} {S : Sh} (hS : ShOK S) {d : Nat} (hd : 6 ≤ d) (x0 : Nat) (x1 : Nat) (σ : Mm) (h_x0 : tgT x0 = 8) (h_x1 : tgT x1 = 8) : Rf X S emV (f_Tb_become x0 x1 σ) d 83 0 [.ref x0, .ref x1] [] σ := by
  unfold f_Tb_become
  refine rf_ald (i := 1) (Or.inr ⟨1, rfl, rfl, rfl⟩) c_83_0 rfl ?_
  refine rf_getr hS c_83_1 rfl fl_8_9 rfl h_x1 ?_
  refine rf_iconst c_83_4 ki_0 ?_
  refine rf_ald (i := 0) (Or.inr ⟨0, rfl, rfl, rfl⟩) c_83_5 rfl ?_
  refine rf_getr hS c_83_6 rfl fl_8_9 rfl h_x0 ?_
  refine rf_iconst c_83_9 ki_0 ?_
  refine rf_bipush c_83_10 kb_6 ?_
  refine rf_copy hS c_83_12 rfl ml_8_24 (by omega) (Nat.zero_le _) (tf_8_0 h_x1) (tf_8_0 h_x0) (lf_8_0 h_x1) (lf_8_0 h_x0) (by decide) ?_
  refine rf_nm (fun σ12 => ?_)
  refine rf_ald (i := 1) (Or.inr ⟨1, rfl, rfl, rfl⟩) c_83_15 rfl ?_
  refine rf_getr hS c_83_16 rfl fl_8_15 rfl h_x1 ?_
  refine rf_iconst c_83_19 ki_0 ?_
  refine rf_ald (i := 0) (Or.inr ⟨0, rfl, rfl, rfl⟩) c_83_20 rfl ?_
  refine rf_getr hS c_83_21 rfl fl_8_15 rfl h_x0 ?_
  refine rf_iconst c_83_24 ki_0 ?_
  refine rf_bipush c_83_25 kb_6 ?_
  refine rf_copy hS c_83_27 rfl ml_8_24 (by omega) (Nat.zero_le _) (tf_8_1 h_x1) (tf_8_1 h_x0) (lf_8_1 h_x1) (lf_8_1 h_x0) (by decide) ?_
  refine rf_nm (fun σ27 => ?_)
  refine rf_ald (i := 1) (Or.inr ⟨1, rfl, rfl, rfl⟩) c_83_30 rfl ?_
  refine rf_getr hS c_83_31 rfl fl_8_18 rfl h_x1 ?_
  refine rf_iconst c_83_34 ki_0 ?_
  refine rf_ald (i := 0) (Or.inr ⟨0, rfl, rfl, rfl⟩) c_83_35 rfl ?_
  refine rf_getr hS c_83_36 rfl fl_8_18 rfl h_x0 ?_
  refine rf_iconst c_83_39 ki_0 ?_
  refine rf_bipush c_83_40 kb_6 ?_
  refine rf_copy hS c_83_42 rfl ml_8_24 (by omega) (Nat.zero_le _) (tf_8_2 h_x1) (tf_8_2 h_x0) (lf_8_2 h_x1) (lf_8_2 h_x0) (by decide) ?_
  refine rf_nm (fun σ42 => ?_)
  refine rf_ald (i := 1) (Or.inr ⟨1, rfl, rfl, rfl⟩) c_83_45 rfl ?_
  refine rf_getr hS c_83_46 rfl fl_8_21 rfl h_x1 ?_
  refine rf_iconst c_83_49 ki_0 ?_
  refine rf_ald (i := 0) (Or.inr ⟨0, rfl, rfl, rfl⟩) c_83_50 rfl ?_
  refine rf_getr hS c_83_51 rfl fl_8_21 rfl h_x0 ?_
  refine rf_iconst c_83_54 ki_0 ?_
  refine rf_bipush c_83_55 kb_6 ?_
  refine rf_copy hS c_83_57 rfl ml_8_24 (by omega) (Nat.zero_le _) (tf_8_3 h_x1) (tf_8_3 h_x0) (lf_8_3 h_x1) (lf_8_3 h_x0) (by decide) ?_
  refine rf_nm (fun σ57 => ?_)
  refine rf_ald (i := 0) (Or.inr ⟨0, rfl, rfl, rfl⟩) c_83_60 rfl ?_
  refine rf_ald (i := 1) (Or.inr ⟨1, rfl, rfl, rfl⟩) c_83_61 rfl ?_
  refine rf_geti hS c_83_62 rfl fl_8_30 rfl h_x1 ?_
  refine rf_puti hS c_83_65 rfl fl_8_30 rfl rfl rfl rfl h_x0 ?_
  refine rf_nm (fun σ65 => ?_)
  exact rf_vret c_83_68 rfl rfl
theorem c_65_0 : cd 65 0 = some (.aload_n 0, 1) := by decide +kernel
theorem c_65_1 : cd 65 1 = some (.getfield 12, 3) := by decide +kernel
theorem c_65_4 : cd 65 4 = some (.aload_n 1, 1) := by decide +kernel
theorem c_65_5 : cd 65 5 = some (.getfield 12, 3) := by decide +kernel
theorem c_65_8 : cd 65 8 = some (.invokevirtual 61, 3) := by decide +kernel
theorem c_65_11 : cd 65 11 = some (.aload_n 0, 1) := by decide +kernel
theorem c_65_12 : cd 65 12 = some (.getfield 21, 3) := by decide +kernel
theorem c_65_15 : cd 65 15 = some (.aload_n 1, 1) := by decide +kernel
theorem c_65_16 : cd 65 16 = some (.getfield 21, 3) := by decide +kernel
theorem c_65_19 : cd 65 19 = some (.invokevirtual 65, 3) := by decide +kernel
theorem c_65_22 : cd 65 22 = some (.iconst (0), 1) := by decide +kernel
theorem c_65_23 : cd 65 23 = some (.istore_n 2, 1) := by decide +kernel
theorem c_65_24 : cd 65 24 = some (.iload_n 2, 1) := by decide +kernel
theorem c_65_25 : cd 65 25 = some (.bipush (24), 2) := by decide +kernel
theorem c_65_27 : cd 65 27 = some (.if_icmp .ge (24), 3) := by decide +kernel
theorem c_65_30 : cd 65 30 = some (.aload_n 0, 1) := by decide +kernel
theorem c_65_31 : cd 65 31 = some (.getfield 27, 3) := by decide +kernel
theorem c_65_34 : cd 65 34 = some (.iload_n 2, 1) := by decide +kernel
theorem c_65_35 : cd 65 35 = some (.aaload, 1) := by decide +kernel
theorem c_65_36 : cd 65 36 = some (.aload_n 1, 1) := by decide +kernel
theorem c_65_37 : cd 65 37 = some (.getfield 27, 3) := by decide +kernel
theorem c_65_40 : cd 65 40 = some (.iload_n 2, 1) := by decide +kernel
theorem c_65_41 : cd 65 41 = some (.aaload, 1) := by decide +kernel
theorem c_65_42 : cd 65 42 = some (.invokevirtual 68, 3) := by decide +kernel
theorem c_65_45 : cd 65 45 = some (.iinc 2 (1), 3) := by decide +kernel
theorem c_65_48 : cd 65 48 = some (.goto (-24), 3) := by decide +kernel
theorem c_65_51 : cd 65 51 = some (.iconst (0), 1) := by decide +kernel
theorem c_65_52 : cd 65 52 = some (.istore_n 2, 1) := by decide +kernel
theorem c_65_53 : cd 65 53 = some (.iload_n 2, 1) := by decide +kernel
theorem c_65_54 : cd 65 54 = some (.bipush (16), 2) := by decide +kernel
theorem c_65_56 : cd 65 56 = some (.if_icmp .ge (24), 3) := by decide +kernel
theorem c_65_59 : cd 65 59 = some (.aload_n 0, 1) := by decide +kernel
theorem c_65_60 : cd 65 60 = some (.getfield 33, 3) := by decide +kernel
theorem c_65_63 : cd 65 63 = some (.iload_n 2, 1) := by decide +kernel
theorem c_65_64 : cd 65 64 = some (.aaload, 1) := by decide +kernel
theorem c_65_65 : cd 65 65 = some (.aload_n 1, 1) := by decide +kernel
theorem c_65_66 : cd 65 66 = some (.getfield 33, 3) := by decide +kernel
theorem c_65_69 : cd 65 69 = some (.iload_n 2, 1) := by decide +kernel
theorem c_65_70 : cd 65 70 = some (.aaload, 1) := by decide +kernel
theorem c_65_71 : cd 65 71 = some (.invokevirtual 71, 3) := by decide +kernel
theorem c_65_74 : cd 65 74 = some (.iinc 2 (1), 3) := by decide +kernel
theorem c_65_77 : cd 65 77 = some (.goto (-24), 3) := by decide +kernel
theorem c_65_80 : cd 65 80 = some (.aload_n 0, 1) := by decide +kernel
theorem c_65_81 : cd 65 81 = some (.getfield 40, 3) := by decide +kernel
theorem c_65_84 : cd 65 84 = some (.aload_n 1, 1) := by decide +kernel
theorem c_65_85 : cd 65 85 = some (.getfield 40, 3) := by decide +kernel
theorem c_65_88 : cd 65 88 = some (.invokevirtual 74, 3) := by decide +kernel
theorem c_65_91 : cd 65 91 = some (.aload_n 0, 1) := by decide +kernel
theorem c_65_92 : cd 65 92 = some (.getfield 47, 3) := by decide +kernel
theorem c_65_95 : cd 65 95 = some (.aload_n 1, 1) := by decide +kernel
theorem c_65_96 : cd 65 96 = some (.getfield 47, 3) := by decide +kernel
theorem c_65_99 : cd 65 99 = some (.invokevirtual 77, 3) := by decide +kernel
theorem c_65_102 : cd 65 102 = some (.aload_n 1, 1) := by decide +kernel
theorem c_65_103 : cd 65 103 = some (.getfield 51, 3) := by decide +kernel
theorem c_65_106 : cd 65 106 = some (.iconst (0), 1) := by decide +kernel
theorem c_65_107 : cd 65 107 = some (.aload_n 0, 1) := by decide +kernel
theorem c_65_108 : cd 65 108 = some (.getfield 51, 3) := by decide +kernel
theorem c_65_111 : cd 65 111 = some (.iconst (0), 1) := by decide +kernel
theorem c_65_112 : cd 65 112 = some (.bipush (8), 2) := by decide +kernel
theorem c_65_114 : cd 65 114 = some (.invokestatic 80, 3) := by decide +kernel
theorem c_65_117 : cd 65 117 = some (.aload_n 1, 1) := by decide +kernel
theorem c_65_118 : cd 65 118 = some (.getfield 55, 3) := by decide +kernel
theorem c_65_121 : cd 65 121 = some (.iconst (0), 1) := by decide +kernel
theorem c_65_122 : cd 65 122 = some (.aload_n 0, 1) := by decide +kernel
theorem c_65_123 : cd 65 123 = some (.getfield 55, 3) := by decide +kernel
theorem c_65_126 : cd 65 126 = some (.iconst (0), 1) := by decide +kernel
theorem c_65_127 : cd 65 127 = some (.bipush (10), 2) := by decide +kernel
theorem c_65_129 : cd 65 129 = some (.invokestatic 80, 3) := by decide +kernel
theorem c_65_132 : cd 65 132 = some (.aload_n 0, 1) := by decide +kernel
theorem c_65_133 : cd 65 133 = some (.aload_n 1, 1) := by decide +kernel
theorem c_65_134 : cd 65 134 = some (.getfield 86, 3) := by decide +kernel
theorem c_65_137 : cd 65 137 = some (.putfield 86, 3) := by decide +kernel
theorem c_65_140 : cd 65 140 = some (.aload_n 0, 1) := by decide +kernel
theorem c_65_141 : cd 65 141 = some (.aload_n 1, 1) := by decide +kernel
theorem c_65_142 : cd 65 142 = some (.getfield 90, 3) := by decide +kernel
theorem c_65_145 : cd 65 145 = some (.putfield 90, 3) := by decide +kernel
theorem c_65_148 : cd 65 148 = some (.aload_n 0, 1) := by decide +kernel
theorem c_65_149 : cd 65 149 = some (.aload_n 1, 1) := by decide +kernel
theorem c_65_150 : cd 65 150 = some (.getfield 93, 3) := by decide +kernel
theorem c_65_153 : cd 65 153 = some (.putfield 93, 3) := by decide +kernel
theorem c_65_156 : cd 65 156 = some (.aload_n 0, 1) := by decide +kernel
theorem c_65_157 : cd 65 157 = some (.aload_n 1, 1) := by decide +kernel
theorem c_65_158 : cd 65 158 = some (.getfield 96, 3) := by decide +kernel
theorem c_65_161 : cd 65 161 = some (.putfield 96, 3) := by decide +kernel
theorem c_65_164 : cd 65 164 = some (.aload_n 0, 1) := by decide +kernel
theorem c_65_165 : cd 65 165 = some (.aload_n 1, 1) := by decide +kernel
theorem c_65_166 : cd 65 166 = some (.getfield 99, 3) := by decide +kernel
theorem c_65_169 : cd 65 169 = some (.putfield 99, 3) := by decide +kernel
theorem c_65_172 : cd 65 172 = some (.return_, 1) := by decide +kernel
def f_St_become_53 : Nat → Nat → Nat → Int32 → Mm → Option Mm
  | 0, _, _, _, _ => none
  | n + 1, x0, x1, x2, σ => (if (16 : Int32) ≤ x2 then ((f_Dk_become (rfT x0 4) (rfT x1 4) σ).bind fun v88 => (f_Cp_become (rfT x0 5) (rfT x1 5) v88).bind fun v99 => nmM (cp2 v99 (rfT x1 6) (ix (0 : Int32)) (rfT x0 6) (ix (0 : Int32)) (ix (8 : Int32))) fun σ114 => nmM (cp2 σ114 (rfT x1 7) (ix (0 : Int32)) (rfT x0 7) (ix (0 : Int32)) (ix (10 : Int32))) fun σ129 => nmM (up2 σ129 x0 8 (σ129 x1 8)) fun σ137 => nmM (up2 σ137 x0 9 (σ137 x1 9)) fun σ145 => nmM (up2 σ145 x0 10 (σ145 x1 10)) fun σ153 => nmM (up2 σ153 x0 11 (σ153 x1 11)) fun σ161 => nmM (up2 σ161 x0 12 (σ161 x1 12)) fun σ169 => some σ169) else (if inbB x2 16 = true then if inbB x2 16 = true then (f_Ru_become (rfT (rfT x0 3) (ix x2)) (rfT (rfT x1 3) (ix x2)) σ).bind fun v71 => f_St_become_53  n x0 x1 (x2 + (1 : Int32)) v71 else none else none))
set_option maxRecDepth 100000 in
set_option maxHeartbeats 4000000 in
theorem t_St_become_53 {X : Xt} {S : Sh} (hS : ShOK S) {d : Nat} (hd : 7 ≤ d + 1) : ∀ (n : Nat) (x0 : Nat) (x1 : Nat) (x2 : Int32) (σ : Mm) (h_x0 : tgT x0 = 7) (h_x1 : tgT x1 = 7), Rf X S emV (f_St_become_53 n x0 x1 x2 σ) (d + 1) 65 53 [.ref x0, .ref x1, .int x2] [] σ := by
  intro n
  induction n with
  | zero => intro x0 x1 x2 σ h_x0 h_x1; exact rf_none
  | succ n ih =>
    intro x0 x1 x2 σ h_x0 h_x1
    rw [f_St_become_53]
    refine rf_ild (i := 2) (Or.inr ⟨2, rfl, rfl, rfl⟩) c_65_53 rfl ?_
    refine rf_bipush c_65_54 kb_16 ?_
    refine rf_ite (fun hc56 => ?_) (fun hc56 => ?_)
    · refine rf_b2t c_65_56 rfl (decide_eq_true hc56) ?_
      refine rf_ald (i := 0) (Or.inr ⟨0, rfl, rfl, rfl⟩) c_65_80 rfl ?_
      refine rf_getr hS c_65_81 rfl fl_7_40 rfl h_x0 ?_
      refine rf_ald (i := 1) (Or.inr ⟨1, rfl, rfl, rfl⟩) c_65_84 rfl ?_
      refine rf_getr hS c_65_85 rfl fl_7_40 rfl h_x1 ?_
      refine rf_callV (as := [.ref (rfT x0 4), .ref (rfT x1 4)]) (kd := 1) c_65_88 rfl (by decide) rfl ml_7_74 (by decide) rfl (rcv_1 hS rfl rfl (tf_7_4 h_x0) (by decide)) (Nat.zero_le _) rfl rfl (t_Dk_become hS (by omega) (rfT x0 4) (rfT x1 4) σ (tf_7_4 h_x0) (tf_7_4 h_x1)) (fun v88 => ?_)
      refine rf_ald (i := 0) (Or.inr ⟨0, rfl, rfl, rfl⟩) c_65_91 rfl ?_
      refine rf_getr hS c_65_92 rfl fl_7_47 rfl h_x0 ?_
      refine rf_ald (i := 1) (Or.inr ⟨1, rfl, rfl, rfl⟩) c_65_95 rfl ?_
      refine rf_getr hS c_65_96 rfl fl_7_47 rfl h_x1 ?_
      refine rf_callV (as := [.ref (rfT x0 5), .ref (rfT x1 5)]) (kd := 1) c_65_99 rfl (by decide) rfl ml_7_77 (by decide) rfl (rcv_1 hS rfl rfl (tf_7_5 h_x0) (by decide)) (Nat.zero_le _) rfl rfl (t_Cp_become hS (by omega) (rfT x0 5) (rfT x1 5) v88 (tf_7_5 h_x0) (tf_7_5 h_x1)) (fun v99 => ?_)
      refine rf_ald (i := 1) (Or.inr ⟨1, rfl, rfl, rfl⟩) c_65_102 rfl ?_
      refine rf_getr hS c_65_103 rfl fl_7_51 rfl h_x1 ?_
      refine rf_iconst c_65_106 ki_0 ?_
      refine rf_ald (i := 0) (Or.inr ⟨0, rfl, rfl, rfl⟩) c_65_107 rfl ?_
      refine rf_getr hS c_65_108 rfl fl_7_51 rfl h_x0 ?_
      refine rf_iconst c_65_111 ki_0 ?_
      refine rf_bipush c_65_112 kb_8 ?_
      refine rf_copy hS c_65_114 rfl ml_7_80 (by omega) (Nat.zero_le _) (tf_7_6 h_x1) (tf_7_6 h_x0) (lf_7_6 h_x1) (lf_7_6 h_x0) (by decide) ?_
      refine rf_nm (fun σ114 => ?_)
      refine rf_ald (i := 1) (Or.inr ⟨1, rfl, rfl, rfl⟩) c_65_117 rfl ?_
      refine rf_getr hS c_65_118 rfl fl_7_55 rfl h_x1 ?_
      refine rf_iconst c_65_121 ki_0 ?_
      refine rf_ald (i := 0) (Or.inr ⟨0, rfl, rfl, rfl⟩) c_65_122 rfl ?_
      refine rf_getr hS c_65_123 rfl fl_7_55 rfl h_x0 ?_
      refine rf_iconst c_65_126 ki_0 ?_
      refine rf_bipush c_65_127 kb_10 ?_
      refine rf_copy hS c_65_129 rfl ml_7_80 (by omega) (Nat.zero_le _) (tf_7_7 h_x1) (tf_7_7 h_x0) (lf_7_7 h_x1) (lf_7_7 h_x0) (by decide) ?_
      refine rf_nm (fun σ129 => ?_)
      refine rf_ald (i := 0) (Or.inr ⟨0, rfl, rfl, rfl⟩) c_65_132 rfl ?_
      refine rf_ald (i := 1) (Or.inr ⟨1, rfl, rfl, rfl⟩) c_65_133 rfl ?_
      refine rf_geti hS c_65_134 rfl fl_7_86 rfl h_x1 ?_
      refine rf_puti hS c_65_137 rfl fl_7_86 rfl rfl rfl rfl h_x0 ?_
      refine rf_nm (fun σ137 => ?_)
      refine rf_ald (i := 0) (Or.inr ⟨0, rfl, rfl, rfl⟩) c_65_140 rfl ?_
      refine rf_ald (i := 1) (Or.inr ⟨1, rfl, rfl, rfl⟩) c_65_141 rfl ?_
      refine rf_geti hS c_65_142 rfl fl_7_90 rfl h_x1 ?_
      refine rf_puti hS c_65_145 rfl fl_7_90 rfl rfl rfl rfl h_x0 ?_
      refine rf_nm (fun σ145 => ?_)
      refine rf_ald (i := 0) (Or.inr ⟨0, rfl, rfl, rfl⟩) c_65_148 rfl ?_
      refine rf_ald (i := 1) (Or.inr ⟨1, rfl, rfl, rfl⟩) c_65_149 rfl ?_
      refine rf_geti hS c_65_150 rfl fl_7_93 rfl h_x1 ?_
      refine rf_puti hS c_65_153 rfl fl_7_93 rfl rfl rfl rfl h_x0 ?_
      refine rf_nm (fun σ153 => ?_)
      refine rf_ald (i := 0) (Or.inr ⟨0, rfl, rfl, rfl⟩) c_65_156 rfl ?_
      refine rf_ald (i := 1) (Or.inr ⟨1, rfl, rfl, rfl⟩) c_65_157 rfl ?_
      refine rf_geti hS c_65_158 rfl fl_7_96 rfl h_x1 ?_
      refine rf_puti hS c_65_161 rfl fl_7_96 rfl rfl rfl rfl h_x0 ?_
      refine rf_nm (fun σ161 => ?_)
      refine rf_ald (i := 0) (Or.inr ⟨0, rfl, rfl, rfl⟩) c_65_164 rfl ?_
      refine rf_ald (i := 1) (Or.inr ⟨1, rfl, rfl, rfl⟩) c_65_165 rfl ?_
      refine rf_geti hS c_65_166 rfl fl_7_99 rfl h_x1 ?_
      refine rf_puti hS c_65_169 rfl fl_7_99 rfl rfl rfl rfl h_x0 ?_
      refine rf_nm (fun σ169 => ?_)
      exact rf_vret c_65_172 rfl rfl
    · refine rf_b2f c_65_56 rfl (decide_eq_false hc56) ?_
      refine rf_ald (i := 0) (Or.inr ⟨0, rfl, rfl, rfl⟩) c_65_59 rfl ?_
      refine rf_getr hS c_65_60 rfl fl_7_33 rfl h_x0 ?_
      refine rf_ild (i := 2) (Or.inr ⟨2, rfl, rfl, rfl⟩) c_65_63 rfl ?_
      refine rf_ite (fun hb64 => ?_) (fun _ => rf_none)
      refine rf_aald hS c_65_64 (by rw [(tf_7_3 h_x0)]; decide) (by rw [(tf_7_3 h_x0)]; decide) (lf_7_3 h_x0) hb64 ?_
      refine rf_ald (i := 1) (Or.inr ⟨1, rfl, rfl, rfl⟩) c_65_65 rfl ?_
      refine rf_getr hS c_65_66 rfl fl_7_33 rfl h_x1 ?_
      refine rf_ild (i := 2) (Or.inr ⟨2, rfl, rfl, rfl⟩) c_65_69 rfl ?_
      refine rf_ite (fun hb70 => ?_) (fun _ => rf_none)
      refine rf_aald hS c_65_70 (by rw [(tf_7_3 h_x1)]; decide) (by rw [(tf_7_3 h_x1)]; decide) (lf_7_3 h_x1) hb70 ?_
      refine rf_callV (as := [.ref (rfT (rfT x0 3) (ix x2)), .ref (rfT (rfT x1 3) (ix x2))]) (kd := 1) c_65_71 rfl (by decide) rfl ml_7_71 (by decide) rfl (rcv_1 hS rfl rfl (te_35 (tf_7_3 h_x0) hb64) (by decide)) (Nat.zero_le _) rfl rfl (t_Ru_become hS (by omega) (rfT (rfT x0 3) (ix x2)) (rfT (rfT x1 3) (ix x2)) σ (te_35 (tf_7_3 h_x0) hb64) (te_35 (tf_7_3 h_x1) hb70)) (fun v71 => ?_)
      refine rf_iinc c_65_74 rfl ki_1 rfl ?_
      refine rf_goto c_65_77 rfl ?_
      exact ih x0 x1 (x2 + (1 : Int32)) v71 h_x0 h_x1
def f_St_become_24 : Nat → Nat → Nat → Int32 → Mm → Option Mm
  | 0, _, _, _, _ => none
  | n + 1, x0, x1, x2, σ => (if (24 : Int32) ≤ x2 then (f_St_become_53  NN x0 x1 (0 : Int32) σ) else (if inbB x2 24 = true then if inbB x2 24 = true then (f_Pa_become (rfT (rfT x0 2) (ix x2)) (rfT (rfT x1 2) (ix x2)) σ).bind fun v42 => f_St_become_24  n x0 x1 (x2 + (1 : Int32)) v42 else none else none))
set_option maxRecDepth 100000 in
set_option maxHeartbeats 4000000 in
theorem t_St_become_24 {X : Xt} {S : Sh} (hS : ShOK S) {d : Nat} (hd : 7 ≤ d + 1) : ∀ (n : Nat) (x0 : Nat) (x1 : Nat) (x2 : Int32) (σ : Mm) (h_x0 : tgT x0 = 7) (h_x1 : tgT x1 = 7), Rf X S emV (f_St_become_24 n x0 x1 x2 σ) (d + 1) 65 24 [.ref x0, .ref x1, .int x2] [] σ := by
  intro n
  induction n with
  | zero => intro x0 x1 x2 σ h_x0 h_x1; exact rf_none
  | succ n ih =>
    intro x0 x1 x2 σ h_x0 h_x1
    rw [f_St_become_24]
    refine rf_ild (i := 2) (Or.inr ⟨2, rfl, rfl, rfl⟩) c_65_24 rfl ?_
    refine rf_bipush c_65_25 kb_24 ?_
    refine rf_ite (fun hc27 => ?_) (fun hc27 => ?_)
    · refine rf_b2t c_65_27 rfl (decide_eq_true hc27) ?_
      refine rf_iconst c_65_51 ki_0 ?_
      refine rf_ist (i := 2) (Or.inr ⟨2, rfl, rfl, rfl⟩) c_65_52 (Nat.le_of_ble_eq_true rfl) rfl ?_
      exact t_St_become_53 hS hd  NN x0 x1 (0 : Int32) σ h_x0 h_x1
    · refine rf_b2f c_65_27 rfl (decide_eq_false hc27) ?_
      refine rf_ald (i := 0) (Or.inr ⟨0, rfl, rfl, rfl⟩) c_65_30 rfl ?_
      refine rf_getr hS c_65_31 rfl fl_7_27 rfl h_x0 ?_
      refine rf_ild (i := 2) (Or.inr ⟨2, rfl, rfl, rfl⟩) c_65_34 rfl ?_
      refine rf_ite (fun hb35 => ?_) (fun _ => rf_none)
      refine rf_aald hS c_65_35 (by rw [(tf_7_2 h_x0)]; decide) (by rw [(tf_7_2 h_x0)]; decide) (lf_7_2 h_x0) hb35 ?_
      refine rf_ald (i := 1) (Or.inr ⟨1, rfl, rfl, rfl⟩) c_65_36 rfl ?_
      refine rf_getr hS c_65_37 rfl fl_7_27 rfl h_x1 ?_
      refine rf_ild (i := 2) (Or.inr ⟨2, rfl, rfl, rfl⟩) c_65_40 rfl ?_
      refine rf_ite (fun hb41 => ?_) (fun _ => rf_none)
      refine rf_aald hS c_65_41 (by rw [(tf_7_2 h_x1)]; decide) (by rw [(tf_7_2 h_x1)]; decide) (lf_7_2 h_x1) hb41 ?_
      refine rf_callV (as := [.ref (rfT (rfT x0 2) (ix x2)), .ref (rfT (rfT x1 2) (ix x2))]) (kd := 1) c_65_42 rfl (by decide) rfl ml_7_68 (by decide) rfl (rcv_1 hS rfl rfl (te_33 (tf_7_2 h_x0) hb35) (by decide)) (Nat.zero_le _) rfl rfl (t_Pa_become hS (by omega) (rfT (rfT x0 2) (ix x2)) (rfT (rfT x1 2) (ix x2)) σ (te_33 (tf_7_2 h_x0) hb35) (te_33 (tf_7_2 h_x1) hb41)) (fun v42 => ?_)
      refine rf_iinc c_65_45 rfl ki_1 rfl ?_
      refine rf_goto c_65_48 rfl ?_
      exact ih x0 x1 (x2 + (1 : Int32)) v42 h_x0 h_x1
def f_St_become (x0 : Nat) (x1 : Nat) (σ : Mm) : Option Mm := (f_Ho_become (rfT x0 0) (rfT x1 0) σ).bind fun v8 => (f_Tb_become (rfT x0 1) (rfT x1 1) v8).bind fun v19 => f_St_become_24  NN x0 x1 (0 : Int32) v19
set_option maxRecDepth 100000 in
set_option maxHeartbeats 4000000 in
theorem t_St_become_e {X : Xt} {S : Sh} (hS : ShOK S) {d : Nat} (hd : 7 ≤ d + 1) (x0 : Nat) (x1 : Nat) (σ : Mm) (h_x0 : tgT x0 = 7) (h_x1 : tgT x1 = 7) : Rf X S emV (f_St_become x0 x1 σ) (d + 1) 65 0 [.ref x0, .ref x1, unset0] [] σ := by
  unfold f_St_become
  refine rf_ald (i := 0) (Or.inr ⟨0, rfl, rfl, rfl⟩) c_65_0 rfl ?_
  refine rf_getr hS c_65_1 rfl fl_7_12 rfl h_x0 ?_
  refine rf_ald (i := 1) (Or.inr ⟨1, rfl, rfl, rfl⟩) c_65_4 rfl ?_
  refine rf_getr hS c_65_5 rfl fl_7_12 rfl h_x1 ?_
  refine rf_callV (as := [.ref (rfT x0 0), .ref (rfT x1 0)]) (kd := 1) c_65_8 rfl (by decide) rfl ml_7_61 (by decide) rfl (rcv_1 hS rfl rfl (tf_7_0 h_x0) (by decide)) (Nat.zero_le _) rfl rfl (t_Ho_become hS (by omega) (rfT x0 0) (rfT x1 0) σ (tf_7_0 h_x0) (tf_7_0 h_x1)) (fun v8 => ?_)
  refine rf_ald (i := 0) (Or.inr ⟨0, rfl, rfl, rfl⟩) c_65_11 rfl ?_
  refine rf_getr hS c_65_12 rfl fl_7_21 rfl h_x0 ?_
  refine rf_ald (i := 1) (Or.inr ⟨1, rfl, rfl, rfl⟩) c_65_15 rfl ?_
  refine rf_getr hS c_65_16 rfl fl_7_21 rfl h_x1 ?_
  refine rf_callV (as := [.ref (rfT x0 1), .ref (rfT x1 1)]) (kd := 1) c_65_19 rfl (by decide) rfl ml_7_65 (by decide) rfl (rcv_1 hS rfl rfl (tf_7_1 h_x0) (by decide)) (Nat.zero_le _) rfl rfl (t_Tb_become hS (by omega) (rfT x0 1) (rfT x1 1) v8 (tf_7_1 h_x0) (tf_7_1 h_x1)) (fun v19 => ?_)
  refine rf_iconst c_65_22 ki_0 ?_
  refine rf_ist (i := 2) (Or.inr ⟨2, rfl, rfl, rfl⟩) c_65_23 (Nat.le_of_ble_eq_true rfl) rfl ?_
  exact t_St_become_24 hS hd  NN x0 x1 (0 : Int32) v19 h_x0 h_x1
theorem t_St_become {X : Xt} {S : Sh} (hS : ShOK S) {d : Nat} (hd : 7 ≤ d) (x0 : Nat) (x1 : Nat) (σ : Mm) (h_x0 : tgT x0 = 7) (h_x1 : tgT x1 = 7) : Rf X S emV (f_St_become x0 x1 σ) d 65 0 [.ref x0, .ref x1, unset0] [] σ := by
  obtain ⟨d1, rfl⟩ : ∃ d1, d = d1 + 1 := ⟨d - 1, by omega⟩
  exact t_St_become_e hS hd x0 x1 σ h_x0 h_x1
theorem c_66_0 : cd 66 0 = some (.iconst (0), 1) := by decide +kernel
theorem c_66_1 : cd 66 1 = some (.istore_n 2, 1) := by decide +kernel
theorem c_66_2 : cd 66 2 = some (.iconst (0), 1) := by decide +kernel
theorem c_66_3 : cd 66 3 = some (.istore_n 3, 1) := by decide +kernel
theorem c_66_4 : cd 66 4 = some (.aload_n 0, 1) := by decide +kernel
theorem c_66_5 : cd 66 5 = some (.getfield 96, 3) := by decide +kernel
theorem c_66_8 : cd 66 8 = some (.iconst (1), 1) := by decide +kernel
theorem c_66_9 : cd 66 9 = some (.isub, 1) := by decide +kernel
theorem c_66_10 : cd 66 10 = some (.istore 4, 2) := by decide +kernel
theorem c_66_12 : cd 66 12 = some (.iload 4, 2) := by decide +kernel
theorem c_66_14 : cd 66 14 = some (.ifCond .lt (70), 3) := by decide +kernel
theorem c_66_17 : cd 66 17 = some (.aload_n 0, 1) := by decide +kernel
theorem c_66_18 : cd 66 18 = some (.getfield 33, 3) := by decide +kernel
theorem c_66_21 : cd 66 21 = some (.iload 4, 2) := by decide +kernel
theorem c_66_23 : cd 66 23 = some (.aaload, 1) := by decide +kernel
theorem c_66_24 : cd 66 24 = some (.astore 5, 2) := by decide +kernel
theorem c_66_26 : cd 66 26 = some (.iload_n 3, 1) := by decide +kernel
theorem c_66_27 : cd 66 27 = some (.iload 4, 2) := by decide +kernel
theorem c_66_29 : cd 66 29 = some (.ishr, 1) := by decide +kernel
theorem c_66_30 : cd 66 30 = some (.iconst (1), 1) := by decide +kernel
theorem c_66_31 : cd 66 31 = some (.iand, 1) := by decide +kernel
theorem c_66_32 : cd 66 32 = some (.ifCond .ne (46), 3) := by decide +kernel
theorem c_66_35 : cd 66 35 = some (.aload 5, 2) := by decide +kernel
theorem c_66_37 : cd 66 37 = some (.aload_n 1, 1) := by decide +kernel
theorem c_66_38 : cd 66 38 = some (.aload_n 0, 1) := by decide +kernel
theorem c_66_39 : cd 66 39 = some (.getfield 86, 3) := by decide +kernel
theorem c_66_42 : cd 66 42 = some (.aload_n 0, 1) := by decide +kernel
theorem c_66_43 : cd 66 43 = some (.getfield 90, 3) := by decide +kernel
theorem c_66_46 : cd 66 46 = some (.invokevirtual 102, 3) := by decide +kernel
theorem c_66_49 : cd 66 49 = some (.ifCond .eq (29), 3) := by decide +kernel
theorem c_66_52 : cd 66 52 = some (.iload_n 2, 1) := by decide +kernel
theorem c_66_53 : cd 66 53 = some (.iconst (1), 1) := by decide +kernel
theorem c_66_54 : cd 66 54 = some (.iload 4, 2) := by decide +kernel
theorem c_66_56 : cd 66 56 = some (.ishl, 1) := by decide +kernel
theorem c_66_57 : cd 66 57 = some (.ior, 1) := by decide +kernel
theorem c_66_58 : cd 66 58 = some (.istore_n 2, 1) := by decide +kernel
theorem c_66_59 : cd 66 59 = some (.aload 5, 2) := by decide +kernel
theorem c_66_61 : cd 66 61 = some (.getfield 106, 3) := by decide +kernel
theorem c_66_64 : cd 66 64 = some (.iconst (5), 1) := by decide +kernel
theorem c_66_65 : cd 66 65 = some (.if_icmp .ne (13), 3) := by decide +kernel
theorem c_66_68 : cd 66 68 = some (.iload_n 3, 1) := by decide +kernel
theorem c_66_69 : cd 66 69 = some (.iconst (1), 1) := by decide +kernel
theorem c_66_70 : cd 66 70 = some (.aload 5, 2) := by decide +kernel
theorem c_66_72 : cd 66 72 = some (.getfield 109, 3) := by decide +kernel
theorem c_66_75 : cd 66 75 = some (.ishl, 1) := by decide +kernel
theorem c_66_76 : cd 66 76 = some (.ior, 1) := by decide +kernel
theorem c_66_77 : cd 66 77 = some (.istore_n 3, 1) := by decide +kernel
theorem c_66_78 : cd 66 78 = some (.iinc 4 (-1), 3) := by decide +kernel
theorem c_66_81 : cd 66 81 = some (.goto (-69), 3) := by decide +kernel
theorem c_66_84 : cd 66 84 = some (.iload_n 2, 1) := by decide +kernel
theorem c_66_85 : cd 66 85 = some (.ireturn, 1) := by decide +kernel
def f_St_countingRules_78 (σ : Mm) (k12 : Nat → Nat → Int32 → Int32 → Int32 → Option (Int32)) (x0 : Nat) (x1 : Nat) (x2 : Int32) (x3 : Int32) (x4 : Int32) : Option Int32 := k12 x0 x1 x2 x3 (x4 + (-1 : Int32))
set_option maxRecDepth 100000 in
set_option maxHeartbeats 4000000 in
theorem t_St_countingRules_78 {X : Xt} {S : Sh} (hS : ShOK S) {d : Nat} (hd : 3 ≤ d + 1) (σ : Mm) {k12 : Nat → Nat → Int32 → Int32 → Int32 → Option (Int32)} (hk12 : ∀ (x0 : Nat) (x1 : Nat) (x2 : Int32) (x3 : Int32) (x4 : Int32) (u5 : Value) (h_x0 : tgT x0 = 7) (h_x1 : tgT x1 = 3), Rf X S (emI σ) (k12 x0 x1 x2 x3 x4) (d + 1) 66 12 [.ref x0, .ref x1, .int x2, .int x3, .int x4, u5] [] σ) (x0 : Nat) (x1 : Nat) (x2 : Int32) (x3 : Int32) (x4 : Int32) (u5 : Value) (h_x0 : tgT x0 = 7) (h_x1 : tgT x1 = 3) : Rf X S (emI σ) (f_St_countingRules_78 σ k12 x0 x1 x2 x3 x4) (d + 1) 66 78 [.ref x0, .ref x1, .int x2, .int x3, .int x4, u5] [] σ := by
  unfold f_St_countingRules_78
  refine rf_iinc c_66_78 rfl ki_m1 rfl ?_
  refine rf_goto c_66_81 rfl ?_
  exact hk12 x0 x1 x2 x3 (x4 + (-1 : Int32)) (u5) h_x0 h_x1
def f_St_countingRules_12 (σ : Mm) : Nat → Nat → Nat → Int32 → Int32 → Int32 → Option Int32
  | 0, _, _, _, _, _ => none
  | n + 1, x0, x1, x2, x3, x4 => (if x4 < 0 then (some x2) else (if inbB x4 16 = true then (if ¬ ((x3 >>> (x4 &&& 31)) &&& (1 : Int32)) = 0 then (f_St_countingRules_78 σ (f_St_countingRules_12 σ n) x0 x1 x2 x3 x4) else ((f_Ru_fits σ (rfT (rfT x0 3) (ix x4)) x1 (σ x0 8) (σ x0 9)).bind fun v46 => (if v46 = 0 then (f_St_countingRules_78 σ (f_St_countingRules_12 σ n) x0 x1 x2 x3 x4) else (if ¬ (σ (rfT (rfT x0 3) (ix x4)) 0) = (5 : Int32) then (f_St_countingRules_78 σ (f_St_countingRules_12 σ n) x0 x1 (x2 ||| ((1 : Int32) <<< (x4 &&& 31))) x3 x4) else (f_St_countingRules_78 σ (f_St_countingRules_12 σ n) x0 x1 (x2 ||| ((1 : Int32) <<< (x4 &&& 31))) (x3 ||| ((1 : Int32) <<< ((σ (rfT (rfT x0 3) (ix x4)) 1) &&& 31))) x4))))) else none))
set_option maxRecDepth 100000 in
set_option maxHeartbeats 4000000 in
theorem t_St_countingRules_12 {X : Xt} {S : Sh} (hS : ShOK S) {d : Nat} (hd : 3 ≤ d + 1) (σ : Mm) : ∀ (n : Nat) (x0 : Nat) (x1 : Nat) (x2 : Int32) (x3 : Int32) (x4 : Int32) (u5 : Value) (h_x0 : tgT x0 = 7) (h_x1 : tgT x1 = 3), Rf X S (emI σ) (f_St_countingRules_12 σ n x0 x1 x2 x3 x4) (d + 1) 66 12 [.ref x0, .ref x1, .int x2, .int x3, .int x4, u5] [] σ := by
  intro n
  induction n with
  | zero => intro x0 x1 x2 x3 x4 u5 h_x0 h_x1; exact rf_none
  | succ n ih =>
    intro x0 x1 x2 x3 x4 u5 h_x0 h_x1
    rw [f_St_countingRules_12]
    refine rf_ild (i := 4) (Or.inl ⟨rfl, rfl⟩) c_66_12 rfl ?_
    refine rf_ite (fun hc14 => ?_) (fun hc14 => ?_)
    · refine rf_b1t c_66_14 rfl (decide_eq_true hc14) ?_
      refine rf_ild (i := 2) (Or.inr ⟨2, rfl, rfl, rfl⟩) c_66_84 rfl ?_
      exact rf_ret c_66_85 rfl rfl rfl rfl
    · refine rf_b1f c_66_14 rfl (decide_eq_false hc14) ?_
      refine rf_ald (i := 0) (Or.inr ⟨0, rfl, rfl, rfl⟩) c_66_17 rfl ?_
      refine rf_getr hS c_66_18 rfl fl_7_33 rfl h_x0 ?_
      refine rf_ild (i := 4) (Or.inl ⟨rfl, rfl⟩) c_66_21 rfl ?_
      refine rf_ite (fun hb23 => ?_) (fun _ => rf_none)
      refine rf_aald hS c_66_23 (by rw [(tf_7_3 h_x0)]; decide) (by rw [(tf_7_3 h_x0)]; decide) (lf_7_3 h_x0) hb23 ?_
      refine rf_ast (i := 5) (Or.inl ⟨rfl, rfl⟩) c_66_24 (Nat.le_of_ble_eq_true rfl) rfl ?_
      refine rf_ild (i := 3) (Or.inr ⟨3, rfl, rfl, rfl⟩) c_66_26 rfl ?_
      refine rf_ild (i := 4) (Or.inl ⟨rfl, rfl⟩) c_66_27 rfl ?_
      refine rf_ishr c_66_29 ?_
      refine rf_iconst c_66_30 ki_1 ?_
      refine rf_iand c_66_31 ?_
      refine rf_ite (fun hc32 => ?_) (fun hc32 => ?_)
      · refine rf_b1t c_66_32 rfl (decide_eq_true hc32) ?_
        exact t_St_countingRules_78 hS hd σ ih x0 x1 x2 x3 x4 (.ref (rfT (rfT x0 3) (ix x4))) h_x0 h_x1
      · refine rf_b1f c_66_32 rfl (decide_eq_false hc32) ?_
        refine rf_ald (i := 5) (Or.inl ⟨rfl, rfl⟩) c_66_35 rfl ?_
        refine rf_ald (i := 1) (Or.inr ⟨1, rfl, rfl, rfl⟩) c_66_37 rfl ?_
        refine rf_ald (i := 0) (Or.inr ⟨0, rfl, rfl, rfl⟩) c_66_38 rfl ?_
        refine rf_geti hS c_66_39 rfl fl_7_86 rfl h_x0 ?_
        refine rf_ald (i := 0) (Or.inr ⟨0, rfl, rfl, rfl⟩) c_66_42 rfl ?_
        refine rf_geti hS c_66_43 rfl fl_7_90 rfl h_x0 ?_
        refine rf_callI (as := [.ref (rfT (rfT x0 3) (ix x4)), .ref x1, .int (σ x0 8), .int (σ x0 9)]) (kd := 1) c_66_46 rfl (by decide) rfl ml_7_102 (by decide) rfl (rcv_1 hS rfl rfl (te_35 (tf_7_3 h_x0) hb23) (by decide)) (Nat.zero_le _) rfl rfl (t_Ru_fits hS (by omega) σ (rfT (rfT x0 3) (ix x4)) x1 (σ x0 8) (σ x0 9) (te_35 (tf_7_3 h_x0) hb23) h_x1) (fun v46 => ?_)
        refine rf_ite (fun hc49 => ?_) (fun hc49 => ?_)
        · refine rf_b1t c_66_49 rfl (decide_eq_true hc49) ?_
          exact t_St_countingRules_78 hS hd σ ih x0 x1 x2 x3 x4 (.ref (rfT (rfT x0 3) (ix x4))) h_x0 h_x1
        · refine rf_b1f c_66_49 rfl (decide_eq_false hc49) ?_
          refine rf_ild (i := 2) (Or.inr ⟨2, rfl, rfl, rfl⟩) c_66_52 rfl ?_
          refine rf_iconst c_66_53 ki_1 ?_
          refine rf_ild (i := 4) (Or.inl ⟨rfl, rfl⟩) c_66_54 rfl ?_
          refine rf_ishl c_66_56 ?_
          refine rf_ior c_66_57 ?_
          refine rf_ist (i := 2) (Or.inr ⟨2, rfl, rfl, rfl⟩) c_66_58 (Nat.le_of_ble_eq_true rfl) rfl ?_
          refine rf_ald (i := 5) (Or.inl ⟨rfl, rfl⟩) c_66_59 rfl ?_
          refine rf_geti hS c_66_61 rfl fl_7_106 rfl (te_35 (tf_7_3 h_x0) hb23) ?_
          refine rf_iconst c_66_64 ki_5 ?_
          refine rf_ite (fun hc65 => ?_) (fun hc65 => ?_)
          · refine rf_b2t c_66_65 rfl (decide_eq_true hc65) ?_
            exact t_St_countingRules_78 hS hd σ ih x0 x1 (x2 ||| ((1 : Int32) <<< (x4 &&& 31))) x3 x4 (.ref (rfT (rfT x0 3) (ix x4))) h_x0 h_x1
          · refine rf_b2f c_66_65 rfl (decide_eq_false hc65) ?_
            refine rf_ild (i := 3) (Or.inr ⟨3, rfl, rfl, rfl⟩) c_66_68 rfl ?_
            refine rf_iconst c_66_69 ki_1 ?_
            refine rf_ald (i := 5) (Or.inl ⟨rfl, rfl⟩) c_66_70 rfl ?_
            refine rf_geti hS c_66_72 rfl fl_7_109 rfl (te_35 (tf_7_3 h_x0) hb23) ?_
            refine rf_ishl c_66_75 ?_
            refine rf_ior c_66_76 ?_
            refine rf_ist (i := 3) (Or.inr ⟨3, rfl, rfl, rfl⟩) c_66_77 (Nat.le_of_ble_eq_true rfl) rfl ?_
            exact t_St_countingRules_78 hS hd σ ih x0 x1 (x2 ||| ((1 : Int32) <<< (x4 &&& 31))) (x3 ||| ((1 : Int32) <<< ((σ (rfT (rfT x0 3) (ix x4)) 1) &&& 31))) x4 (.ref (rfT (rfT x0 3) (ix x4))) h_x0 h_x1
def f_St_countingRules (σ : Mm) (x0 : Nat) (x1 : Nat) : Option Int32 := f_St_countingRules_12 σ NN x0 x1 (0 : Int32) (0 : Int32) ((σ x0 11) - (1 : Int32))
set_option maxRecDepth 100000 in
set_option maxHeartbeats 4000000 in
theorem t_St_countingRules_e {X : Xt} {S : Sh} (hS : ShOK S) {d : Nat} (hd : 3 ≤ d + 1) (σ : Mm) (x0 : Nat) (x1 : Nat) (h_x0 : tgT x0 = 7) (h_x1 : tgT x1 = 3) : Rf X S (emI σ) (f_St_countingRules σ x0 x1) (d + 1) 66 0 [.ref x0, .ref x1, unset0, unset0, unset0, unset0] [] σ := by
  unfold f_St_countingRules
  refine rf_iconst c_66_0 ki_0 ?_
  refine rf_ist (i := 2) (Or.inr ⟨2, rfl, rfl, rfl⟩) c_66_1 (Nat.le_of_ble_eq_true rfl) rfl ?_
  refine rf_iconst c_66_2 ki_0 ?_
  refine rf_ist (i := 3) (Or.inr ⟨3, rfl, rfl, rfl⟩) c_66_3 (Nat.le_of_ble_eq_true rfl) rfl ?_
  refine rf_ald (i := 0) (Or.inr ⟨0, rfl, rfl, rfl⟩) c_66_4 rfl ?_
  refine rf_geti hS c_66_5 rfl fl_7_96 rfl h_x0 ?_
  refine rf_iconst c_66_8 ki_1 ?_
  refine rf_isub c_66_9 ?_
  refine rf_ist (i := 4) (Or.inl ⟨rfl, rfl⟩) c_66_10 (Nat.le_of_ble_eq_true rfl) rfl ?_
  exact t_St_countingRules_12 hS hd σ  NN x0 x1 (0 : Int32) (0 : Int32) ((σ x0 11) - (1 : Int32)) (unset0) h_x0 h_x1
theorem t_St_countingRules {X : Xt} {S : Sh} (hS : ShOK S) {d : Nat} (hd : 3 ≤ d) (σ : Mm) (x0 : Nat) (x1 : Nat) (h_x0 : tgT x0 = 7) (h_x1 : tgT x1 = 3) : Rf X S (emI σ) (f_St_countingRules σ x0 x1) d 66 0 [.ref x0, .ref x1, unset0, unset0, unset0, unset0] [] σ := by
  obtain ⟨d1, rfl⟩ : ∃ d1, d = d1 + 1 := ⟨d - 1, by omega⟩
  exact t_St_countingRules_e hS hd σ x0 x1 h_x0 h_x1
theorem c_67_0 : cd 67 0 = some (.aload_n 0, 1) := by decide +kernel
theorem c_67_1 : cd 67 1 = some (.getfield 96, 3) := by decide +kernel
theorem c_67_4 : cd 67 4 = some (.iconst (1), 1) := by decide +kernel
theorem c_67_5 : cd 67 5 = some (.isub, 1) := by decide +kernel
theorem c_67_6 : cd 67 6 = some (.istore_n 3, 1) := by decide +kernel
theorem c_67_7 : cd 67 7 = some (.iload_n 3, 1) := by decide +kernel
theorem c_67_8 : cd 67 8 = some (.ifCond .lt (33), 3) := by decide +kernel
theorem c_67_11 : cd 67 11 = some (.iload_n 1, 1) := by decide +kernel
theorem c_67_12 : cd 67 12 = some (.iload_n 3, 1) := by decide +kernel
theorem c_67_13 : cd 67 13 = some (.ishr, 1) := by decide +kernel
theorem c_67_14 : cd 67 14 = some (.iconst (1), 1) := by decide +kernel
theorem c_67_15 : cd 67 15 = some (.iand, 1) := by decide +kernel
theorem c_67_16 : cd 67 16 = some (.iconst (1), 1) := by decide +kernel
theorem c_67_17 : cd 67 17 = some (.if_icmp .ne (18), 3) := by decide +kernel
theorem c_67_20 : cd 67 20 = some (.aload_n 0, 1) := by decide +kernel
theorem c_67_21 : cd 67 21 = some (.getfield 33, 3) := by decide +kernel
theorem c_67_24 : cd 67 24 = some (.iload_n 3, 1) := by decide +kernel
theorem c_67_25 : cd 67 25 = some (.aaload, 1) := by decide +kernel
theorem c_67_26 : cd 67 26 = some (.getfield 106, 3) := by decide +kernel
theorem c_67_29 : cd 67 29 = some (.iload_n 2, 1) := by decide +kernel
theorem c_67_30 : cd 67 30 = some (.if_icmp .ne (5), 3) := by decide +kernel
theorem c_67_33 : cd 67 33 = some (.iload_n 3, 1) := by decide +kernel
theorem c_67_34 : cd 67 34 = some (.ireturn, 1) := by decide +kernel
theorem c_67_35 : cd 67 35 = some (.iinc 3 (-1), 3) := by decide +kernel
theorem c_67_38 : cd 67 38 = some (.goto (-31), 3) := by decide +kernel
theorem c_67_41 : cd 67 41 = some (.ldc 60, 2) := by decide +kernel
theorem c_67_43 : cd 67 43 = some (.ireturn, 1) := by decide +kernel
def f_St_greatestRule_35 (σ : Mm) (k7 : Nat → Int32 → Int32 → Int32 → Option (Int32)) (x0 : Nat) (x1 : Int32) (x2 : Int32) (x3 : Int32) : Option Int32 := k7 x0 x1 x2 (x3 + (-1 : Int32))
set_option maxRecDepth 100000 in
set_option maxHeartbeats 4000000 in
theorem t_St_greatestRule_35 {X : Xt} {S : Sh} (hS : ShOK S) {d : Nat} (hd : 0 ≤ d) (σ : Mm) {k7 : Nat → Int32 → Int32 → Int32 → Option (Int32)} (hk7 : ∀ (x0 : Nat) (x1 : Int32) (x2 : Int32) (x3 : Int32) (h_x0 : tgT x0 = 7), Rf X S (emI σ) (k7 x0 x1 x2 x3) d 67 7 [.ref x0, .int x1, .int x2, .int x3] [] σ) (x0 : Nat) (x1 : Int32) (x2 : Int32) (x3 : Int32) (h_x0 : tgT x0 = 7) : Rf X S (emI σ) (f_St_greatestRule_35 σ k7 x0 x1 x2 x3) d 67 35 [.ref x0, .int x1, .int x2, .int x3] [] σ := by
  unfold f_St_greatestRule_35
  refine rf_iinc c_67_35 rfl ki_m1 rfl ?_
  refine rf_goto c_67_38 rfl ?_
  exact hk7 x0 x1 x2 (x3 + (-1 : Int32)) h_x0
def f_St_greatestRule_7 (σ : Mm) : Nat → Nat → Int32 → Int32 → Int32 → Option Int32
  | 0, _, _, _, _ => none
  | n + 1, x0, x1, x2, x3 => (if x3 < 0 then (some (-1000000005 : Int32)) else (if ¬ ((x1 >>> (x3 &&& 31)) &&& (1 : Int32)) = (1 : Int32) then (f_St_greatestRule_35 σ (f_St_greatestRule_7 σ n) x0 x1 x2 x3) else (if inbB x3 16 = true then (if ¬ (σ (rfT (rfT x0 3) (ix x3)) 0) = x2 then (f_St_greatestRule_35 σ (f_St_greatestRule_7 σ n) x0 x1 x2 x3) else (some x3)) else none)))
set_option maxRecDepth 100000 in
set_option maxHeartbeats 4000000 in
theorem t_St_greatestRule_7 {X : Xt} {S : Sh} (hS : ShOK S) {d : Nat} (hd : 0 ≤ d) (σ : Mm) : ∀ (n : Nat) (x0 : Nat) (x1 : Int32) (x2 : Int32) (x3 : Int32) (h_x0 : tgT x0 = 7), Rf X S (emI σ) (f_St_greatestRule_7 σ n x0 x1 x2 x3) d 67 7 [.ref x0, .int x1, .int x2, .int x3] [] σ := by
  intro n
  induction n with
  | zero => intro x0 x1 x2 x3 h_x0; exact rf_none
  | succ n ih =>
    intro x0 x1 x2 x3 h_x0
    rw [f_St_greatestRule_7]
    refine rf_ild (i := 3) (Or.inr ⟨3, rfl, rfl, rfl⟩) c_67_7 rfl ?_
    refine rf_ite (fun hc8 => ?_) (fun hc8 => ?_)
    · refine rf_b1t c_67_8 rfl (decide_eq_true hc8) ?_
      refine rf_ldc (Or.inl ⟨rfl, rfl⟩) c_67_41 rfl kl_7_60 ?_
      exact rf_ret c_67_43 rfl rfl rfl rfl
    · refine rf_b1f c_67_8 rfl (decide_eq_false hc8) ?_
      refine rf_ild (i := 1) (Or.inr ⟨1, rfl, rfl, rfl⟩) c_67_11 rfl ?_
      refine rf_ild (i := 3) (Or.inr ⟨3, rfl, rfl, rfl⟩) c_67_12 rfl ?_
      refine rf_ishr c_67_13 ?_
      refine rf_iconst c_67_14 ki_1 ?_
      refine rf_iand c_67_15 ?_
      refine rf_iconst c_67_16 ki_1 ?_
      refine rf_ite (fun hc17 => ?_) (fun hc17 => ?_)
      · refine rf_b2t c_67_17 rfl (decide_eq_true hc17) ?_
        exact t_St_greatestRule_35 hS hd σ ih x0 x1 x2 x3 h_x0
      · refine rf_b2f c_67_17 rfl (decide_eq_false hc17) ?_
        refine rf_ald (i := 0) (Or.inr ⟨0, rfl, rfl, rfl⟩) c_67_20 rfl ?_
        refine rf_getr hS c_67_21 rfl fl_7_33 rfl h_x0 ?_
        refine rf_ild (i := 3) (Or.inr ⟨3, rfl, rfl, rfl⟩) c_67_24 rfl ?_
        refine rf_ite (fun hb25 => ?_) (fun _ => rf_none)
        refine rf_aald hS c_67_25 (by rw [(tf_7_3 h_x0)]; decide) (by rw [(tf_7_3 h_x0)]; decide) (lf_7_3 h_x0) hb25 ?_
        refine rf_geti hS c_67_26 rfl fl_7_106 rfl (te_35 (tf_7_3 h_x0) hb25) ?_
        refine rf_ild (i := 2) (Or.inr ⟨2, rfl, rfl, rfl⟩) c_67_29 rfl ?_
        refine rf_ite (fun hc30 => ?_) (fun hc30 => ?_)
        · refine rf_b2t c_67_30 rfl (decide_eq_true hc30) ?_
          exact t_St_greatestRule_35 hS hd σ ih x0 x1 x2 x3 h_x0
        · refine rf_b2f c_67_30 rfl (decide_eq_false hc30) ?_
          refine rf_ild (i := 3) (Or.inr ⟨3, rfl, rfl, rfl⟩) c_67_33 rfl ?_
          exact rf_ret c_67_34 rfl rfl rfl rfl
def f_St_greatestRule (σ : Mm) (x0 : Nat) (x1 : Int32) (x2 : Int32) : Option Int32 := f_St_greatestRule_7 σ NN x0 x1 x2 ((σ x0 11) - (1 : Int32))
set_option maxRecDepth 100000 in
set_option maxHeartbeats 4000000 in
theorem t_St_greatestRule {X : Xt} {S : Sh} (hS : ShOK S) {d : Nat} (hd : 0 ≤ d) (σ : Mm) (x0 : Nat) (x1 : Int32) (x2 : Int32) (h_x0 : tgT x0 = 7) : Rf X S (emI σ) (f_St_greatestRule σ x0 x1 x2) d 67 0 [.ref x0, .int x1, .int x2, unset0] [] σ := by
  unfold f_St_greatestRule
  refine rf_ald (i := 0) (Or.inr ⟨0, rfl, rfl, rfl⟩) c_67_0 rfl ?_
  refine rf_geti hS c_67_1 rfl fl_7_96 rfl h_x0 ?_
  refine rf_iconst c_67_4 ki_1 ?_
  refine rf_isub c_67_5 ?_
  refine rf_ist (i := 3) (Or.inr ⟨3, rfl, rfl, rfl⟩) c_67_6 (Nat.le_of_ble_eq_true rfl) rfl ?_
  exact t_St_greatestRule_7 hS hd σ  NN x0 x1 x2 ((σ x0 11) - (1 : Int32)) h_x0
theorem c_70_0 : cd 70 0 = some (.iconst (0), 1) := by decide +kernel
theorem c_70_1 : cd 70 1 = some (.istore_n 2, 1) := by decide +kernel
theorem c_70_2 : cd 70 2 = some (.iconst (0), 1) := by decide +kernel
theorem c_70_3 : cd 70 3 = some (.istore_n 3, 1) := by decide +kernel
theorem c_70_4 : cd 70 4 = some (.iload_n 3, 1) := by decide +kernel
theorem c_70_5 : cd 70 5 = some (.aload_n 0, 1) := by decide +kernel
theorem c_70_6 : cd 70 6 = some (.getfield 96, 3) := by decide +kernel
theorem c_70_9 : cd 70 9 = some (.if_icmp .ge (45), 3) := by decide +kernel
theorem c_70_12 : cd 70 12 = some (.iload_n 1, 1) := by decide +kernel
theorem c_70_13 : cd 70 13 = some (.iload_n 3, 1) := by decide +kernel
theorem c_70_14 : cd 70 14 = some (.ishr, 1) := by decide +kernel
theorem c_70_15 : cd 70 15 = some (.iconst (1), 1) := by decide +kernel
theorem c_70_16 : cd 70 16 = some (.iand, 1) := by decide +kernel
theorem c_70_17 : cd 70 17 = some (.iconst (1), 1) := by decide +kernel
theorem c_70_18 : cd 70 18 = some (.if_icmp .ne (30), 3) := by decide +kernel
theorem c_70_21 : cd 70 21 = some (.aload_n 0, 1) := by decide +kernel
theorem c_70_22 : cd 70 22 = some (.getfield 33, 3) := by decide +kernel
theorem c_70_25 : cd 70 25 = some (.iload_n 3, 1) := by decide +kernel
theorem c_70_26 : cd 70 26 = some (.aaload, 1) := by decide +kernel
theorem c_70_27 : cd 70 27 = some (.getfield 106, 3) := by decide +kernel
theorem c_70_30 : cd 70 30 = some (.iconst (2), 1) := by decide +kernel
theorem c_70_31 : cd 70 31 = some (.if_icmp .ne (17), 3) := by decide +kernel
theorem c_70_34 : cd 70 34 = some (.iload_n 2, 1) := by decide +kernel
theorem c_70_35 : cd 70 35 = some (.iconst (1), 1) := by decide +kernel
theorem c_70_36 : cd 70 36 = some (.aload_n 0, 1) := by decide +kernel
theorem c_70_37 : cd 70 37 = some (.getfield 33, 3) := by decide +kernel
theorem c_70_40 : cd 70 40 = some (.iload_n 3, 1) := by decide +kernel
theorem c_70_41 : cd 70 41 = some (.aaload, 1) := by decide +kernel
theorem c_70_42 : cd 70 42 = some (.getfield 128, 3) := by decide +kernel
theorem c_70_45 : cd 70 45 = some (.ishl, 1) := by decide +kernel
theorem c_70_46 : cd 70 46 = some (.ior, 1) := by decide +kernel
theorem c_70_47 : cd 70 47 = some (.istore_n 2, 1) := by decide +kernel
theorem c_70_48 : cd 70 48 = some (.iinc 3 (1), 3) := by decide +kernel
theorem c_70_51 : cd 70 51 = some (.goto (-47), 3) := by decide +kernel
theorem c_70_54 : cd 70 54 = some (.iload_n 2, 1) := by decide +kernel
theorem c_70_55 : cd 70 55 = some (.ireturn, 1) := by decide +kernel
def f_St_neededOffices_48 (σ : Mm) (k4 : Nat → Int32 → Int32 → Int32 → Option (Int32)) (x0 : Nat) (x1 : Int32) (x2 : Int32) (x3 : Int32) : Option Int32 := k4 x0 x1 x2 (x3 + (1 : Int32))
set_option maxRecDepth 100000 in
set_option maxHeartbeats 4000000 in
theorem t_St_neededOffices_48 {X : Xt} {S : Sh} (hS : ShOK S) {d : Nat} (hd : 0 ≤ d) (σ : Mm) {k4 : Nat → Int32 → Int32 → Int32 → Option (Int32)} (hk4 : ∀ (x0 : Nat) (x1 : Int32) (x2 : Int32) (x3 : Int32) (h_x0 : tgT x0 = 7), Rf X S (emI σ) (k4 x0 x1 x2 x3) d 70 4 [.ref x0, .int x1, .int x2, .int x3] [] σ) (x0 : Nat) (x1 : Int32) (x2 : Int32) (x3 : Int32) (h_x0 : tgT x0 = 7) : Rf X S (emI σ) (f_St_neededOffices_48 σ k4 x0 x1 x2 x3) d 70 48 [.ref x0, .int x1, .int x2, .int x3] [] σ := by
  unfold f_St_neededOffices_48
  refine rf_iinc c_70_48 rfl ki_1 rfl ?_
  refine rf_goto c_70_51 rfl ?_
  exact hk4 x0 x1 x2 (x3 + (1 : Int32)) h_x0
def f_St_neededOffices_4 (σ : Mm) : Nat → Nat → Int32 → Int32 → Int32 → Option Int32
  | 0, _, _, _, _ => none
  | n + 1, x0, x1, x2, x3 => (if (σ x0 11) ≤ x3 then (some x2) else (if ¬ ((x1 >>> (x3 &&& 31)) &&& (1 : Int32)) = (1 : Int32) then (f_St_neededOffices_48 σ (f_St_neededOffices_4 σ n) x0 x1 x2 x3) else (if inbB x3 16 = true then (if ¬ (σ (rfT (rfT x0 3) (ix x3)) 0) = (2 : Int32) then (f_St_neededOffices_48 σ (f_St_neededOffices_4 σ n) x0 x1 x2 x3) else (if inbB x3 16 = true then f_St_neededOffices_48 σ (f_St_neededOffices_4 σ n) x0 x1 (x2 ||| ((1 : Int32) <<< ((σ (rfT (rfT x0 3) (ix x3)) 2) &&& 31))) x3 else none)) else none)))
set_option maxRecDepth 100000 in
set_option maxHeartbeats 4000000 in
theorem t_St_neededOffices_4 {X : Xt} {S : Sh} (hS : ShOK S) {d : Nat} (hd : 0 ≤ d) (σ : Mm) : ∀ (n : Nat) (x0 : Nat) (x1 : Int32) (x2 : Int32) (x3 : Int32) (h_x0 : tgT x0 = 7), Rf X S (emI σ) (f_St_neededOffices_4 σ n x0 x1 x2 x3) d 70 4 [.ref x0, .int x1, .int x2, .int x3] [] σ := by
  intro n
  induction n with
  | zero => intro x0 x1 x2 x3 h_x0; exact rf_none
  | succ n ih =>
    intro x0 x1 x2 x3 h_x0
    rw [f_St_neededOffices_4]
    refine rf_ild (i := 3) (Or.inr ⟨3, rfl, rfl, rfl⟩) c_70_4 rfl ?_
    refine rf_ald (i := 0) (Or.inr ⟨0, rfl, rfl, rfl⟩) c_70_5 rfl ?_
    refine rf_geti hS c_70_6 rfl fl_7_96 rfl h_x0 ?_
    refine rf_ite (fun hc9 => ?_) (fun hc9 => ?_)
    · refine rf_b2t c_70_9 rfl (decide_eq_true hc9) ?_
      refine rf_ild (i := 2) (Or.inr ⟨2, rfl, rfl, rfl⟩) c_70_54 rfl ?_
      exact rf_ret c_70_55 rfl rfl rfl rfl
    · refine rf_b2f c_70_9 rfl (decide_eq_false hc9) ?_
      refine rf_ild (i := 1) (Or.inr ⟨1, rfl, rfl, rfl⟩) c_70_12 rfl ?_
      refine rf_ild (i := 3) (Or.inr ⟨3, rfl, rfl, rfl⟩) c_70_13 rfl ?_
      refine rf_ishr c_70_14 ?_
      refine rf_iconst c_70_15 ki_1 ?_
      refine rf_iand c_70_16 ?_
      refine rf_iconst c_70_17 ki_1 ?_
      refine rf_ite (fun hc18 => ?_) (fun hc18 => ?_)
      · refine rf_b2t c_70_18 rfl (decide_eq_true hc18) ?_
        exact t_St_neededOffices_48 hS hd σ ih x0 x1 x2 x3 h_x0
      · refine rf_b2f c_70_18 rfl (decide_eq_false hc18) ?_
        refine rf_ald (i := 0) (Or.inr ⟨0, rfl, rfl, rfl⟩) c_70_21 rfl ?_
        refine rf_getr hS c_70_22 rfl fl_7_33 rfl h_x0 ?_
        refine rf_ild (i := 3) (Or.inr ⟨3, rfl, rfl, rfl⟩) c_70_25 rfl ?_
        refine rf_ite (fun hb26 => ?_) (fun _ => rf_none)
        refine rf_aald hS c_70_26 (by rw [(tf_7_3 h_x0)]; decide) (by rw [(tf_7_3 h_x0)]; decide) (lf_7_3 h_x0) hb26 ?_
        refine rf_geti hS c_70_27 rfl fl_7_106 rfl (te_35 (tf_7_3 h_x0) hb26) ?_
        refine rf_iconst c_70_30 ki_2 ?_
        refine rf_ite (fun hc31 => ?_) (fun hc31 => ?_)
        · refine rf_b2t c_70_31 rfl (decide_eq_true hc31) ?_
          exact t_St_neededOffices_48 hS hd σ ih x0 x1 x2 x3 h_x0
        · refine rf_b2f c_70_31 rfl (decide_eq_false hc31) ?_
          refine rf_ild (i := 2) (Or.inr ⟨2, rfl, rfl, rfl⟩) c_70_34 rfl ?_
          refine rf_iconst c_70_35 ki_1 ?_
          refine rf_ald (i := 0) (Or.inr ⟨0, rfl, rfl, rfl⟩) c_70_36 rfl ?_
          refine rf_getr hS c_70_37 rfl fl_7_33 rfl h_x0 ?_
          refine rf_ild (i := 3) (Or.inr ⟨3, rfl, rfl, rfl⟩) c_70_40 rfl ?_
          refine rf_ite (fun hb41 => ?_) (fun _ => rf_none)
          refine rf_aald hS c_70_41 (by rw [(tf_7_3 h_x0)]; decide) (by rw [(tf_7_3 h_x0)]; decide) (lf_7_3 h_x0) hb41 ?_
          refine rf_geti hS c_70_42 rfl fl_7_128 rfl (te_35 (tf_7_3 h_x0) hb41) ?_
          refine rf_ishl c_70_45 ?_
          refine rf_ior c_70_46 ?_
          refine rf_ist (i := 2) (Or.inr ⟨2, rfl, rfl, rfl⟩) c_70_47 (Nat.le_of_ble_eq_true rfl) rfl ?_
          exact t_St_neededOffices_48 hS hd σ ih x0 x1 (x2 ||| ((1 : Int32) <<< ((σ (rfT (rfT x0 3) (ix x3)) 2) &&& 31))) x3 h_x0
def f_St_neededOffices (σ : Mm) (x0 : Nat) (x1 : Int32) : Option Int32 := f_St_neededOffices_4 σ NN x0 x1 (0 : Int32) (0 : Int32)
set_option maxRecDepth 100000 in
set_option maxHeartbeats 4000000 in
theorem t_St_neededOffices {X : Xt} {S : Sh} (hS : ShOK S) {d : Nat} (hd : 0 ≤ d) (σ : Mm) (x0 : Nat) (x1 : Int32) (h_x0 : tgT x0 = 7) : Rf X S (emI σ) (f_St_neededOffices σ x0 x1) d 70 0 [.ref x0, .int x1, unset0, unset0] [] σ := by
  unfold f_St_neededOffices
  refine rf_iconst c_70_0 ki_0 ?_
  refine rf_ist (i := 2) (Or.inr ⟨2, rfl, rfl, rfl⟩) c_70_1 (Nat.le_of_ble_eq_true rfl) rfl ?_
  refine rf_iconst c_70_2 ki_0 ?_
  refine rf_ist (i := 3) (Or.inr ⟨3, rfl, rfl, rfl⟩) c_70_3 (Nat.le_of_ble_eq_true rfl) rfl ?_
  exact t_St_neededOffices_4 hS hd σ  NN x0 x1 (0 : Int32) (0 : Int32) h_x0
theorem c_69_0 : cd 69 0 = some (.iload_n 3, 1) := by decide +kernel
theorem c_69_1 : cd 69 1 = some (.iconst (2), 1) := by decide +kernel
theorem c_69_2 : cd 69 2 = some (.if_icmp .ne (9), 3) := by decide +kernel
theorem c_69_5 : cd 69 5 = some (.aload_n 0, 1) := by decide +kernel
theorem c_69_6 : cd 69 6 = some (.iload_n 1, 1) := by decide +kernel
theorem c_69_7 : cd 69 7 = some (.invokevirtual 120, 3) := by decide +kernel
theorem c_69_10 : cd 69 10 = some (.ireturn, 1) := by decide +kernel
theorem c_69_11 : cd 69 11 = some (.aload_n 0, 1) := by decide +kernel
theorem c_69_12 : cd 69 12 = some (.iload_n 1, 1) := by decide +kernel
theorem c_69_13 : cd 69 13 = some (.iload_n 3, 1) := by decide +kernel
theorem c_69_14 : cd 69 14 = some (.invokevirtual 124, 3) := by decide +kernel
theorem c_69_17 : cd 69 17 = some (.istore 4, 2) := by decide +kernel
theorem c_69_19 : cd 69 19 = some (.iload 4, 2) := by decide +kernel
theorem c_69_21 : cd 69 21 = some (.ifCond .lt (23), 3) := by decide +kernel
theorem c_69_24 : cd 69 24 = some (.iload 4, 2) := by decide +kernel
theorem c_69_26 : cd 69 26 = some (.aload_n 0, 1) := by decide +kernel
theorem c_69_27 : cd 69 27 = some (.getfield 96, 3) := by decide +kernel
theorem c_69_30 : cd 69 30 = some (.if_icmp .ge (14), 3) := by decide +kernel
theorem c_69_33 : cd 69 33 = some (.aload_n 0, 1) := by decide +kernel
theorem c_69_34 : cd 69 34 = some (.getfield 33, 3) := by decide +kernel
theorem c_69_37 : cd 69 37 = some (.iload 4, 2) := by decide +kernel
theorem c_69_39 : cd 69 39 = some (.aaload, 1) := by decide +kernel
theorem c_69_40 : cd 69 40 = some (.getfield 128, 3) := by decide +kernel
theorem c_69_43 : cd 69 43 = some (.ireturn, 1) := by decide +kernel
theorem c_69_44 : cd 69 44 = some (.iload_n 3, 1) := by decide +kernel
theorem c_69_45 : cd 69 45 = some (.iconst (1), 1) := by decide +kernel
theorem c_69_46 : cd 69 46 = some (.if_icmp .ne (8), 3) := by decide +kernel
theorem c_69_49 : cd 69 49 = some (.aload_n 2, 1) := by decide +kernel
theorem c_69_50 : cd 69 50 = some (.invokevirtual 131, 3) := by decide +kernel
theorem c_69_53 : cd 69 53 = some (.ireturn, 1) := by decide +kernel
theorem c_69_54 : cd 69 54 = some (.iload_n 3, 1) := by decide +kernel
theorem c_69_55 : cd 69 55 = some (.iconst (4), 1) := by decide +kernel
theorem c_69_56 : cd 69 56 = some (.if_icmp .ne (10), 3) := by decide +kernel
theorem c_69_59 : cd 69 59 = some (.aload_n 2, 1) := by decide +kernel
theorem c_69_60 : cd 69 60 = some (.invokevirtual 135, 3) := by decide +kernel
theorem c_69_63 : cd 69 63 = some (.goto (4), 3) := by decide +kernel
theorem c_69_66 : cd 69 66 = some (.iconst (0), 1) := by decide +kernel
theorem c_69_67 : cd 69 67 = some (.ireturn, 1) := by decide +kernel
def f_St_dueBy_67 (σ : Mm) (y0 : Int32) : Option Int32 := some y0
set_option maxRecDepth 100000 in
set_option maxHeartbeats 4000000 in
theorem t_St_dueBy_67 {X : Xt} {S : Sh} (hS : ShOK S) {d : Nat} (hd : 8 ≤ d + 1) (σ : Mm) (y0 : Int32) (u0 : Value) (u1 : Value) (u2 : Value) (u3 : Value) (u4 : Value) : Rf X S (emI σ) (f_St_dueBy_67 σ y0) (d + 1) 69 67 [u0, u1, u2, u3, u4] [.int y0] σ := by
  unfold f_St_dueBy_67
  exact rf_ret c_69_67 rfl rfl rfl rfl
def f_St_dueBy_44 (σ : Mm) (x2 : Nat) (x3 : Int32) : Option Int32 := (if ¬ x3 = (1 : Int32) then (if ¬ x3 = (4 : Int32) then (f_St_dueBy_67 σ (0 : Int32)) else ((f_Pa_shuts σ x2).bind fun v60 => f_St_dueBy_67 σ v60)) else ((f_Pa_reach σ x2).bind fun v50 => some v50))
set_option maxRecDepth 100000 in
set_option maxHeartbeats 4000000 in
theorem t_St_dueBy_44 {X : Xt} {S : Sh} (hS : ShOK S) {d : Nat} (hd : 8 ≤ d + 1) (σ : Mm) (x2 : Nat) (x3 : Int32) (u0 : Value) (u1 : Value) (u4 : Value) (h_x2 : tgT x2 = 3) : Rf X S (emI σ) (f_St_dueBy_44 σ x2 x3) (d + 1) 69 44 [u0, u1, .ref x2, .int x3, u4] [] σ := by
  unfold f_St_dueBy_44
  refine rf_ild (i := 3) (Or.inr ⟨3, rfl, rfl, rfl⟩) c_69_44 rfl ?_
  refine rf_iconst c_69_45 ki_1 ?_
  refine rf_ite (fun hc46 => ?_) (fun hc46 => ?_)
  · refine rf_b2t c_69_46 rfl (decide_eq_true hc46) ?_
    refine rf_ild (i := 3) (Or.inr ⟨3, rfl, rfl, rfl⟩) c_69_54 rfl ?_
    refine rf_iconst c_69_55 ki_4 ?_
    refine rf_ite (fun hc56 => ?_) (fun hc56 => ?_)
    · refine rf_b2t c_69_56 rfl (decide_eq_true hc56) ?_
      refine rf_iconst c_69_66 ki_0 ?_
      exact t_St_dueBy_67 hS hd σ  (0 : Int32) (u0) (u1) (.ref x2) (.int x3) (u4)
    · refine rf_b2f c_69_56 rfl (decide_eq_false hc56) ?_
      refine rf_ald (i := 2) (Or.inr ⟨2, rfl, rfl, rfl⟩) c_69_59 rfl ?_
      refine rf_callI (as := [.ref x2]) (kd := 1) c_69_60 rfl (by decide) rfl ml_7_135 (by decide) rfl (rcv_1 hS rfl rfl h_x2 (by decide)) (Nat.zero_le _) rfl rfl (t_Pa_shuts hS (by omega) σ x2 h_x2) (fun v60 => ?_)
      refine rf_goto c_69_63 rfl ?_
      exact t_St_dueBy_67 hS hd σ  v60 (u0) (u1) (.ref x2) (.int x3) (u4)
  · refine rf_b2f c_69_46 rfl (decide_eq_false hc46) ?_
    refine rf_ald (i := 2) (Or.inr ⟨2, rfl, rfl, rfl⟩) c_69_49 rfl ?_
    refine rf_callI (as := [.ref x2]) (kd := 1) c_69_50 rfl (by decide) rfl ml_7_131 (by decide) rfl (rcv_1 hS rfl rfl h_x2 (by decide)) (Nat.zero_le _) rfl rfl (t_Pa_reach hS (by omega) σ x2 h_x2) (fun v50 => ?_)
    exact rf_ret c_69_53 rfl rfl rfl rfl
def f_St_dueBy (σ : Mm) (x0 : Nat) (x1 : Int32) (x2 : Nat) (x3 : Int32) : Option Int32 := (if ¬ x3 = (2 : Int32) then ((f_St_greatestRule σ x0 x1 x3).bind fun v14 => (if v14 < 0 then (f_St_dueBy_44 σ x2 x3) else (if (σ x0 11) ≤ v14 then (f_St_dueBy_44 σ x2 x3) else (if inbB v14 16 = true then some (σ (rfT (rfT x0 3) (ix v14)) 2) else none)))) else ((f_St_neededOffices σ x0 x1).bind fun v7 => some v7))
set_option maxRecDepth 100000 in
set_option maxHeartbeats 4000000 in
theorem t_St_dueBy_e {X : Xt} {S : Sh} (hS : ShOK S) {d : Nat} (hd : 8 ≤ d + 1) (σ : Mm) (x0 : Nat) (x1 : Int32) (x2 : Nat) (x3 : Int32) (h_x0 : tgT x0 = 7) (h_x2 : tgT x2 = 3) : Rf X S (emI σ) (f_St_dueBy σ x0 x1 x2 x3) (d + 1) 69 0 [.ref x0, .int x1, .ref x2, .int x3, unset0] [] σ := by
  unfold f_St_dueBy
  refine rf_ild (i := 3) (Or.inr ⟨3, rfl, rfl, rfl⟩) c_69_0 rfl ?_
  refine rf_iconst c_69_1 ki_2 ?_
  refine rf_ite (fun hc2 => ?_) (fun hc2 => ?_)
  · refine rf_b2t c_69_2 rfl (decide_eq_true hc2) ?_
    refine rf_ald (i := 0) (Or.inr ⟨0, rfl, rfl, rfl⟩) c_69_11 rfl ?_
    refine rf_ild (i := 1) (Or.inr ⟨1, rfl, rfl, rfl⟩) c_69_12 rfl ?_
    refine rf_ild (i := 3) (Or.inr ⟨3, rfl, rfl, rfl⟩) c_69_13 rfl ?_
    refine rf_callI (as := [.ref x0, .int x1, .int x3]) (kd := 1) c_69_14 rfl (by decide) rfl ml_7_124 (by decide) rfl (rcv_1 hS rfl rfl h_x0 (by decide)) (Nat.zero_le _) rfl rfl (t_St_greatestRule hS (by omega) σ x0 x1 x3 h_x0) (fun v14 => ?_)
    refine rf_ist (i := 4) (Or.inl ⟨rfl, rfl⟩) c_69_17 (Nat.le_of_ble_eq_true rfl) rfl ?_
    refine rf_ild (i := 4) (Or.inl ⟨rfl, rfl⟩) c_69_19 rfl ?_
    refine rf_ite (fun hc21 => ?_) (fun hc21 => ?_)
    · refine rf_b1t c_69_21 rfl (decide_eq_true hc21) ?_
      exact t_St_dueBy_44 hS hd σ  x2 x3 (.ref x0) (.int x1) (.int v14) h_x2
    · refine rf_b1f c_69_21 rfl (decide_eq_false hc21) ?_
      refine rf_ild (i := 4) (Or.inl ⟨rfl, rfl⟩) c_69_24 rfl ?_
      refine rf_ald (i := 0) (Or.inr ⟨0, rfl, rfl, rfl⟩) c_69_26 rfl ?_
      refine rf_geti hS c_69_27 rfl fl_7_96 rfl h_x0 ?_
      refine rf_ite (fun hc30 => ?_) (fun hc30 => ?_)
      · refine rf_b2t c_69_30 rfl (decide_eq_true hc30) ?_
        exact t_St_dueBy_44 hS hd σ  x2 x3 (.ref x0) (.int x1) (.int v14) h_x2
      · refine rf_b2f c_69_30 rfl (decide_eq_false hc30) ?_
        refine rf_ald (i := 0) (Or.inr ⟨0, rfl, rfl, rfl⟩) c_69_33 rfl ?_
        refine rf_getr hS c_69_34 rfl fl_7_33 rfl h_x0 ?_
        refine rf_ild (i := 4) (Or.inl ⟨rfl, rfl⟩) c_69_37 rfl ?_
        refine rf_ite (fun hb39 => ?_) (fun _ => rf_none)
        refine rf_aald hS c_69_39 (by rw [(tf_7_3 h_x0)]; decide) (by rw [(tf_7_3 h_x0)]; decide) (lf_7_3 h_x0) hb39 ?_
        refine rf_geti hS c_69_40 rfl fl_7_128 rfl (te_35 (tf_7_3 h_x0) hb39) ?_
        exact rf_ret c_69_43 rfl rfl rfl rfl
  · refine rf_b2f c_69_2 rfl (decide_eq_false hc2) ?_
    refine rf_ald (i := 0) (Or.inr ⟨0, rfl, rfl, rfl⟩) c_69_5 rfl ?_
    refine rf_ild (i := 1) (Or.inr ⟨1, rfl, rfl, rfl⟩) c_69_6 rfl ?_
    refine rf_callI (as := [.ref x0, .int x1]) (kd := 1) c_69_7 rfl (by decide) rfl ml_7_120 (by decide) rfl (rcv_1 hS rfl rfl h_x0 (by decide)) (Nat.zero_le _) rfl rfl (t_St_neededOffices hS (by omega) σ x0 x1 h_x0) (fun v7 => ?_)
    exact rf_ret c_69_10 rfl rfl rfl rfl
theorem t_St_dueBy {X : Xt} {S : Sh} (hS : ShOK S) {d : Nat} (hd : 8 ≤ d) (σ : Mm) (x0 : Nat) (x1 : Int32) (x2 : Nat) (x3 : Int32) (h_x0 : tgT x0 = 7) (h_x2 : tgT x2 = 3) : Rf X S (emI σ) (f_St_dueBy σ x0 x1 x2 x3) d 69 0 [.ref x0, .int x1, .ref x2, .int x3, unset0] [] σ := by
  obtain ⟨d1, rfl⟩ : ∃ d1, d = d1 + 1 := ⟨d - 1, by omega⟩
  exact t_St_dueBy_e hS hd σ x0 x1 x2 x3 h_x0 h_x2
theorem c_68_0 : cd 68 0 = some (.aload_n 0, 1) := by decide +kernel
theorem c_68_1 : cd 68 1 = some (.aload_n 0, 1) := by decide +kernel
theorem c_68_2 : cd 68 2 = some (.aload_n 1, 1) := by decide +kernel
theorem c_68_3 : cd 68 3 = some (.invokevirtual 112, 3) := by decide +kernel
theorem c_68_6 : cd 68 6 = some (.aload_n 1, 1) := by decide +kernel
theorem c_68_7 : cd 68 7 = some (.iload_n 2, 1) := by decide +kernel
theorem c_68_8 : cd 68 8 = some (.invokevirtual 116, 3) := by decide +kernel
theorem c_68_11 : cd 68 11 = some (.ireturn, 1) := by decide +kernel
def f_St_dueOf (σ : Mm) (x0 : Nat) (x1 : Nat) (x2 : Int32) : Option Int32 := (f_St_countingRules σ x0 x1).bind fun v3 => (f_St_dueBy σ x0 v3 x1 x2).bind fun v8 => some v8
set_option maxRecDepth 100000 in
set_option maxHeartbeats 4000000 in
theorem t_St_dueOf_e {X : Xt} {S : Sh} (hS : ShOK S) {d : Nat} (hd : 9 ≤ d + 1) (σ : Mm) (x0 : Nat) (x1 : Nat) (x2 : Int32) (h_x0 : tgT x0 = 7) (h_x1 : tgT x1 = 3) : Rf X S (emI σ) (f_St_dueOf σ x0 x1 x2) (d + 1) 68 0 [.ref x0, .ref x1, .int x2] [] σ := by
  unfold f_St_dueOf
  refine rf_ald (i := 0) (Or.inr ⟨0, rfl, rfl, rfl⟩) c_68_0 rfl ?_
  refine rf_ald (i := 0) (Or.inr ⟨0, rfl, rfl, rfl⟩) c_68_1 rfl ?_
  refine rf_ald (i := 1) (Or.inr ⟨1, rfl, rfl, rfl⟩) c_68_2 rfl ?_
  refine rf_callI (as := [.ref x0, .ref x1]) (kd := 1) c_68_3 rfl (by decide) rfl ml_7_112 (by decide) rfl (rcv_1 hS rfl rfl h_x0 (by decide)) (by simp [Value.category]) rfl rfl (t_St_countingRules hS (by omega) σ x0 x1 h_x0 h_x1) (fun v3 => ?_)
  refine rf_ald (i := 1) (Or.inr ⟨1, rfl, rfl, rfl⟩) c_68_6 rfl ?_
  refine rf_ild (i := 2) (Or.inr ⟨2, rfl, rfl, rfl⟩) c_68_7 rfl ?_
  refine rf_callI (as := [.ref x0, .int v3, .ref x1, .int x2]) (kd := 1) c_68_8 rfl (by decide) rfl ml_7_116 (by decide) rfl (rcv_1 hS rfl rfl h_x0 (by decide)) (Nat.zero_le _) rfl rfl (t_St_dueBy hS (by omega) σ x0 v3 x1 x2 h_x0 h_x1) (fun v8 => ?_)
  exact rf_ret c_68_11 rfl rfl rfl rfl
theorem t_St_dueOf {X : Xt} {S : Sh} (hS : ShOK S) {d : Nat} (hd : 9 ≤ d) (σ : Mm) (x0 : Nat) (x1 : Nat) (x2 : Int32) (h_x0 : tgT x0 = 7) (h_x1 : tgT x1 = 3) : Rf X S (emI σ) (f_St_dueOf σ x0 x1 x2) d 68 0 [.ref x0, .ref x1, .int x2] [] σ := by
  obtain ⟨d1, rfl⟩ : ∃ d1, d = d1 + 1 := ⟨d - 1, by omega⟩
  exact t_St_dueOf_e hS hd σ x0 x1 x2 h_x0 h_x1
theorem c_71_0 : cd 71 0 = some (.iconst (0), 1) := by decide +kernel
theorem c_71_1 : cd 71 1 = some (.istore_n 3, 1) := by decide +kernel
theorem c_71_2 : cd 71 2 = some (.iload_n 3, 1) := by decide +kernel
theorem c_71_3 : cd 71 3 = some (.aload_n 0, 1) := by decide +kernel
theorem c_71_4 : cd 71 4 = some (.getfield 93, 3) := by decide +kernel
theorem c_71_7 : cd 71 7 = some (.if_icmp .ge (53), 3) := by decide +kernel
theorem c_71_10 : cd 71 10 = some (.aload_n 1, 1) := by decide +kernel
theorem c_71_11 : cd 71 11 = some (.aload_n 0, 1) := by decide +kernel
theorem c_71_12 : cd 71 12 = some (.getfield 27, 3) := by decide +kernel
theorem c_71_15 : cd 71 15 = some (.iload_n 3, 1) := by decide +kernel
theorem c_71_16 : cd 71 16 = some (.aaload, 1) := by decide +kernel
theorem c_71_17 : cd 71 17 = some (.aload_n 0, 1) := by decide +kernel
theorem c_71_18 : cd 71 18 = some (.getfield 86, 3) := by decide +kernel
theorem c_71_21 : cd 71 21 = some (.aload_n 0, 1) := by decide +kernel
theorem c_71_22 : cd 71 22 = some (.getfield 90, 3) := by decide +kernel
theorem c_71_25 : cd 71 25 = some (.invokevirtual 102, 3) := by decide +kernel
theorem c_71_28 : cd 71 28 = some (.ifCond .eq (26), 3) := by decide +kernel
theorem c_71_31 : cd 71 31 = some (.aload_n 2, 1) := by decide +kernel
theorem c_71_32 : cd 71 32 = some (.aload_n 0, 1) := by decide +kernel
theorem c_71_33 : cd 71 33 = some (.getfield 27, 3) := by decide +kernel
theorem c_71_36 : cd 71 36 = some (.iload_n 3, 1) := by decide +kernel
theorem c_71_37 : cd 71 37 = some (.aaload, 1) := by decide +kernel
theorem c_71_38 : cd 71 38 = some (.aload_n 0, 1) := by decide +kernel
theorem c_71_39 : cd 71 39 = some (.getfield 86, 3) := by decide +kernel
theorem c_71_42 : cd 71 42 = some (.aload_n 0, 1) := by decide +kernel
theorem c_71_43 : cd 71 43 = some (.getfield 90, 3) := by decide +kernel
theorem c_71_46 : cd 71 46 = some (.invokevirtual 102, 3) := by decide +kernel
theorem c_71_49 : cd 71 49 = some (.ifCond .eq (5), 3) := by decide +kernel
theorem c_71_52 : cd 71 52 = some (.iload_n 3, 1) := by decide +kernel
theorem c_71_53 : cd 71 53 = some (.ireturn, 1) := by decide +kernel
theorem c_71_54 : cd 71 54 = some (.iinc 3 (1), 3) := by decide +kernel
theorem c_71_57 : cd 71 57 = some (.goto (-55), 3) := by decide +kernel
theorem c_71_60 : cd 71 60 = some (.ldc 60, 2) := by decide +kernel
theorem c_71_62 : cd 71 62 = some (.ireturn, 1) := by decide +kernel
def f_St_leastPaperOfBoth_54 (σ : Mm) (k2 : Nat → Nat → Nat → Int32 → Option (Int32)) (x0 : Nat) (x1 : Nat) (x2 : Nat) (x3 : Int32) : Option Int32 := k2 x0 x1 x2 (x3 + (1 : Int32))
set_option maxRecDepth 100000 in
set_option maxHeartbeats 4000000 in
theorem t_St_leastPaperOfBoth_54 {X : Xt} {S : Sh} (hS : ShOK S) {d : Nat} (hd : 3 ≤ d + 1) (σ : Mm) {k2 : Nat → Nat → Nat → Int32 → Option (Int32)} (hk2 : ∀ (x0 : Nat) (x1 : Nat) (x2 : Nat) (x3 : Int32) (h_x0 : tgT x0 = 7) (h_x1 : tgT x1 = 5) (h_x2 : tgT x2 = 5), Rf X S (emI σ) (k2 x0 x1 x2 x3) (d + 1) 71 2 [.ref x0, .ref x1, .ref x2, .int x3] [] σ) (x0 : Nat) (x1 : Nat) (x2 : Nat) (x3 : Int32) (h_x0 : tgT x0 = 7) (h_x1 : tgT x1 = 5) (h_x2 : tgT x2 = 5) : Rf X S (emI σ) (f_St_leastPaperOfBoth_54 σ k2 x0 x1 x2 x3) (d + 1) 71 54 [.ref x0, .ref x1, .ref x2, .int x3] [] σ := by
  unfold f_St_leastPaperOfBoth_54
  refine rf_iinc c_71_54 rfl ki_1 rfl ?_
  refine rf_goto c_71_57 rfl ?_
  exact hk2 x0 x1 x2 (x3 + (1 : Int32)) h_x0 h_x1 h_x2
def f_St_leastPaperOfBoth_2 (σ : Mm) : Nat → Nat → Nat → Nat → Int32 → Option Int32
  | 0, _, _, _, _ => none
  | n + 1, x0, x1, x2, x3 => (if (σ x0 10) ≤ x3 then (some (-1000000005 : Int32)) else (if inbB x3 24 = true then (f_Ru_fits σ x1 (rfT (rfT x0 2) (ix x3)) (σ x0 8) (σ x0 9)).bind fun v25 => (if v25 = 0 then (f_St_leastPaperOfBoth_54 σ (f_St_leastPaperOfBoth_2 σ n) x0 x1 x2 x3) else (if inbB x3 24 = true then (f_Ru_fits σ x2 (rfT (rfT x0 2) (ix x3)) (σ x0 8) (σ x0 9)).bind fun v46 => (if v46 = 0 then (f_St_leastPaperOfBoth_54 σ (f_St_leastPaperOfBoth_2 σ n) x0 x1 x2 x3) else (some x3)) else none)) else none))
set_option maxRecDepth 100000 in
set_option maxHeartbeats 4000000 in
theorem t_St_leastPaperOfBoth_2 {X : Xt} {S : Sh} (hS : ShOK S) {d : Nat} (hd : 3 ≤ d + 1) (σ : Mm) : ∀ (n : Nat) (x0 : Nat) (x1 : Nat) (x2 : Nat) (x3 : Int32) (h_x0 : tgT x0 = 7) (h_x1 : tgT x1 = 5) (h_x2 : tgT x2 = 5), Rf X S (emI σ) (f_St_leastPaperOfBoth_2 σ n x0 x1 x2 x3) (d + 1) 71 2 [.ref x0, .ref x1, .ref x2, .int x3] [] σ := by
  intro n
  induction n with
  | zero => intro x0 x1 x2 x3 h_x0 h_x1 h_x2; exact rf_none
  | succ n ih =>
    intro x0 x1 x2 x3 h_x0 h_x1 h_x2
    rw [f_St_leastPaperOfBoth_2]
    refine rf_ild (i := 3) (Or.inr ⟨3, rfl, rfl, rfl⟩) c_71_2 rfl ?_
    refine rf_ald (i := 0) (Or.inr ⟨0, rfl, rfl, rfl⟩) c_71_3 rfl ?_
    refine rf_geti hS c_71_4 rfl fl_7_93 rfl h_x0 ?_
    refine rf_ite (fun hc7 => ?_) (fun hc7 => ?_)
    · refine rf_b2t c_71_7 rfl (decide_eq_true hc7) ?_
      refine rf_ldc (Or.inl ⟨rfl, rfl⟩) c_71_60 rfl kl_7_60 ?_
      exact rf_ret c_71_62 rfl rfl rfl rfl
    · refine rf_b2f c_71_7 rfl (decide_eq_false hc7) ?_
      refine rf_ald (i := 1) (Or.inr ⟨1, rfl, rfl, rfl⟩) c_71_10 rfl ?_
      refine rf_ald (i := 0) (Or.inr ⟨0, rfl, rfl, rfl⟩) c_71_11 rfl ?_
      refine rf_getr hS c_71_12 rfl fl_7_27 rfl h_x0 ?_
      refine rf_ild (i := 3) (Or.inr ⟨3, rfl, rfl, rfl⟩) c_71_15 rfl ?_
      refine rf_ite (fun hb16 => ?_) (fun _ => rf_none)
      refine rf_aald hS c_71_16 (by rw [(tf_7_2 h_x0)]; decide) (by rw [(tf_7_2 h_x0)]; decide) (lf_7_2 h_x0) hb16 ?_
      refine rf_ald (i := 0) (Or.inr ⟨0, rfl, rfl, rfl⟩) c_71_17 rfl ?_
      refine rf_geti hS c_71_18 rfl fl_7_86 rfl h_x0 ?_
      refine rf_ald (i := 0) (Or.inr ⟨0, rfl, rfl, rfl⟩) c_71_21 rfl ?_
      refine rf_geti hS c_71_22 rfl fl_7_90 rfl h_x0 ?_
      refine rf_callI (as := [.ref x1, .ref (rfT (rfT x0 2) (ix x3)), .int (σ x0 8), .int (σ x0 9)]) (kd := 1) c_71_25 rfl (by decide) rfl ml_7_102 (by decide) rfl (rcv_1 hS rfl rfl h_x1 (by decide)) (Nat.zero_le _) rfl rfl (t_Ru_fits hS (by omega) σ x1 (rfT (rfT x0 2) (ix x3)) (σ x0 8) (σ x0 9) h_x1 (te_33 (tf_7_2 h_x0) hb16)) (fun v25 => ?_)
      refine rf_ite (fun hc28 => ?_) (fun hc28 => ?_)
      · refine rf_b1t c_71_28 rfl (decide_eq_true hc28) ?_
        exact t_St_leastPaperOfBoth_54 hS hd σ ih x0 x1 x2 x3 h_x0 h_x1 h_x2
      · refine rf_b1f c_71_28 rfl (decide_eq_false hc28) ?_
        refine rf_ald (i := 2) (Or.inr ⟨2, rfl, rfl, rfl⟩) c_71_31 rfl ?_
        refine rf_ald (i := 0) (Or.inr ⟨0, rfl, rfl, rfl⟩) c_71_32 rfl ?_
        refine rf_getr hS c_71_33 rfl fl_7_27 rfl h_x0 ?_
        refine rf_ild (i := 3) (Or.inr ⟨3, rfl, rfl, rfl⟩) c_71_36 rfl ?_
        refine rf_ite (fun hb37 => ?_) (fun _ => rf_none)
        refine rf_aald hS c_71_37 (by rw [(tf_7_2 h_x0)]; decide) (by rw [(tf_7_2 h_x0)]; decide) (lf_7_2 h_x0) hb37 ?_
        refine rf_ald (i := 0) (Or.inr ⟨0, rfl, rfl, rfl⟩) c_71_38 rfl ?_
        refine rf_geti hS c_71_39 rfl fl_7_86 rfl h_x0 ?_
        refine rf_ald (i := 0) (Or.inr ⟨0, rfl, rfl, rfl⟩) c_71_42 rfl ?_
        refine rf_geti hS c_71_43 rfl fl_7_90 rfl h_x0 ?_
        refine rf_callI (as := [.ref x2, .ref (rfT (rfT x0 2) (ix x3)), .int (σ x0 8), .int (σ x0 9)]) (kd := 1) c_71_46 rfl (by decide) rfl ml_7_102 (by decide) rfl (rcv_1 hS rfl rfl h_x2 (by decide)) (Nat.zero_le _) rfl rfl (t_Ru_fits hS (by omega) σ x2 (rfT (rfT x0 2) (ix x3)) (σ x0 8) (σ x0 9) h_x2 (te_33 (tf_7_2 h_x0) hb37)) (fun v46 => ?_)
        refine rf_ite (fun hc49 => ?_) (fun hc49 => ?_)
        · refine rf_b1t c_71_49 rfl (decide_eq_true hc49) ?_
          exact t_St_leastPaperOfBoth_54 hS hd σ ih x0 x1 x2 x3 h_x0 h_x1 h_x2
        · refine rf_b1f c_71_49 rfl (decide_eq_false hc49) ?_
          refine rf_ild (i := 3) (Or.inr ⟨3, rfl, rfl, rfl⟩) c_71_52 rfl ?_
          exact rf_ret c_71_53 rfl rfl rfl rfl
def f_St_leastPaperOfBoth (σ : Mm) (x0 : Nat) (x1 : Nat) (x2 : Nat) : Option Int32 := f_St_leastPaperOfBoth_2 σ NN x0 x1 x2 (0 : Int32)
set_option maxRecDepth 100000 in
set_option maxHeartbeats 4000000 in
theorem t_St_leastPaperOfBoth_e {X : Xt} {S : Sh} (hS : ShOK S) {d : Nat} (hd : 3 ≤ d + 1) (σ : Mm) (x0 : Nat) (x1 : Nat) (x2 : Nat) (h_x0 : tgT x0 = 7) (h_x1 : tgT x1 = 5) (h_x2 : tgT x2 = 5) : Rf X S (emI σ) (f_St_leastPaperOfBoth σ x0 x1 x2) (d + 1) 71 0 [.ref x0, .ref x1, .ref x2, unset0] [] σ := by
  unfold f_St_leastPaperOfBoth
  refine rf_iconst c_71_0 ki_0 ?_
  refine rf_ist (i := 3) (Or.inr ⟨3, rfl, rfl, rfl⟩) c_71_1 (Nat.le_of_ble_eq_true rfl) rfl ?_
  exact t_St_leastPaperOfBoth_2 hS hd σ  NN x0 x1 x2 (0 : Int32) h_x0 h_x1 h_x2
theorem t_St_leastPaperOfBoth {X : Xt} {S : Sh} (hS : ShOK S) {d : Nat} (hd : 3 ≤ d) (σ : Mm) (x0 : Nat) (x1 : Nat) (x2 : Nat) (h_x0 : tgT x0 = 7) (h_x1 : tgT x1 = 5) (h_x2 : tgT x2 = 5) : Rf X S (emI σ) (f_St_leastPaperOfBoth σ x0 x1 x2) d 71 0 [.ref x0, .ref x1, .ref x2, unset0] [] σ := by
  obtain ⟨d1, rfl⟩ : ∃ d1, d = d1 + 1 := ⟨d - 1, by omega⟩
  exact t_St_leastPaperOfBoth_e hS hd σ x0 x1 x2 h_x0 h_x1 h_x2
theorem c_89_0 : cd 89 0 = some (.aload_n 0, 1) := by decide +kernel
theorem c_89_1 : cd 89 1 = some (.getfield 15, 3) := by decide +kernel
theorem c_89_4 : cd 89 4 = some (.iload_n 1, 1) := by decide +kernel
theorem c_89_5 : cd 89 5 = some (.iaload, 1) := by decide +kernel
theorem c_89_6 : cd 89 6 = some (.istore_n 3, 1) := by decide +kernel
theorem c_89_7 : cd 89 7 = some (.iload_n 2, 1) := by decide +kernel
theorem c_89_8 : cd 89 8 = some (.aload_n 0, 1) := by decide +kernel
theorem c_89_9 : cd 89 9 = some (.getfield 18, 3) := by decide +kernel
theorem c_89_12 : cd 89 12 = some (.iload_n 1, 1) := by decide +kernel
theorem c_89_13 : cd 89 13 = some (.iaload, 1) := by decide +kernel
theorem c_89_14 : cd 89 14 = some (.if_icmp .le (7), 3) := by decide +kernel
theorem c_89_17 : cd 89 17 = some (.iload_n 3, 1) := by decide +kernel
theorem c_89_18 : cd 89 18 = some (.ifCond .gt (10), 3) := by decide +kernel
theorem c_89_21 : cd 89 21 = some (.aload_n 0, 1) := by decide +kernel
theorem c_89_22 : cd 89 22 = some (.getfield 18, 3) := by decide +kernel
theorem c_89_25 : cd 89 25 = some (.iload_n 1, 1) := by decide +kernel
theorem c_89_26 : cd 89 26 = some (.iaload, 1) := by decide +kernel
theorem c_89_27 : cd 89 27 = some (.ireturn, 1) := by decide +kernel
theorem c_89_28 : cd 89 28 = some (.iload_n 2, 1) := by decide +kernel
theorem c_89_29 : cd 89 29 = some (.aload_n 0, 1) := by decide +kernel
theorem c_89_30 : cd 89 30 = some (.getfield 18, 3) := by decide +kernel
theorem c_89_33 : cd 89 33 = some (.iload_n 1, 1) := by decide +kernel
theorem c_89_34 : cd 89 34 = some (.iaload, 1) := by decide +kernel
theorem c_89_35 : cd 89 35 = some (.isub, 1) := by decide +kernel
theorem c_89_36 : cd 89 36 = some (.iload_n 3, 1) := by decide +kernel
theorem c_89_37 : cd 89 37 = some (.irem, 1) := by decide +kernel
theorem c_89_38 : cd 89 38 = some (.istore 4, 2) := by decide +kernel
theorem c_89_40 : cd 89 40 = some (.iload 4, 2) := by decide +kernel
theorem c_89_42 : cd 89 42 = some (.ifCond .ne (7), 3) := by decide +kernel
theorem c_89_45 : cd 89 45 = some (.iload_n 2, 1) := by decide +kernel
theorem c_89_46 : cd 89 46 = some (.goto (9), 3) := by decide +kernel
theorem c_89_49 : cd 89 49 = some (.iload_n 2, 1) := by decide +kernel
theorem c_89_50 : cd 89 50 = some (.iload_n 3, 1) := by decide +kernel
theorem c_89_51 : cd 89 51 = some (.iadd, 1) := by decide +kernel
theorem c_89_52 : cd 89 52 = some (.iload 4, 2) := by decide +kernel
theorem c_89_54 : cd 89 54 = some (.isub, 1) := by decide +kernel
theorem c_89_55 : cd 89 55 = some (.ireturn, 1) := by decide +kernel
def f_Tb_firstSitting_21 (σ : Mm) (x0 : Nat) (x1 : Int32) : Option Int32 := if inbB x1 6 = true then some (σ (rfT x0 2) (ix x1)) else none
set_option maxRecDepth 100000 in
set_option maxHeartbeats 4000000 in
theorem t_Tb_firstSitting_21 {X : Xt} {S : Sh} (hS : ShOK S) {d : Nat} (hd : 0 ≤ d) (σ : Mm) (x0 : Nat) (x1 : Int32) (u2 : Value) (u3 : Value) (u4 : Value) (h_x0 : tgT x0 = 8) : Rf X S (emI σ) (f_Tb_firstSitting_21 σ x0 x1) d 89 21 [.ref x0, .int x1, u2, u3, u4] [] σ := by
  unfold f_Tb_firstSitting_21
  refine rf_ald (i := 0) (Or.inr ⟨0, rfl, rfl, rfl⟩) c_89_21 rfl ?_
  refine rf_getr hS c_89_22 rfl fl_8_18 rfl h_x0 ?_
  refine rf_ild (i := 1) (Or.inr ⟨1, rfl, rfl, rfl⟩) c_89_25 rfl ?_
  refine rf_ite (fun hb26 => ?_) (fun _ => rf_none)
  refine rf_iald hS c_89_26 (tf_8_2 h_x0) (lf_8_2 h_x0) hb26 ?_
  exact rf_ret c_89_27 rfl rfl rfl rfl
def f_Tb_firstSitting_55 (σ : Mm) (y0 : Int32) : Option Int32 := some y0
set_option maxRecDepth 100000 in
set_option maxHeartbeats 4000000 in
theorem t_Tb_firstSitting_55 {X : Xt} {S : Sh} (hS : ShOK S) {d : Nat} (hd : 0 ≤ d) (σ : Mm) (y0 : Int32) (u0 : Value) (u1 : Value) (u2 : Value) (u3 : Value) (u4 : Value) : Rf X S (emI σ) (f_Tb_firstSitting_55 σ y0) d 89 55 [u0, u1, u2, u3, u4] [.int y0] σ := by
  unfold f_Tb_firstSitting_55
  exact rf_ret c_89_55 rfl rfl rfl rfl
def f_Tb_firstSitting (σ : Mm) (x0 : Nat) (x1 : Int32) (x2 : Int32) : Option Int32 := if inbB x1 6 = true then if inbB x1 6 = true then (if x2 ≤ (σ (rfT x0 2) (ix x1)) then (f_Tb_firstSitting_21 σ x0 x1) else (if 0 < (σ (rfT x0 1) (ix x1)) then (if inbB x1 6 = true then if (σ (rfT x0 1) (ix x1)) = 0 then none else (if ¬ (irm (x2 - (σ (rfT x0 2) (ix x1))) (σ (rfT x0 1) (ix x1))) = 0 then (f_Tb_firstSitting_55 σ ((x2 + (σ (rfT x0 1) (ix x1))) - (irm (x2 - (σ (rfT x0 2) (ix x1))) (σ (rfT x0 1) (ix x1))))) else (f_Tb_firstSitting_55 σ x2)) else none) else (f_Tb_firstSitting_21 σ x0 x1))) else none else none
set_option maxRecDepth 100000 in
set_option maxHeartbeats 4000000 in
theorem t_Tb_firstSitting {X : Xt} {S : Sh} (hS : ShOK S) {d : Nat} (hd : 0 ≤ d) (σ : Mm) (x0 : Nat) (x1 : Int32) (x2 : Int32) (h_x0 : tgT x0 = 8) : Rf X S (emI σ) (f_Tb_firstSitting σ x0 x1 x2) d 89 0 [.ref x0, .int x1, .int x2, unset0, unset0] [] σ := by
  unfold f_Tb_firstSitting
  refine rf_ald (i := 0) (Or.inr ⟨0, rfl, rfl, rfl⟩) c_89_0 rfl ?_
  refine rf_getr hS c_89_1 rfl fl_8_15 rfl h_x0 ?_
  refine rf_ild (i := 1) (Or.inr ⟨1, rfl, rfl, rfl⟩) c_89_4 rfl ?_
  refine rf_ite (fun hb5 => ?_) (fun _ => rf_none)
  refine rf_iald hS c_89_5 (tf_8_1 h_x0) (lf_8_1 h_x0) hb5 ?_
  refine rf_ist (i := 3) (Or.inr ⟨3, rfl, rfl, rfl⟩) c_89_6 (Nat.le_of_ble_eq_true rfl) rfl ?_
  refine rf_ild (i := 2) (Or.inr ⟨2, rfl, rfl, rfl⟩) c_89_7 rfl ?_
  refine rf_ald (i := 0) (Or.inr ⟨0, rfl, rfl, rfl⟩) c_89_8 rfl ?_
  refine rf_getr hS c_89_9 rfl fl_8_18 rfl h_x0 ?_
  refine rf_ild (i := 1) (Or.inr ⟨1, rfl, rfl, rfl⟩) c_89_12 rfl ?_
  refine rf_ite (fun hb13 => ?_) (fun _ => rf_none)
  refine rf_iald hS c_89_13 (tf_8_2 h_x0) (lf_8_2 h_x0) hb13 ?_
  refine rf_ite (fun hc14 => ?_) (fun hc14 => ?_)
  · refine rf_b2t c_89_14 rfl (decide_eq_true hc14) ?_
    exact t_Tb_firstSitting_21 hS hd σ  x0 x1 (.int x2) (.int (σ (rfT x0 1) (ix x1))) (unset0) h_x0
  · refine rf_b2f c_89_14 rfl (decide_eq_false hc14) ?_
    refine rf_ild (i := 3) (Or.inr ⟨3, rfl, rfl, rfl⟩) c_89_17 rfl ?_
    refine rf_ite (fun hc18 => ?_) (fun hc18 => ?_)
    · refine rf_b1t c_89_18 rfl (decide_eq_true hc18) ?_
      refine rf_ild (i := 2) (Or.inr ⟨2, rfl, rfl, rfl⟩) c_89_28 rfl ?_
      refine rf_ald (i := 0) (Or.inr ⟨0, rfl, rfl, rfl⟩) c_89_29 rfl ?_
      refine rf_getr hS c_89_30 rfl fl_8_18 rfl h_x0 ?_
      refine rf_ild (i := 1) (Or.inr ⟨1, rfl, rfl, rfl⟩) c_89_33 rfl ?_
      refine rf_ite (fun hb34 => ?_) (fun _ => rf_none)
      refine rf_iald hS c_89_34 (tf_8_2 h_x0) (lf_8_2 h_x0) hb34 ?_
      refine rf_isub c_89_35 ?_
      refine rf_ild (i := 3) (Or.inr ⟨3, rfl, rfl, rfl⟩) c_89_36 rfl ?_
      refine rf_ite (fun _ => rf_none) (fun hz37 => ?_)
      refine rf_irem c_89_37 hz37 ?_
      refine rf_ist (i := 4) (Or.inl ⟨rfl, rfl⟩) c_89_38 (Nat.le_of_ble_eq_true rfl) rfl ?_
      refine rf_ild (i := 4) (Or.inl ⟨rfl, rfl⟩) c_89_40 rfl ?_
      refine rf_ite (fun hc42 => ?_) (fun hc42 => ?_)
      · refine rf_b1t c_89_42 rfl (decide_eq_true hc42) ?_
        refine rf_ild (i := 2) (Or.inr ⟨2, rfl, rfl, rfl⟩) c_89_49 rfl ?_
        refine rf_ild (i := 3) (Or.inr ⟨3, rfl, rfl, rfl⟩) c_89_50 rfl ?_
        refine rf_iadd c_89_51 ?_
        refine rf_ild (i := 4) (Or.inl ⟨rfl, rfl⟩) c_89_52 rfl ?_
        refine rf_isub c_89_54 ?_
        exact t_Tb_firstSitting_55 hS hd σ  ((x2 + (σ (rfT x0 1) (ix x1))) - (irm (x2 - (σ (rfT x0 2) (ix x1))) (σ (rfT x0 1) (ix x1)))) (.ref x0) (.int x1) (.int x2) (.int (σ (rfT x0 1) (ix x1))) (.int (irm (x2 - (σ (rfT x0 2) (ix x1))) (σ (rfT x0 1) (ix x1))))
      · refine rf_b1f c_89_42 rfl (decide_eq_false hc42) ?_
        refine rf_ild (i := 2) (Or.inr ⟨2, rfl, rfl, rfl⟩) c_89_45 rfl ?_
        refine rf_goto c_89_46 rfl ?_
        exact t_Tb_firstSitting_55 hS hd σ  x2 (.ref x0) (.int x1) (.int x2) (.int (σ (rfT x0 1) (ix x1))) (.int (irm (x2 - (σ (rfT x0 2) (ix x1))) (σ (rfT x0 1) (ix x1))))
    · refine rf_b1f c_89_18 rfl (decide_eq_false hc18) ?_
      exact t_Tb_firstSitting_21 hS hd σ  x0 x1 (.int x2) (.int (σ (rfT x0 1) (ix x1))) (unset0) h_x0
theorem c_88_0 : cd 88 0 = some (.aload_n 0, 1) := by decide +kernel
theorem c_88_1 : cd 88 1 = some (.iload_n 1, 1) := by decide +kernel
theorem c_88_2 : cd 88 2 = some (.iload_n 2, 1) := by decide +kernel
theorem c_88_3 : cd 88 3 = some (.invokevirtual 43, 3) := by decide +kernel
theorem c_88_6 : cd 88 6 = some (.iload_n 2, 1) := by decide +kernel
theorem c_88_7 : cd 88 7 = some (.if_icmp .ne (7), 3) := by decide +kernel
theorem c_88_10 : cd 88 10 = some (.iconst (1), 1) := by decide +kernel
theorem c_88_11 : cd 88 11 = some (.goto (4), 3) := by decide +kernel
theorem c_88_14 : cd 88 14 = some (.iconst (0), 1) := by decide +kernel
theorem c_88_15 : cd 88 15 = some (.ireturn, 1) := by decide +kernel
def f_Tb_sitsOn_15 (σ : Mm) (y0 : Int32) : Option Int32 := if zB y0 = true then some y0 else none
set_option maxRecDepth 100000 in
set_option maxHeartbeats 4000000 in
theorem t_Tb_sitsOn_15 {X : Xt} {S : Sh} (hS : ShOK S) {d : Nat} (hd : 1 ≤ d + 1) (σ : Mm) (y0 : Int32) (u0 : Value) (u1 : Value) (u2 : Value) : Rf X S (emI σ) (f_Tb_sitsOn_15 σ y0) (d + 1) 88 15 [u0, u1, u2] [.int y0] σ := by
  unfold f_Tb_sitsOn_15
  refine rf_ite (fun hq15 => ?_) (fun _ => rf_none)
  exact rf_ret c_88_15 rfl (zB_n hq15) rfl rfl
def f_Tb_sitsOn (σ : Mm) (x0 : Nat) (x1 : Int32) (x2 : Int32) : Option Int32 := (f_Tb_firstSitting σ x0 x1 x2).bind fun v3 => (if ¬ v3 = x2 then (f_Tb_sitsOn_15 σ (0 : Int32)) else (f_Tb_sitsOn_15 σ (1 : Int32)))
set_option maxRecDepth 100000 in
set_option maxHeartbeats 4000000 in
theorem t_Tb_sitsOn_e {X : Xt} {S : Sh} (hS : ShOK S) {d : Nat} (hd : 1 ≤ d + 1) (σ : Mm) (x0 : Nat) (x1 : Int32) (x2 : Int32) (h_x0 : tgT x0 = 8) : Rf X S (emI σ) (f_Tb_sitsOn σ x0 x1 x2) (d + 1) 88 0 [.ref x0, .int x1, .int x2] [] σ := by
  unfold f_Tb_sitsOn
  refine rf_ald (i := 0) (Or.inr ⟨0, rfl, rfl, rfl⟩) c_88_0 rfl ?_
  refine rf_ild (i := 1) (Or.inr ⟨1, rfl, rfl, rfl⟩) c_88_1 rfl ?_
  refine rf_ild (i := 2) (Or.inr ⟨2, rfl, rfl, rfl⟩) c_88_2 rfl ?_
  refine rf_callI (as := [.ref x0, .int x1, .int x2]) (kd := 1) c_88_3 rfl (by decide) rfl ml_8_43 (by decide) rfl (rcv_1 hS rfl rfl h_x0 (by decide)) (Nat.zero_le _) rfl rfl (t_Tb_firstSitting hS (by omega) σ x0 x1 x2 h_x0) (fun v3 => ?_)
  refine rf_ild (i := 2) (Or.inr ⟨2, rfl, rfl, rfl⟩) c_88_6 rfl ?_
  refine rf_ite (fun hc7 => ?_) (fun hc7 => ?_)
  · refine rf_b2t c_88_7 rfl (decide_eq_true hc7) ?_
    refine rf_iconst c_88_14 ki_0 ?_
    exact t_Tb_sitsOn_15 hS hd σ  (0 : Int32) (.ref x0) (.int x1) (.int x2)
  · refine rf_b2f c_88_7 rfl (decide_eq_false hc7) ?_
    refine rf_iconst c_88_10 ki_1 ?_
    refine rf_goto c_88_11 rfl ?_
    exact t_Tb_sitsOn_15 hS hd σ  (1 : Int32) (.ref x0) (.int x1) (.int x2)
theorem t_Tb_sitsOn {X : Xt} {S : Sh} (hS : ShOK S) {d : Nat} (hd : 1 ≤ d) (σ : Mm) (x0 : Nat) (x1 : Int32) (x2 : Int32) (h_x0 : tgT x0 = 8) : Rf X S (emI σ) (f_Tb_sitsOn σ x0 x1 x2) d 88 0 [.ref x0, .int x1, .int x2] [] σ := by
  obtain ⟨d1, rfl⟩ : ∃ d1, d = d1 + 1 := ⟨d - 1, by omega⟩
  exact t_Tb_sitsOn_e hS hd σ x0 x1 x2 h_x0
theorem c_322_0 : cd 322 0 = some (.iload_n 0, 1) := by decide +kernel
theorem c_322_1 : cd 322 1 = some (.iconst (-1), 1) := by decide +kernel
theorem c_322_2 : cd 322 2 = some (.ixor, 1) := by decide +kernel
theorem c_322_3 : cd 322 3 = some (.iload_n 0, 1) := by decide +kernel
theorem c_322_4 : cd 322 4 = some (.iconst (1), 1) := by decide +kernel
theorem c_322_5 : cd 322 5 = some (.isub, 1) := by decide +kernel
theorem c_322_6 : cd 322 6 = some (.iand, 1) := by decide +kernel
theorem c_322_7 : cd 322 7 = some (.istore_n 0, 1) := by decide +kernel
theorem c_322_8 : cd 322 8 = some (.iload_n 0, 1) := by decide +kernel
theorem c_322_9 : cd 322 9 = some (.ifCond .gt (8), 3) := by decide +kernel
theorem c_322_12 : cd 322 12 = some (.iload_n 0, 1) := by decide +kernel
theorem c_322_13 : cd 322 13 = some (.bipush (32), 2) := by decide +kernel
theorem c_322_15 : cd 322 15 = some (.iand, 1) := by decide +kernel
theorem c_322_16 : cd 322 16 = some (.ireturn, 1) := by decide +kernel
theorem c_322_17 : cd 322 17 = some (.iconst (1), 1) := by decide +kernel
theorem c_322_18 : cd 322 18 = some (.istore_n 1, 1) := by decide +kernel
theorem c_322_19 : cd 322 19 = some (.iload_n 0, 1) := by decide +kernel
theorem c_322_20 : cd 322 20 = some (.ldc_w 264, 3) := by decide +kernel
theorem c_322_23 : cd 322 23 = some (.if_icmp .le (11), 3) := by decide +kernel
theorem c_322_26 : cd 322 26 = some (.iinc 1 (16), 3) := by decide +kernel
theorem c_322_29 : cd 322 29 = some (.iload_n 0, 1) := by decide +kernel
theorem c_322_30 : cd 322 30 = some (.bipush (16), 2) := by decide +kernel
theorem c_322_32 : cd 322 32 = some (.iushr, 1) := by decide +kernel
theorem c_322_33 : cd 322 33 = some (.istore_n 0, 1) := by decide +kernel
theorem c_322_34 : cd 322 34 = some (.iload_n 0, 1) := by decide +kernel
theorem c_322_35 : cd 322 35 = some (.sipush (256), 3) := by decide +kernel
theorem c_322_38 : cd 322 38 = some (.if_icmp .le (11), 3) := by decide +kernel
theorem c_322_41 : cd 322 41 = some (.iinc 1 (8), 3) := by decide +kernel
theorem c_322_44 : cd 322 44 = some (.iload_n 0, 1) := by decide +kernel
theorem c_322_45 : cd 322 45 = some (.bipush (8), 2) := by decide +kernel
theorem c_322_47 : cd 322 47 = some (.iushr, 1) := by decide +kernel
theorem c_322_48 : cd 322 48 = some (.istore_n 0, 1) := by decide +kernel
theorem c_322_49 : cd 322 49 = some (.iload_n 0, 1) := by decide +kernel
theorem c_322_50 : cd 322 50 = some (.bipush (16), 2) := by decide +kernel
theorem c_322_52 : cd 322 52 = some (.if_icmp .le (10), 3) := by decide +kernel
theorem c_322_55 : cd 322 55 = some (.iinc 1 (4), 3) := by decide +kernel
theorem c_322_58 : cd 322 58 = some (.iload_n 0, 1) := by decide +kernel
theorem c_322_59 : cd 322 59 = some (.iconst (4), 1) := by decide +kernel
theorem c_322_60 : cd 322 60 = some (.iushr, 1) := by decide +kernel
theorem c_322_61 : cd 322 61 = some (.istore_n 0, 1) := by decide +kernel
theorem c_322_62 : cd 322 62 = some (.iload_n 0, 1) := by decide +kernel
theorem c_322_63 : cd 322 63 = some (.iconst (4), 1) := by decide +kernel
theorem c_322_64 : cd 322 64 = some (.if_icmp .le (10), 3) := by decide +kernel
theorem c_322_67 : cd 322 67 = some (.iinc 1 (2), 3) := by decide +kernel
theorem c_322_70 : cd 322 70 = some (.iload_n 0, 1) := by decide +kernel
theorem c_322_71 : cd 322 71 = some (.iconst (2), 1) := by decide +kernel
theorem c_322_72 : cd 322 72 = some (.iushr, 1) := by decide +kernel
theorem c_322_73 : cd 322 73 = some (.istore_n 0, 1) := by decide +kernel
theorem c_322_74 : cd 322 74 = some (.iload_n 1, 1) := by decide +kernel
theorem c_322_75 : cd 322 75 = some (.iload_n 0, 1) := by decide +kernel
theorem c_322_76 : cd 322 76 = some (.iconst (1), 1) := by decide +kernel
theorem c_322_77 : cd 322 77 = some (.iushr, 1) := by decide +kernel
theorem c_322_78 : cd 322 78 = some (.iadd, 1) := by decide +kernel
theorem c_322_79 : cd 322 79 = some (.ireturn, 1) := by decide +kernel
def f_In_numberOfTrailingZeros_74 (σ : Mm) (x0 : Int32) (x1 : Int32) : Option Int32 := some (x1 + (ush x0 (1 : Int32)))
set_option maxRecDepth 100000 in
set_option maxHeartbeats 4000000 in
theorem t_In_numberOfTrailingZeros_74 {X : Xt} {S : Sh} (hS : ShOK S) {d : Nat} (hd : 0 ≤ d) (σ : Mm) (x0 : Int32) (x1 : Int32) : Rf X S (emI σ) (f_In_numberOfTrailingZeros_74 σ x0 x1) d 322 74 [.int x0, .int x1] [] σ := by
  unfold f_In_numberOfTrailingZeros_74
  refine rf_ild (i := 1) (Or.inr ⟨1, rfl, rfl, rfl⟩) c_322_74 rfl ?_
  refine rf_ild (i := 0) (Or.inr ⟨0, rfl, rfl, rfl⟩) c_322_75 rfl ?_
  refine rf_iconst c_322_76 ki_1 ?_
  refine rf_iushr c_322_77 ?_
  refine rf_iadd c_322_78 ?_
  exact rf_ret c_322_79 rfl rfl rfl rfl
def f_In_numberOfTrailingZeros_62 (σ : Mm) (x0 : Int32) (x1 : Int32) : Option Int32 := (if x0 ≤ (4 : Int32) then (f_In_numberOfTrailingZeros_74 σ x0 x1) else (f_In_numberOfTrailingZeros_74 σ (ush x0 (2 : Int32)) (x1 + (2 : Int32))))
set_option maxRecDepth 100000 in
set_option maxHeartbeats 4000000 in
theorem t_In_numberOfTrailingZeros_62 {X : Xt} {S : Sh} (hS : ShOK S) {d : Nat} (hd : 0 ≤ d) (σ : Mm) (x0 : Int32) (x1 : Int32) : Rf X S (emI σ) (f_In_numberOfTrailingZeros_62 σ x0 x1) d 322 62 [.int x0, .int x1] [] σ := by
  unfold f_In_numberOfTrailingZeros_62
  refine rf_ild (i := 0) (Or.inr ⟨0, rfl, rfl, rfl⟩) c_322_62 rfl ?_
  refine rf_iconst c_322_63 ki_4 ?_
  refine rf_ite (fun hc64 => ?_) (fun hc64 => ?_)
  · refine rf_b2t c_322_64 rfl (decide_eq_true hc64) ?_
    exact t_In_numberOfTrailingZeros_74 hS hd σ  x0 x1
  · refine rf_b2f c_322_64 rfl (decide_eq_false hc64) ?_
    refine rf_iinc c_322_67 rfl ki_2 rfl ?_
    refine rf_ild (i := 0) (Or.inr ⟨0, rfl, rfl, rfl⟩) c_322_70 rfl ?_
    refine rf_iconst c_322_71 ki_2 ?_
    refine rf_iushr c_322_72 ?_
    refine rf_ist (i := 0) (Or.inr ⟨0, rfl, rfl, rfl⟩) c_322_73 (Nat.le_of_ble_eq_true rfl) rfl ?_
    exact t_In_numberOfTrailingZeros_74 hS hd σ  (ush x0 (2 : Int32)) (x1 + (2 : Int32))
def f_In_numberOfTrailingZeros_49 (σ : Mm) (x0 : Int32) (x1 : Int32) : Option Int32 := (if x0 ≤ (16 : Int32) then (f_In_numberOfTrailingZeros_62 σ x0 x1) else (f_In_numberOfTrailingZeros_62 σ (ush x0 (4 : Int32)) (x1 + (4 : Int32))))
set_option maxRecDepth 100000 in
set_option maxHeartbeats 4000000 in
theorem t_In_numberOfTrailingZeros_49 {X : Xt} {S : Sh} (hS : ShOK S) {d : Nat} (hd : 0 ≤ d) (σ : Mm) (x0 : Int32) (x1 : Int32) : Rf X S (emI σ) (f_In_numberOfTrailingZeros_49 σ x0 x1) d 322 49 [.int x0, .int x1] [] σ := by
  unfold f_In_numberOfTrailingZeros_49
  refine rf_ild (i := 0) (Or.inr ⟨0, rfl, rfl, rfl⟩) c_322_49 rfl ?_
  refine rf_bipush c_322_50 kb_16 ?_
  refine rf_ite (fun hc52 => ?_) (fun hc52 => ?_)
  · refine rf_b2t c_322_52 rfl (decide_eq_true hc52) ?_
    exact t_In_numberOfTrailingZeros_62 hS hd σ  x0 x1
  · refine rf_b2f c_322_52 rfl (decide_eq_false hc52) ?_
    refine rf_iinc c_322_55 rfl ki_4 rfl ?_
    refine rf_ild (i := 0) (Or.inr ⟨0, rfl, rfl, rfl⟩) c_322_58 rfl ?_
    refine rf_iconst c_322_59 ki_4 ?_
    refine rf_iushr c_322_60 ?_
    refine rf_ist (i := 0) (Or.inr ⟨0, rfl, rfl, rfl⟩) c_322_61 (Nat.le_of_ble_eq_true rfl) rfl ?_
    exact t_In_numberOfTrailingZeros_62 hS hd σ  (ush x0 (4 : Int32)) (x1 + (4 : Int32))
def f_In_numberOfTrailingZeros_34 (σ : Mm) (x0 : Int32) (x1 : Int32) : Option Int32 := (if x0 ≤ (256 : Int32) then (f_In_numberOfTrailingZeros_49 σ x0 x1) else (f_In_numberOfTrailingZeros_49 σ (ush x0 (8 : Int32)) (x1 + (8 : Int32))))
set_option maxRecDepth 100000 in
set_option maxHeartbeats 4000000 in
theorem t_In_numberOfTrailingZeros_34 {X : Xt} {S : Sh} (hS : ShOK S) {d : Nat} (hd : 0 ≤ d) (σ : Mm) (x0 : Int32) (x1 : Int32) : Rf X S (emI σ) (f_In_numberOfTrailingZeros_34 σ x0 x1) d 322 34 [.int x0, .int x1] [] σ := by
  unfold f_In_numberOfTrailingZeros_34
  refine rf_ild (i := 0) (Or.inr ⟨0, rfl, rfl, rfl⟩) c_322_34 rfl ?_
  refine rf_sipush c_322_35 ks_256 ?_
  refine rf_ite (fun hc38 => ?_) (fun hc38 => ?_)
  · refine rf_b2t c_322_38 rfl (decide_eq_true hc38) ?_
    exact t_In_numberOfTrailingZeros_49 hS hd σ  x0 x1
  · refine rf_b2f c_322_38 rfl (decide_eq_false hc38) ?_
    refine rf_iinc c_322_41 rfl ki_8 rfl ?_
    refine rf_ild (i := 0) (Or.inr ⟨0, rfl, rfl, rfl⟩) c_322_44 rfl ?_
    refine rf_bipush c_322_45 kb_8 ?_
    refine rf_iushr c_322_47 ?_
    refine rf_ist (i := 0) (Or.inr ⟨0, rfl, rfl, rfl⟩) c_322_48 (Nat.le_of_ble_eq_true rfl) rfl ?_
    exact t_In_numberOfTrailingZeros_49 hS hd σ  (ush x0 (8 : Int32)) (x1 + (8 : Int32))
def f_In_numberOfTrailingZeros (σ : Mm) (x0 : Int32) : Option Int32 := (if 0 < ((x0 ^^^ (-1 : Int32)) &&& (x0 - (1 : Int32))) then (if ((x0 ^^^ (-1 : Int32)) &&& (x0 - (1 : Int32))) ≤ (65536 : Int32) then (f_In_numberOfTrailingZeros_34 σ ((x0 ^^^ (-1 : Int32)) &&& (x0 - (1 : Int32))) (1 : Int32)) else (f_In_numberOfTrailingZeros_34 σ (ush ((x0 ^^^ (-1 : Int32)) &&& (x0 - (1 : Int32))) (16 : Int32)) ((1 : Int32) + (16 : Int32)))) else (some (((x0 ^^^ (-1 : Int32)) &&& (x0 - (1 : Int32))) &&& (32 : Int32))))
set_option maxRecDepth 100000 in
set_option maxHeartbeats 4000000 in
theorem t_In_numberOfTrailingZeros {X : Xt} {S : Sh} (hS : ShOK S) {d : Nat} (hd : 0 ≤ d) (σ : Mm) (x0 : Int32) : Rf X S (emI σ) (f_In_numberOfTrailingZeros σ x0) d 322 0 [.int x0, unset0] [] σ := by
  unfold f_In_numberOfTrailingZeros
  refine rf_ild (i := 0) (Or.inr ⟨0, rfl, rfl, rfl⟩) c_322_0 rfl ?_
  refine rf_iconst c_322_1 ki_m1 ?_
  refine rf_ixor c_322_2 ?_
  refine rf_ild (i := 0) (Or.inr ⟨0, rfl, rfl, rfl⟩) c_322_3 rfl ?_
  refine rf_iconst c_322_4 ki_1 ?_
  refine rf_isub c_322_5 ?_
  refine rf_iand c_322_6 ?_
  refine rf_ist (i := 0) (Or.inr ⟨0, rfl, rfl, rfl⟩) c_322_7 (Nat.le_of_ble_eq_true rfl) rfl ?_
  refine rf_ild (i := 0) (Or.inr ⟨0, rfl, rfl, rfl⟩) c_322_8 rfl ?_
  refine rf_ite (fun hc9 => ?_) (fun hc9 => ?_)
  · refine rf_b1t c_322_9 rfl (decide_eq_true hc9) ?_
    refine rf_iconst c_322_17 ki_1 ?_
    refine rf_ist (i := 1) (Or.inr ⟨1, rfl, rfl, rfl⟩) c_322_18 (Nat.le_of_ble_eq_true rfl) rfl ?_
    refine rf_ild (i := 0) (Or.inr ⟨0, rfl, rfl, rfl⟩) c_322_19 rfl ?_
    refine rf_ldc (Or.inr ⟨rfl, rfl⟩) c_322_20 rfl kl_14_264 ?_
    refine rf_ite (fun hc23 => ?_) (fun hc23 => ?_)
    · refine rf_b2t c_322_23 rfl (decide_eq_true hc23) ?_
      exact t_In_numberOfTrailingZeros_34 hS hd σ  ((x0 ^^^ (-1 : Int32)) &&& (x0 - (1 : Int32))) (1 : Int32)
    · refine rf_b2f c_322_23 rfl (decide_eq_false hc23) ?_
      refine rf_iinc c_322_26 rfl ki_16 rfl ?_
      refine rf_ild (i := 0) (Or.inr ⟨0, rfl, rfl, rfl⟩) c_322_29 rfl ?_
      refine rf_bipush c_322_30 kb_16 ?_
      refine rf_iushr c_322_32 ?_
      refine rf_ist (i := 0) (Or.inr ⟨0, rfl, rfl, rfl⟩) c_322_33 (Nat.le_of_ble_eq_true rfl) rfl ?_
      exact t_In_numberOfTrailingZeros_34 hS hd σ  (ush ((x0 ^^^ (-1 : Int32)) &&& (x0 - (1 : Int32))) (16 : Int32)) ((1 : Int32) + (16 : Int32))
  · refine rf_b1f c_322_9 rfl (decide_eq_false hc9) ?_
    refine rf_ild (i := 0) (Or.inr ⟨0, rfl, rfl, rfl⟩) c_322_12 rfl ?_
    refine rf_bipush c_322_13 kb_32 ?_
    refine rf_iand c_322_15 ?_
    exact rf_ret c_322_16 rfl rfl rfl rfl
theorem c_72_0 : cd 72 0 = some (.aload_n 1, 1) := by decide +kernel
theorem c_72_1 : cd 72 1 = some (.invokevirtual 138, 3) := by decide +kernel
theorem c_72_4 : cd 72 4 = some (.ifCond .ne (5), 3) := by decide +kernel
theorem c_72_7 : cd 72 7 = some (.iconst (1), 1) := by decide +kernel
theorem c_72_8 : cd 72 8 = some (.ireturn, 1) := by decide +kernel
theorem c_72_9 : cd 72 9 = some (.aload_n 0, 1) := by decide +kernel
theorem c_72_10 : cd 72 10 = some (.aload_n 1, 1) := by decide +kernel
theorem c_72_11 : cd 72 11 = some (.invokevirtual 112, 3) := by decide +kernel
theorem c_72_14 : cd 72 14 = some (.istore_n 3, 1) := by decide +kernel
theorem c_72_15 : cd 72 15 = some (.aload_n 0, 1) := by decide +kernel
theorem c_72_16 : cd 72 16 = some (.iload_n 3, 1) := by decide +kernel
theorem c_72_17 : cd 72 17 = some (.aload_n 1, 1) := by decide +kernel
theorem c_72_18 : cd 72 18 = some (.iconst (0), 1) := by decide +kernel
theorem c_72_19 : cd 72 19 = some (.invokevirtual 116, 3) := by decide +kernel
theorem c_72_22 : cd 72 22 = some (.iload_n 2, 1) := by decide +kernel
theorem c_72_23 : cd 72 23 = some (.if_icmp .eq (5), 3) := by decide +kernel
theorem c_72_26 : cd 72 26 = some (.iconst (2), 1) := by decide +kernel
theorem c_72_27 : cd 72 27 = some (.ireturn, 1) := by decide +kernel
theorem c_72_28 : cd 72 28 = some (.aload_n 0, 1) := by decide +kernel
theorem c_72_29 : cd 72 29 = some (.getfield 21, 3) := by decide +kernel
theorem c_72_32 : cd 72 32 = some (.iload_n 2, 1) := by decide +kernel
theorem c_72_33 : cd 72 33 = some (.aload_n 0, 1) := by decide +kernel
theorem c_72_34 : cd 72 34 = some (.getfield 86, 3) := by decide +kernel
theorem c_72_37 : cd 72 37 = some (.invokevirtual 142, 3) := by decide +kernel
theorem c_72_40 : cd 72 40 = some (.ifCond .ne (5), 3) := by decide +kernel
theorem c_72_43 : cd 72 43 = some (.iconst (3), 1) := by decide +kernel
theorem c_72_44 : cd 72 44 = some (.ireturn, 1) := by decide +kernel
theorem c_72_45 : cd 72 45 = some (.aload_n 0, 1) := by decide +kernel
theorem c_72_46 : cd 72 46 = some (.getfield 86, 3) := by decide +kernel
theorem c_72_49 : cd 72 49 = some (.aload_n 1, 1) := by decide +kernel
theorem c_72_50 : cd 72 50 = some (.getfield 146, 3) := by decide +kernel
theorem c_72_53 : cd 72 53 = some (.isub, 1) := by decide +kernel
theorem c_72_54 : cd 72 54 = some (.aload_n 0, 1) := by decide +kernel
theorem c_72_55 : cd 72 55 = some (.iload_n 3, 1) := by decide +kernel
theorem c_72_56 : cd 72 56 = some (.aload_n 1, 1) := by decide +kernel
theorem c_72_57 : cd 72 57 = some (.iconst (1), 1) := by decide +kernel
theorem c_72_58 : cd 72 58 = some (.invokevirtual 116, 3) := by decide +kernel
theorem c_72_61 : cd 72 61 = some (.if_icmp .ge (5), 3) := by decide +kernel
theorem c_72_64 : cd 72 64 = some (.iconst (4), 1) := by decide +kernel
theorem c_72_65 : cd 72 65 = some (.ireturn, 1) := by decide +kernel
theorem c_72_66 : cd 72 66 = some (.aload_n 0, 1) := by decide +kernel
theorem c_72_67 : cd 72 67 = some (.iload_n 3, 1) := by decide +kernel
theorem c_72_68 : cd 72 68 = some (.invokevirtual 120, 3) := by decide +kernel
theorem c_72_71 : cd 72 71 = some (.aload_n 1, 1) := by decide +kernel
theorem c_72_72 : cd 72 72 = some (.getfield 149, 3) := by decide +kernel
theorem c_72_75 : cd 72 75 = some (.iconst (-1), 1) := by decide +kernel
theorem c_72_76 : cd 72 76 = some (.ixor, 1) := by decide +kernel
theorem c_72_77 : cd 72 77 = some (.iand, 1) := by decide +kernel
theorem c_72_78 : cd 72 78 = some (.istore 4, 2) := by decide +kernel
theorem c_72_80 : cd 72 80 = some (.iload 4, 2) := by decide +kernel
theorem c_72_82 : cd 72 82 = some (.ifCond .ne (7), 3) := by decide +kernel
theorem c_72_85 : cd 72 85 = some (.iconst (0), 1) := by decide +kernel
theorem c_72_86 : cd 72 86 = some (.goto (11), 3) := by decide +kernel
theorem c_72_89 : cd 72 89 = some (.bipush (10), 2) := by decide +kernel
theorem c_72_91 : cd 72 91 = some (.iload 4, 2) := by decide +kernel
theorem c_72_93 : cd 72 93 = some (.invokestatic 152, 3) := by decide +kernel
theorem c_72_96 : cd 72 96 = some (.iadd, 1) := by decide +kernel
theorem c_72_97 : cd 72 97 = some (.ireturn, 1) := by decide +kernel
def f_St_whatLacks_97 (σ : Mm) (y0 : Int32) : Option Int32 := some y0
set_option maxRecDepth 100000 in
set_option maxHeartbeats 4000000 in
theorem t_St_whatLacks_97 {X : Xt} {S : Sh} (hS : ShOK S) {d : Nat} (hd : 9 ≤ d + 1) (σ : Mm) (y0 : Int32) (u0 : Value) (u1 : Value) (u2 : Value) (u3 : Value) (u4 : Value) : Rf X S (emI σ) (f_St_whatLacks_97 σ y0) (d + 1) 72 97 [u0, u1, u2, u3, u4] [.int y0] σ := by
  unfold f_St_whatLacks_97
  exact rf_ret c_72_97 rfl rfl rfl rfl
def f_St_whatLacks (σ : Mm) (x0 : Nat) (x1 : Nat) (x2 : Int32) : Option Int32 := (f_Pa_isUnderWay σ x1).bind fun v1 => (if ¬ v1 = 0 then ((f_St_countingRules σ x0 x1).bind fun v11 => (f_St_dueBy σ x0 v11 x1 (0 : Int32)).bind fun v19 => (if v19 = x2 then ((f_Tb_sitsOn σ (rfT x0 1) x2 (σ x0 8)).bind fun v37 => (if ¬ v37 = 0 then ((f_St_dueBy σ x0 v11 x1 (1 : Int32)).bind fun v58 => (if v58 ≤ ((σ x0 8) - (σ x1 5)) then ((f_St_neededOffices σ x0 v11).bind fun v68 => (if ¬ (v68 &&& ((σ x1 7) ^^^ (-1 : Int32))) = 0 then ((f_In_numberOfTrailingZeros σ (v68 &&& ((σ x1 7) ^^^ (-1 : Int32)))).bind fun v93 => f_St_whatLacks_97 σ ((10 : Int32) + v93)) else (f_St_whatLacks_97 σ (0 : Int32)))) else (some (4 : Int32)))) else (some (3 : Int32)))) else (some (2 : Int32)))) else (some (1 : Int32)))
set_option maxRecDepth 100000 in
set_option maxHeartbeats 4000000 in
theorem t_St_whatLacks_e {X : Xt} {S : Sh} (hS : ShOK S) {d : Nat} (hd : 9 ≤ d + 1) (σ : Mm) (x0 : Nat) (x1 : Nat) (x2 : Int32) (h_x0 : tgT x0 = 7) (h_x1 : tgT x1 = 3) : Rf X S (emI σ) (f_St_whatLacks σ x0 x1 x2) (d + 1) 72 0 [.ref x0, .ref x1, .int x2, unset0, unset0] [] σ := by
  unfold f_St_whatLacks
  refine rf_ald (i := 1) (Or.inr ⟨1, rfl, rfl, rfl⟩) c_72_0 rfl ?_
  refine rf_callI (as := [.ref x1]) (kd := 1) c_72_1 rfl (by decide) rfl ml_7_138 (by decide) rfl (rcv_1 hS rfl rfl h_x1 (by decide)) (Nat.zero_le _) rfl rfl (t_Pa_isUnderWay hS (by omega) σ x1 h_x1) (fun v1 => ?_)
  refine rf_ite (fun hc4 => ?_) (fun hc4 => ?_)
  · refine rf_b1t c_72_4 rfl (decide_eq_true hc4) ?_
    refine rf_ald (i := 0) (Or.inr ⟨0, rfl, rfl, rfl⟩) c_72_9 rfl ?_
    refine rf_ald (i := 1) (Or.inr ⟨1, rfl, rfl, rfl⟩) c_72_10 rfl ?_
    refine rf_callI (as := [.ref x0, .ref x1]) (kd := 1) c_72_11 rfl (by decide) rfl ml_7_112 (by decide) rfl (rcv_1 hS rfl rfl h_x0 (by decide)) (Nat.zero_le _) rfl rfl (t_St_countingRules hS (by omega) σ x0 x1 h_x0 h_x1) (fun v11 => ?_)
    refine rf_ist (i := 3) (Or.inr ⟨3, rfl, rfl, rfl⟩) c_72_14 (Nat.le_of_ble_eq_true rfl) rfl ?_
    refine rf_ald (i := 0) (Or.inr ⟨0, rfl, rfl, rfl⟩) c_72_15 rfl ?_
    refine rf_ild (i := 3) (Or.inr ⟨3, rfl, rfl, rfl⟩) c_72_16 rfl ?_
    refine rf_ald (i := 1) (Or.inr ⟨1, rfl, rfl, rfl⟩) c_72_17 rfl ?_
    refine rf_iconst c_72_18 ki_0 ?_
    refine rf_callI (as := [.ref x0, .int v11, .ref x1, .int (0 : Int32)]) (kd := 1) c_72_19 rfl (by decide) rfl ml_7_116 (by decide) rfl (rcv_1 hS rfl rfl h_x0 (by decide)) (Nat.zero_le _) rfl rfl (t_St_dueBy hS (by omega) σ x0 v11 x1 (0 : Int32) h_x0 h_x1) (fun v19 => ?_)
    refine rf_ild (i := 2) (Or.inr ⟨2, rfl, rfl, rfl⟩) c_72_22 rfl ?_
    refine rf_ite (fun hc23 => ?_) (fun hc23 => ?_)
    · refine rf_b2t c_72_23 rfl (decide_eq_true hc23) ?_
      refine rf_ald (i := 0) (Or.inr ⟨0, rfl, rfl, rfl⟩) c_72_28 rfl ?_
      refine rf_getr hS c_72_29 rfl fl_7_21 rfl h_x0 ?_
      refine rf_ild (i := 2) (Or.inr ⟨2, rfl, rfl, rfl⟩) c_72_32 rfl ?_
      refine rf_ald (i := 0) (Or.inr ⟨0, rfl, rfl, rfl⟩) c_72_33 rfl ?_
      refine rf_geti hS c_72_34 rfl fl_7_86 rfl h_x0 ?_
      refine rf_callI (as := [.ref (rfT x0 1), .int x2, .int (σ x0 8)]) (kd := 1) c_72_37 rfl (by decide) rfl ml_7_142 (by decide) rfl (rcv_1 hS rfl rfl (tf_7_1 h_x0) (by decide)) (Nat.zero_le _) rfl rfl (t_Tb_sitsOn hS (by omega) σ (rfT x0 1) x2 (σ x0 8) (tf_7_1 h_x0)) (fun v37 => ?_)
      refine rf_ite (fun hc40 => ?_) (fun hc40 => ?_)
      · refine rf_b1t c_72_40 rfl (decide_eq_true hc40) ?_
        refine rf_ald (i := 0) (Or.inr ⟨0, rfl, rfl, rfl⟩) c_72_45 rfl ?_
        refine rf_geti hS c_72_46 rfl fl_7_86 rfl h_x0 ?_
        refine rf_ald (i := 1) (Or.inr ⟨1, rfl, rfl, rfl⟩) c_72_49 rfl ?_
        refine rf_geti hS c_72_50 rfl fl_7_146 rfl h_x1 ?_
        refine rf_isub c_72_53 ?_
        refine rf_ald (i := 0) (Or.inr ⟨0, rfl, rfl, rfl⟩) c_72_54 rfl ?_
        refine rf_ild (i := 3) (Or.inr ⟨3, rfl, rfl, rfl⟩) c_72_55 rfl ?_
        refine rf_ald (i := 1) (Or.inr ⟨1, rfl, rfl, rfl⟩) c_72_56 rfl ?_
        refine rf_iconst c_72_57 ki_1 ?_
        refine rf_callI (as := [.ref x0, .int v11, .ref x1, .int (1 : Int32)]) (kd := 1) c_72_58 rfl (by decide) rfl ml_7_116 (by decide) rfl (rcv_1 hS rfl rfl h_x0 (by decide)) (by simp [Value.category]) rfl rfl (t_St_dueBy hS (by omega) σ x0 v11 x1 (1 : Int32) h_x0 h_x1) (fun v58 => ?_)
        refine rf_ite (fun hc61 => ?_) (fun hc61 => ?_)
        · refine rf_b2t c_72_61 rfl (decide_eq_true hc61) ?_
          refine rf_ald (i := 0) (Or.inr ⟨0, rfl, rfl, rfl⟩) c_72_66 rfl ?_
          refine rf_ild (i := 3) (Or.inr ⟨3, rfl, rfl, rfl⟩) c_72_67 rfl ?_
          refine rf_callI (as := [.ref x0, .int v11]) (kd := 1) c_72_68 rfl (by decide) rfl ml_7_120 (by decide) rfl (rcv_1 hS rfl rfl h_x0 (by decide)) (Nat.zero_le _) rfl rfl (t_St_neededOffices hS (by omega) σ x0 v11 h_x0) (fun v68 => ?_)
          refine rf_ald (i := 1) (Or.inr ⟨1, rfl, rfl, rfl⟩) c_72_71 rfl ?_
          refine rf_geti hS c_72_72 rfl fl_7_149 rfl h_x1 ?_
          refine rf_iconst c_72_75 ki_m1 ?_
          refine rf_ixor c_72_76 ?_
          refine rf_iand c_72_77 ?_
          refine rf_ist (i := 4) (Or.inl ⟨rfl, rfl⟩) c_72_78 (Nat.le_of_ble_eq_true rfl) rfl ?_
          refine rf_ild (i := 4) (Or.inl ⟨rfl, rfl⟩) c_72_80 rfl ?_
          refine rf_ite (fun hc82 => ?_) (fun hc82 => ?_)
          · refine rf_b1t c_72_82 rfl (decide_eq_true hc82) ?_
            refine rf_bipush c_72_89 kb_10 ?_
            refine rf_ild (i := 4) (Or.inl ⟨rfl, rfl⟩) c_72_91 rfl ?_
            refine rf_callI (as := [.int (v68 &&& ((σ x1 7) ^^^ (-1 : Int32)))]) (kd := 0) c_72_93 rfl (by decide) rfl ml_7_152 (by decide) rfl (rcv_0 rfl) (by simp [Value.category]) rfl rfl (t_In_numberOfTrailingZeros hS (by omega) σ (v68 &&& ((σ x1 7) ^^^ (-1 : Int32)))) (fun v93 => ?_)
            refine rf_iadd c_72_96 ?_
            exact t_St_whatLacks_97 hS hd σ  ((10 : Int32) + v93) (.ref x0) (.ref x1) (.int x2) (.int v11) (.int (v68 &&& ((σ x1 7) ^^^ (-1 : Int32))))
          · refine rf_b1f c_72_82 rfl (decide_eq_false hc82) ?_
            refine rf_iconst c_72_85 ki_0 ?_
            refine rf_goto c_72_86 rfl ?_
            exact t_St_whatLacks_97 hS hd σ  (0 : Int32) (.ref x0) (.ref x1) (.int x2) (.int v11) (.int (v68 &&& ((σ x1 7) ^^^ (-1 : Int32))))
        · refine rf_b2f c_72_61 rfl (decide_eq_false hc61) ?_
          refine rf_iconst c_72_64 ki_4 ?_
          exact rf_ret c_72_65 rfl rfl rfl rfl
      · refine rf_b1f c_72_40 rfl (decide_eq_false hc40) ?_
        refine rf_iconst c_72_43 ki_3 ?_
        exact rf_ret c_72_44 rfl rfl rfl rfl
    · refine rf_b2f c_72_23 rfl (decide_eq_false hc23) ?_
      refine rf_iconst c_72_26 ki_2 ?_
      exact rf_ret c_72_27 rfl rfl rfl rfl
  · refine rf_b1f c_72_4 rfl (decide_eq_false hc4) ?_
    refine rf_iconst c_72_7 ki_1 ?_
    exact rf_ret c_72_8 rfl rfl rfl rfl
theorem t_St_whatLacks {X : Xt} {S : Sh} (hS : ShOK S) {d : Nat} (hd : 9 ≤ d) (σ : Mm) (x0 : Nat) (x1 : Nat) (x2 : Int32) (h_x0 : tgT x0 = 7) (h_x1 : tgT x1 = 3) : Rf X S (emI σ) (f_St_whatLacks σ x0 x1 x2) d 72 0 [.ref x0, .ref x1, .int x2, unset0, unset0] [] σ := by
  obtain ⟨d1, rfl⟩ : ∃ d1, d = d1 + 1 := ⟨d - 1, by omega⟩
  exact t_St_whatLacks_e hS hd σ x0 x1 x2 h_x0 h_x1
theorem c_86_0 : cd 86 0 = some (.iload_n 1, 1) := by decide +kernel
theorem c_86_1 : cd 86 1 = some (.iconst (0), 1) := by decide +kernel
theorem c_86_2 : cd 86 2 = some (.aload_n 0, 1) := by decide +kernel
theorem c_86_3 : cd 86 3 = some (.getfield 30, 3) := by decide +kernel
theorem c_86_6 : cd 86 6 = some (.iconst (1), 1) := by decide +kernel
theorem c_86_7 : cd 86 7 = some (.isub, 1) := by decide +kernel
theorem c_86_8 : cd 86 8 = some (.invokestatic 35, 3) := by decide +kernel
theorem c_86_11 : cd 86 11 = some (.ifCond .eq (12), 3) := by decide +kernel
theorem c_86_14 : cd 86 14 = some (.aload_n 0, 1) := by decide +kernel
theorem c_86_15 : cd 86 15 = some (.getfield 9, 3) := by decide +kernel
theorem c_86_18 : cd 86 18 = some (.iload_n 1, 1) := by decide +kernel
theorem c_86_19 : cd 86 19 = some (.iaload, 1) := by decide +kernel
theorem c_86_20 : cd 86 20 = some (.goto (4), 3) := by decide +kernel
theorem c_86_23 : cd 86 23 = some (.iconst (0), 1) := by decide +kernel
theorem c_86_24 : cd 86 24 = some (.ireturn, 1) := by decide +kernel
def f_Tb_seatsAt_24 (σ : Mm) (y0 : Int32) : Option Int32 := some y0
set_option maxRecDepth 100000 in
set_option maxHeartbeats 4000000 in
theorem t_Tb_seatsAt_24 {X : Xt} {S : Sh} (hS : ShOK S) {d : Nat} (hd : 1 ≤ d + 1) (σ : Mm) (y0 : Int32) (u0 : Value) (u1 : Value) : Rf X S (emI σ) (f_Tb_seatsAt_24 σ y0) (d + 1) 86 24 [u0, u1] [.int y0] σ := by
  unfold f_Tb_seatsAt_24
  exact rf_ret c_86_24 rfl rfl rfl rfl
def f_Tb_seatsAt (σ : Mm) (x0 : Nat) (x1 : Int32) : Option Int32 := (f_Ct_isWithin σ x1 (0 : Int32) ((σ x0 4) - (1 : Int32))).bind fun v8 => (if v8 = 0 then (f_Tb_seatsAt_24 σ (0 : Int32)) else (if inbB x1 6 = true then f_Tb_seatsAt_24 σ (σ (rfT x0 0) (ix x1)) else none))
set_option maxRecDepth 100000 in
set_option maxHeartbeats 4000000 in
theorem t_Tb_seatsAt_e {X : Xt} {S : Sh} (hS : ShOK S) {d : Nat} (hd : 1 ≤ d + 1) (σ : Mm) (x0 : Nat) (x1 : Int32) (h_x0 : tgT x0 = 8) : Rf X S (emI σ) (f_Tb_seatsAt σ x0 x1) (d + 1) 86 0 [.ref x0, .int x1] [] σ := by
  unfold f_Tb_seatsAt
  refine rf_ild (i := 1) (Or.inr ⟨1, rfl, rfl, rfl⟩) c_86_0 rfl ?_
  refine rf_iconst c_86_1 ki_0 ?_
  refine rf_ald (i := 0) (Or.inr ⟨0, rfl, rfl, rfl⟩) c_86_2 rfl ?_
  refine rf_geti hS c_86_3 rfl fl_8_30 rfl h_x0 ?_
  refine rf_iconst c_86_6 ki_1 ?_
  refine rf_isub c_86_7 ?_
  refine rf_callI (as := [.int x1, .int (0 : Int32), .int ((σ x0 4) - (1 : Int32))]) (kd := 0) c_86_8 rfl (by decide) rfl ml_8_35 (by decide) rfl (rcv_0 rfl) (Nat.zero_le _) rfl rfl (t_Ct_isWithin hS (by omega) σ x1 (0 : Int32) ((σ x0 4) - (1 : Int32))) (fun v8 => ?_)
  refine rf_ite (fun hc11 => ?_) (fun hc11 => ?_)
  · refine rf_b1t c_86_11 rfl (decide_eq_true hc11) ?_
    refine rf_iconst c_86_23 ki_0 ?_
    exact t_Tb_seatsAt_24 hS hd σ  (0 : Int32) (.ref x0) (.int x1)
  · refine rf_b1f c_86_11 rfl (decide_eq_false hc11) ?_
    refine rf_ald (i := 0) (Or.inr ⟨0, rfl, rfl, rfl⟩) c_86_14 rfl ?_
    refine rf_getr hS c_86_15 rfl fl_8_9 rfl h_x0 ?_
    refine rf_ild (i := 1) (Or.inr ⟨1, rfl, rfl, rfl⟩) c_86_18 rfl ?_
    refine rf_ite (fun hb19 => ?_) (fun _ => rf_none)
    refine rf_iald hS c_86_19 (tf_8_0 h_x0) (lf_8_0 h_x0) hb19 ?_
    refine rf_goto c_86_20 rfl ?_
    exact t_Tb_seatsAt_24 hS hd σ  (σ (rfT x0 0) (ix x1)) (.ref x0) (.int x1)
theorem t_Tb_seatsAt {X : Xt} {S : Sh} (hS : ShOK S) {d : Nat} (hd : 1 ≤ d) (σ : Mm) (x0 : Nat) (x1 : Int32) (h_x0 : tgT x0 = 8) : Rf X S (emI σ) (f_Tb_seatsAt σ x0 x1) d 86 0 [.ref x0, .int x1] [] σ := by
  obtain ⟨d1, rfl⟩ : ∃ d1, d = d1 + 1 := ⟨d - 1, by omega⟩
  exact t_Tb_seatsAt_e hS hd σ x0 x1 h_x0
theorem c_73_0 : cd 73 0 = some (.aload_n 0, 1) := by decide +kernel
theorem c_73_1 : cd 73 1 = some (.getfield 40, 3) := by decide +kernel
theorem c_73_4 : cd 73 4 = some (.iload_n 1, 1) := by decide +kernel
theorem c_73_5 : cd 73 5 = some (.aload_n 0, 1) := by decide +kernel
theorem c_73_6 : cd 73 6 = some (.getfield 27, 3) := by decide +kernel
theorem c_73_9 : cd 73 9 = some (.iload_n 1, 1) := by decide +kernel
theorem c_73_10 : cd 73 10 = some (.aaload, 1) := by decide +kernel
theorem c_73_11 : cd 73 11 = some (.getfield 157, 3) := by decide +kernel
theorem c_73_14 : cd 73 14 = some (.iload_n 2, 1) := by decide +kernel
theorem c_73_15 : cd 73 15 = some (.aload_n 0, 1) := by decide +kernel
theorem c_73_16 : cd 73 16 = some (.getfield 86, 3) := by decide +kernel
theorem c_73_19 : cd 73 19 = some (.invokevirtual 160, 3) := by decide +kernel
theorem c_73_22 : cd 73 22 = some (.istore 4, 2) := by decide +kernel
theorem c_73_24 : cd 73 24 = some (.aload_n 0, 1) := by decide +kernel
theorem c_73_25 : cd 73 25 = some (.getfield 40, 3) := by decide +kernel
theorem c_73_28 : cd 73 28 = some (.iload 4, 2) := by decide +kernel
theorem c_73_30 : cd 73 30 = some (.aload_n 0, 1) := by decide +kernel
theorem c_73_31 : cd 73 31 = some (.getfield 21, 3) := by decide +kernel
theorem c_73_34 : cd 73 34 = some (.aload_n 0, 1) := by decide +kernel
theorem c_73_35 : cd 73 35 = some (.getfield 27, 3) := by decide +kernel
theorem c_73_38 : cd 73 38 = some (.iload_n 1, 1) := by decide +kernel
theorem c_73_39 : cd 73 39 = some (.aaload, 1) := by decide +kernel
theorem c_73_40 : cd 73 40 = some (.getfield 164, 3) := by decide +kernel
theorem c_73_43 : cd 73 43 = some (.invokevirtual 167, 3) := by decide +kernel
theorem c_73_46 : cd 73 46 = some (.iload_n 3, 1) := by decide +kernel
theorem c_73_47 : cd 73 47 = some (.aload_n 0, 1) := by decide +kernel
theorem c_73_48 : cd 73 48 = some (.getfield 90, 3) := by decide +kernel
theorem c_73_51 : cd 73 51 = some (.invokevirtual 170, 3) := by decide +kernel
theorem c_73_54 : cd 73 54 = some (.iload 4, 2) := by decide +kernel
theorem c_73_56 : cd 73 56 = some (.ireturn, 1) := by decide +kernel
def f_St_addDecision (x0 : Nat) (x1 : Int32) (x2 : Int32) (x3 : Int32) (σ : Mm) : Option (Int32 × Mm) := if inbB x1 24 = true then (f_Dk_begin (rfT x0 4) x1 (σ (rfT (rfT x0 2) (ix x1)) 2) x2 (σ x0 8) σ).bind fun v19 => if inbB x1 24 = true then (f_Tb_seatsAt v19.2 (rfT x0 1) (v19.2 (rfT (rfT x0 2) (ix x1)) 9)).bind fun v43 => (f_Dk_tie (rfT x0 4) v19.1 v43 x3 (v19.2 x0 9) v19.2).bind fun v51 => some (v19.1, v51) else none else none
set_option maxRecDepth 100000 in
set_option maxHeartbeats 4000000 in
theorem t_St_addDecision_e {X : Xt} {S : Sh} (hS : ShOK S) {d : Nat} (hd : 2 ≤ d + 1) (x0 : Nat) (x1 : Int32) (x2 : Int32) (x3 : Int32) (σ : Mm) (h_x0 : tgT x0 = 7) : Rf X S emM (f_St_addDecision x0 x1 x2 x3 σ) (d + 1) 73 0 [.ref x0, .int x1, .int x2, .int x3, unset0] [] σ := by
  unfold f_St_addDecision
  refine rf_ald (i := 0) (Or.inr ⟨0, rfl, rfl, rfl⟩) c_73_0 rfl ?_
  refine rf_getr hS c_73_1 rfl fl_7_40 rfl h_x0 ?_
  refine rf_ild (i := 1) (Or.inr ⟨1, rfl, rfl, rfl⟩) c_73_4 rfl ?_
  refine rf_ald (i := 0) (Or.inr ⟨0, rfl, rfl, rfl⟩) c_73_5 rfl ?_
  refine rf_getr hS c_73_6 rfl fl_7_27 rfl h_x0 ?_
  refine rf_ild (i := 1) (Or.inr ⟨1, rfl, rfl, rfl⟩) c_73_9 rfl ?_
  refine rf_ite (fun hb10 => ?_) (fun _ => rf_none)
  refine rf_aald hS c_73_10 (by rw [(tf_7_2 h_x0)]; decide) (by rw [(tf_7_2 h_x0)]; decide) (lf_7_2 h_x0) hb10 ?_
  refine rf_geti hS c_73_11 rfl fl_7_157 rfl (te_33 (tf_7_2 h_x0) hb10) ?_
  refine rf_ild (i := 2) (Or.inr ⟨2, rfl, rfl, rfl⟩) c_73_14 rfl ?_
  refine rf_ald (i := 0) (Or.inr ⟨0, rfl, rfl, rfl⟩) c_73_15 rfl ?_
  refine rf_geti hS c_73_16 rfl fl_7_86 rfl h_x0 ?_
  refine rf_callM (as := [.ref (rfT x0 4), .int x1, .int (σ (rfT (rfT x0 2) (ix x1)) 2), .int x2, .int (σ x0 8)]) (kd := 1) c_73_19 rfl (by decide) rfl ml_7_160 (by decide) rfl (rcv_1 hS rfl rfl (tf_7_4 h_x0) (by decide)) (Nat.zero_le _) rfl rfl (t_Dk_begin hS (by omega) (rfT x0 4) x1 (σ (rfT (rfT x0 2) (ix x1)) 2) x2 (σ x0 8) σ (tf_7_4 h_x0)) (fun v19 => ?_)
  refine rf_ist (i := 4) (Or.inl ⟨rfl, rfl⟩) c_73_22 (Nat.le_of_ble_eq_true rfl) rfl ?_
  refine rf_ald (i := 0) (Or.inr ⟨0, rfl, rfl, rfl⟩) c_73_24 rfl ?_
  refine rf_getr hS c_73_25 rfl fl_7_40 rfl h_x0 ?_
  refine rf_ild (i := 4) (Or.inl ⟨rfl, rfl⟩) c_73_28 rfl ?_
  refine rf_ald (i := 0) (Or.inr ⟨0, rfl, rfl, rfl⟩) c_73_30 rfl ?_
  refine rf_getr hS c_73_31 rfl fl_7_21 rfl h_x0 ?_
  refine rf_ald (i := 0) (Or.inr ⟨0, rfl, rfl, rfl⟩) c_73_34 rfl ?_
  refine rf_getr hS c_73_35 rfl fl_7_27 rfl h_x0 ?_
  refine rf_ild (i := 1) (Or.inr ⟨1, rfl, rfl, rfl⟩) c_73_38 rfl ?_
  refine rf_ite (fun hb39 => ?_) (fun _ => rf_none)
  refine rf_aald hS c_73_39 (by rw [(tf_7_2 h_x0)]; decide) (by rw [(tf_7_2 h_x0)]; decide) (lf_7_2 h_x0) hb39 ?_
  refine rf_geti hS c_73_40 rfl fl_7_164 rfl (te_33 (tf_7_2 h_x0) hb39) ?_
  refine rf_callI (as := [.ref (rfT x0 1), .int (v19.2 (rfT (rfT x0 2) (ix x1)) 9)]) (kd := 1) c_73_43 rfl (by decide) rfl ml_7_167 (by decide) rfl (rcv_1 hS rfl rfl (tf_7_1 h_x0) (by decide)) (by simp [Value.category]) rfl rfl (t_Tb_seatsAt hS (by omega) v19.2 (rfT x0 1) (v19.2 (rfT (rfT x0 2) (ix x1)) 9) (tf_7_1 h_x0)) (fun v43 => ?_)
  refine rf_ild (i := 3) (Or.inr ⟨3, rfl, rfl, rfl⟩) c_73_46 rfl ?_
  refine rf_ald (i := 0) (Or.inr ⟨0, rfl, rfl, rfl⟩) c_73_47 rfl ?_
  refine rf_geti hS c_73_48 rfl fl_7_90 rfl h_x0 ?_
  refine rf_callV (as := [.ref (rfT x0 4), .int v19.1, .int v43, .int x3, .int (v19.2 x0 9)]) (kd := 1) c_73_51 rfl (by decide) rfl ml_7_170 (by decide) rfl (rcv_1 hS rfl rfl (tf_7_4 h_x0) (by decide)) (Nat.zero_le _) rfl rfl (t_Dk_tie hS (by omega) (rfT x0 4) v19.1 v43 x3 (v19.2 x0 9) v19.2 (tf_7_4 h_x0)) (fun v51 => ?_)
  refine rf_ild (i := 4) (Or.inl ⟨rfl, rfl⟩) c_73_54 rfl ?_
  exact rf_ret c_73_56 rfl rfl rfl rfl
theorem t_St_addDecision {X : Xt} {S : Sh} (hS : ShOK S) {d : Nat} (hd : 2 ≤ d) (x0 : Nat) (x1 : Int32) (x2 : Int32) (x3 : Int32) (σ : Mm) (h_x0 : tgT x0 = 7) : Rf X S emM (f_St_addDecision x0 x1 x2 x3 σ) d 73 0 [.ref x0, .int x1, .int x2, .int x3, unset0] [] σ := by
  obtain ⟨d1, rfl⟩ : ∃ d1, d = d1 + 1 := ⟨d - 1, by omega⟩
  exact t_St_addDecision_e hS hd x0 x1 x2 x3 σ h_x0
theorem c_75_0 : cd 75 0 = some (.aload_n 0, 1) := by decide +kernel
theorem c_75_1 : cd 75 1 = some (.getfield 27, 3) := by decide +kernel
theorem c_75_4 : cd 75 4 = some (.iload_n 1, 1) := by decide +kernel
theorem c_75_5 : cd 75 5 = some (.aaload, 1) := by decide +kernel
theorem c_75_6 : cd 75 6 = some (.astore_n 2, 1) := by decide +kernel
theorem c_75_7 : cd 75 7 = some (.aload_n 2, 1) := by decide +kernel
theorem c_75_8 : cd 75 8 = some (.iconst (2), 1) := by decide +kernel
theorem c_75_9 : cd 75 9 = some (.invokevirtual 178, 3) := by decide +kernel
theorem c_75_12 : cd 75 12 = some (.ifCond .eq (17), 3) := by decide +kernel
theorem c_75_15 : cd 75 15 = some (.aload_n 2, 1) := by decide +kernel
theorem c_75_16 : cd 75 16 = some (.invokevirtual 138, 3) := by decide +kernel
theorem c_75_19 : cd 75 19 = some (.ifCond .eq (10), 3) := by decide +kernel
theorem c_75_22 : cd 75 22 = some (.aload_n 2, 1) := by decide +kernel
theorem c_75_23 : cd 75 23 = some (.getfield 182, 3) := by decide +kernel
theorem c_75_26 : cd 75 26 = some (.ifCond .eq (4), 3) := by decide +kernel
theorem c_75_29 : cd 75 29 = some (.return_, 1) := by decide +kernel
theorem c_75_30 : cd 75 30 = some (.aload_n 0, 1) := by decide +kernel
theorem c_75_31 : cd 75 31 = some (.aload_n 2, 1) := by decide +kernel
theorem c_75_32 : cd 75 32 = some (.invokevirtual 112, 3) := by decide +kernel
theorem c_75_35 : cd 75 35 = some (.istore_n 3, 1) := by decide +kernel
theorem c_75_36 : cd 75 36 = some (.aload_n 0, 1) := by decide +kernel
theorem c_75_37 : cd 75 37 = some (.iload_n 3, 1) := by decide +kernel
theorem c_75_38 : cd 75 38 = some (.aload_n 2, 1) := by decide +kernel
theorem c_75_39 : cd 75 39 = some (.iconst (3), 1) := by decide +kernel
theorem c_75_40 : cd 75 40 = some (.invokevirtual 116, 3) := by decide +kernel
theorem c_75_43 : cd 75 43 = some (.istore 4, 2) := by decide +kernel
theorem c_75_45 : cd 75 45 = some (.iload 4, 2) := by decide +kernel
theorem c_75_47 : cd 75 47 = some (.ifCond .le (17), 3) := by decide +kernel
theorem c_75_50 : cd 75 50 = some (.iload 4, 2) := by decide +kernel
theorem c_75_52 : cd 75 52 = some (.aload_n 0, 1) := by decide +kernel
theorem c_75_53 : cd 75 53 = some (.getfield 86, 3) := by decide +kernel
theorem c_75_56 : cd 75 56 = some (.aload_n 2, 1) := by decide +kernel
theorem c_75_57 : cd 75 57 = some (.getfield 146, 3) := by decide +kernel
theorem c_75_60 : cd 75 60 = some (.isub, 1) := by decide +kernel
theorem c_75_61 : cd 75 61 = some (.if_icmp .le (4), 3) := by decide +kernel
theorem c_75_64 : cd 75 64 = some (.return_, 1) := by decide +kernel
theorem c_75_65 : cd 75 65 = some (.aload_n 0, 1) := by decide +kernel
theorem c_75_66 : cd 75 66 = some (.iload_n 3, 1) := by decide +kernel
theorem c_75_67 : cd 75 67 = some (.aload_n 2, 1) := by decide +kernel
theorem c_75_68 : cd 75 68 = some (.iconst (0), 1) := by decide +kernel
theorem c_75_69 : cd 75 69 = some (.invokevirtual 116, 3) := by decide +kernel
theorem c_75_72 : cd 75 72 = some (.istore 5, 2) := by decide +kernel
theorem c_75_74 : cd 75 74 = some (.aload_n 0, 1) := by decide +kernel
theorem c_75_75 : cd 75 75 = some (.getfield 40, 3) := by decide +kernel
theorem c_75_78 : cd 75 78 = some (.invokevirtual 185, 3) := by decide +kernel
theorem c_75_81 : cd 75 81 = some (.ifCond .ne (15), 3) := by decide +kernel
theorem c_75_84 : cd 75 84 = some (.iload 5, 2) := by decide +kernel
theorem c_75_86 : cd 75 86 = some (.aload_n 0, 1) := by decide +kernel
theorem c_75_87 : cd 75 87 = some (.getfield 21, 3) := by decide +kernel
theorem c_75_90 : cd 75 90 = some (.getfield 188, 3) := by decide +kernel
theorem c_75_93 : cd 75 93 = some (.if_icmp .lt (4), 3) := by decide +kernel
theorem c_75_96 : cd 75 96 = some (.return_, 1) := by decide +kernel
theorem c_75_97 : cd 75 97 = some (.aload_n 2, 1) := by decide +kernel
theorem c_75_98 : cd 75 98 = some (.iconst (1), 1) := by decide +kernel
theorem c_75_99 : cd 75 99 = some (.putfield 191, 3) := by decide +kernel
theorem c_75_102 : cd 75 102 = some (.aload_n 2, 1) := by decide +kernel
theorem c_75_103 : cd 75 103 = some (.iload 5, 2) := by decide +kernel
theorem c_75_105 : cd 75 105 = some (.aload_n 0, 1) := by decide +kernel
theorem c_75_106 : cd 75 106 = some (.getfield 86, 3) := by decide +kernel
theorem c_75_109 : cd 75 109 = some (.invokevirtual 195, 3) := by decide +kernel
theorem c_75_112 : cd 75 112 = some (.aload_n 0, 1) := by decide +kernel
theorem c_75_113 : cd 75 113 = some (.iload_n 1, 1) := by decide +kernel
theorem c_75_114 : cd 75 114 = some (.aload_n 2, 1) := by decide +kernel
theorem c_75_115 : cd 75 115 = some (.getfield 199, 3) := by decide +kernel
theorem c_75_118 : cd 75 118 = some (.iconst (0), 1) := by decide +kernel
theorem c_75_119 : cd 75 119 = some (.invokevirtual 202, 3) := by decide +kernel
theorem c_75_122 : cd 75 122 = some (.pop, 1) := by decide +kernel
theorem c_75_123 : cd 75 123 = some (.return_, 1) := by decide +kernel
def f_St_settleBySilence_29 (σ : Mm) : Option Mm := some σ
set_option maxRecDepth 100000 in
set_option maxHeartbeats 4000000 in
theorem t_St_settleBySilence_29 {X : Xt} {S : Sh} (hS : ShOK S) {d : Nat} (hd : 9 ≤ d + 1) (u0 : Value) (u1 : Value) (u2 : Value) (u3 : Value) (u4 : Value) (u5 : Value) (σ : Mm) : Rf X S emV (f_St_settleBySilence_29 σ) (d + 1) 75 29 [u0, u1, u2, u3, u4, u5] [] σ := by
  unfold f_St_settleBySilence_29
  exact rf_vret c_75_29 rfl rfl
def f_St_settleBySilence_64 (σ : Mm) : Option Mm := some σ
set_option maxRecDepth 100000 in
set_option maxHeartbeats 4000000 in
theorem t_St_settleBySilence_64 {X : Xt} {S : Sh} (hS : ShOK S) {d : Nat} (hd : 9 ≤ d + 1) (u0 : Value) (u1 : Value) (u2 : Value) (u3 : Value) (u4 : Value) (u5 : Value) (σ : Mm) : Rf X S emV (f_St_settleBySilence_64 σ) (d + 1) 75 64 [u0, u1, u2, u3, u4, u5] [] σ := by
  unfold f_St_settleBySilence_64
  exact rf_vret c_75_64 rfl rfl
def f_St_settleBySilence_96 (σ : Mm) : Option Mm := some σ
set_option maxRecDepth 100000 in
set_option maxHeartbeats 4000000 in
theorem t_St_settleBySilence_96 {X : Xt} {S : Sh} (hS : ShOK S) {d : Nat} (hd : 9 ≤ d + 1) (u0 : Value) (u1 : Value) (u2 : Value) (u3 : Value) (u4 : Value) (u5 : Value) (σ : Mm) : Rf X S emV (f_St_settleBySilence_96 σ) (d + 1) 75 96 [u0, u1, u2, u3, u4, u5] [] σ := by
  unfold f_St_settleBySilence_96
  exact rf_vret c_75_96 rfl rfl
def f_St_settleBySilence (x0 : Nat) (x1 : Int32) (σ : Mm) : Option Mm := if inbB x1 24 = true then (f_Pa_isOfKind σ (rfT (rfT x0 2) (ix x1)) (2 : Int32)).bind fun v9 => (if v9 = 0 then (f_St_settleBySilence_29  σ) else ((f_Pa_isUnderWay σ (rfT (rfT x0 2) (ix x1))).bind fun v16 => (if v16 = 0 then (f_St_settleBySilence_29  σ) else (if (σ (rfT (rfT x0 2) (ix x1)) 8) = 0 then ((f_St_countingRules σ x0 (rfT (rfT x0 2) (ix x1))).bind fun v32 => (f_St_dueBy σ x0 v32 (rfT (rfT x0 2) (ix x1)) (3 : Int32)).bind fun v40 => (if v40 ≤ 0 then (f_St_settleBySilence_64  σ) else (if v40 ≤ ((σ x0 8) - (σ (rfT (rfT x0 2) (ix x1)) 5)) then ((f_St_dueBy σ x0 v32 (rfT (rfT x0 2) (ix x1)) (0 : Int32)).bind fun v69 => (f_Dk_isFull σ (rfT x0 4)).bind fun v78 => (if ¬ v78 = 0 then (f_St_settleBySilence_96  σ) else (if v69 < (σ (rfT x0 1) 4) then (nmM (up2 σ (rfT (rfT x0 2) (ix x1)) 12 (1 : Int32)) fun σ99 => (f_Pa_arrive (rfT (rfT x0 2) (ix x1)) v69 (σ99 x0 8) σ99).bind fun v109 => (f_St_addDecision x0 x1 (v109 (rfT (rfT x0 2) (ix x1)) 4) (0 : Int32) v109).bind fun v119 => some v119.2) else (f_St_settleBySilence_96  σ)))) else (f_St_settleBySilence_64  σ)))) else (f_St_settleBySilence_29  σ))))) else none
set_option maxRecDepth 100000 in
set_option maxHeartbeats 4000000 in
theorem t_St_settleBySilence_e {X : Xt} {S : Sh} (hS : ShOK S) {d : Nat} (hd : 9 ≤ d + 1) (x0 : Nat) (x1 : Int32) (σ : Mm) (h_x0 : tgT x0 = 7) : Rf X S emV (f_St_settleBySilence x0 x1 σ) (d + 1) 75 0 [.ref x0, .int x1, unset0, unset0, unset0, unset0] [] σ := by
  unfold f_St_settleBySilence
  refine rf_ald (i := 0) (Or.inr ⟨0, rfl, rfl, rfl⟩) c_75_0 rfl ?_
  refine rf_getr hS c_75_1 rfl fl_7_27 rfl h_x0 ?_
  refine rf_ild (i := 1) (Or.inr ⟨1, rfl, rfl, rfl⟩) c_75_4 rfl ?_
  refine rf_ite (fun hb5 => ?_) (fun _ => rf_none)
  refine rf_aald hS c_75_5 (by rw [(tf_7_2 h_x0)]; decide) (by rw [(tf_7_2 h_x0)]; decide) (lf_7_2 h_x0) hb5 ?_
  refine rf_ast (i := 2) (Or.inr ⟨2, rfl, rfl, rfl⟩) c_75_6 (Nat.le_of_ble_eq_true rfl) rfl ?_
  refine rf_ald (i := 2) (Or.inr ⟨2, rfl, rfl, rfl⟩) c_75_7 rfl ?_
  refine rf_iconst c_75_8 ki_2 ?_
  refine rf_callI (as := [.ref (rfT (rfT x0 2) (ix x1)), .int (2 : Int32)]) (kd := 1) c_75_9 rfl (by decide) rfl ml_7_178 (by decide) rfl (rcv_1 hS rfl rfl (te_33 (tf_7_2 h_x0) hb5) (by decide)) (Nat.zero_le _) rfl rfl (t_Pa_isOfKind hS (by omega) σ (rfT (rfT x0 2) (ix x1)) (2 : Int32) (te_33 (tf_7_2 h_x0) hb5)) (fun v9 => ?_)
  refine rf_ite (fun hc12 => ?_) (fun hc12 => ?_)
  · refine rf_b1t c_75_12 rfl (decide_eq_true hc12) ?_
    exact t_St_settleBySilence_29 hS hd  (.ref x0) (.int x1) (.ref (rfT (rfT x0 2) (ix x1))) (unset0) (unset0) (unset0) σ
  · refine rf_b1f c_75_12 rfl (decide_eq_false hc12) ?_
    refine rf_ald (i := 2) (Or.inr ⟨2, rfl, rfl, rfl⟩) c_75_15 rfl ?_
    refine rf_callI (as := [.ref (rfT (rfT x0 2) (ix x1))]) (kd := 1) c_75_16 rfl (by decide) rfl ml_7_138 (by decide) rfl (rcv_1 hS rfl rfl (te_33 (tf_7_2 h_x0) hb5) (by decide)) (Nat.zero_le _) rfl rfl (t_Pa_isUnderWay hS (by omega) σ (rfT (rfT x0 2) (ix x1)) (te_33 (tf_7_2 h_x0) hb5)) (fun v16 => ?_)
    refine rf_ite (fun hc19 => ?_) (fun hc19 => ?_)
    · refine rf_b1t c_75_19 rfl (decide_eq_true hc19) ?_
      exact t_St_settleBySilence_29 hS hd  (.ref x0) (.int x1) (.ref (rfT (rfT x0 2) (ix x1))) (unset0) (unset0) (unset0) σ
    · refine rf_b1f c_75_19 rfl (decide_eq_false hc19) ?_
      refine rf_ald (i := 2) (Or.inr ⟨2, rfl, rfl, rfl⟩) c_75_22 rfl ?_
      refine rf_geti hS c_75_23 rfl fl_7_182 rfl (te_33 (tf_7_2 h_x0) hb5) ?_
      refine rf_ite (fun hc26 => ?_) (fun hc26 => ?_)
      · refine rf_b1t c_75_26 rfl (decide_eq_true hc26) ?_
        refine rf_ald (i := 0) (Or.inr ⟨0, rfl, rfl, rfl⟩) c_75_30 rfl ?_
        refine rf_ald (i := 2) (Or.inr ⟨2, rfl, rfl, rfl⟩) c_75_31 rfl ?_
        refine rf_callI (as := [.ref x0, .ref (rfT (rfT x0 2) (ix x1))]) (kd := 1) c_75_32 rfl (by decide) rfl ml_7_112 (by decide) rfl (rcv_1 hS rfl rfl h_x0 (by decide)) (Nat.zero_le _) rfl rfl (t_St_countingRules hS (by omega) σ x0 (rfT (rfT x0 2) (ix x1)) h_x0 (te_33 (tf_7_2 h_x0) hb5)) (fun v32 => ?_)
        refine rf_ist (i := 3) (Or.inr ⟨3, rfl, rfl, rfl⟩) c_75_35 (Nat.le_of_ble_eq_true rfl) rfl ?_
        refine rf_ald (i := 0) (Or.inr ⟨0, rfl, rfl, rfl⟩) c_75_36 rfl ?_
        refine rf_ild (i := 3) (Or.inr ⟨3, rfl, rfl, rfl⟩) c_75_37 rfl ?_
        refine rf_ald (i := 2) (Or.inr ⟨2, rfl, rfl, rfl⟩) c_75_38 rfl ?_
        refine rf_iconst c_75_39 ki_3 ?_
        refine rf_callI (as := [.ref x0, .int v32, .ref (rfT (rfT x0 2) (ix x1)), .int (3 : Int32)]) (kd := 1) c_75_40 rfl (by decide) rfl ml_7_116 (by decide) rfl (rcv_1 hS rfl rfl h_x0 (by decide)) (Nat.zero_le _) rfl rfl (t_St_dueBy hS (by omega) σ x0 v32 (rfT (rfT x0 2) (ix x1)) (3 : Int32) h_x0 (te_33 (tf_7_2 h_x0) hb5)) (fun v40 => ?_)
        refine rf_ist (i := 4) (Or.inl ⟨rfl, rfl⟩) c_75_43 (Nat.le_of_ble_eq_true rfl) rfl ?_
        refine rf_ild (i := 4) (Or.inl ⟨rfl, rfl⟩) c_75_45 rfl ?_
        refine rf_ite (fun hc47 => ?_) (fun hc47 => ?_)
        · refine rf_b1t c_75_47 rfl (decide_eq_true hc47) ?_
          exact t_St_settleBySilence_64 hS hd  (.ref x0) (.int x1) (.ref (rfT (rfT x0 2) (ix x1))) (.int v32) (.int v40) (unset0) σ
        · refine rf_b1f c_75_47 rfl (decide_eq_false hc47) ?_
          refine rf_ild (i := 4) (Or.inl ⟨rfl, rfl⟩) c_75_50 rfl ?_
          refine rf_ald (i := 0) (Or.inr ⟨0, rfl, rfl, rfl⟩) c_75_52 rfl ?_
          refine rf_geti hS c_75_53 rfl fl_7_86 rfl h_x0 ?_
          refine rf_ald (i := 2) (Or.inr ⟨2, rfl, rfl, rfl⟩) c_75_56 rfl ?_
          refine rf_geti hS c_75_57 rfl fl_7_146 rfl (te_33 (tf_7_2 h_x0) hb5) ?_
          refine rf_isub c_75_60 ?_
          refine rf_ite (fun hc61 => ?_) (fun hc61 => ?_)
          · refine rf_b2t c_75_61 rfl (decide_eq_true hc61) ?_
            refine rf_ald (i := 0) (Or.inr ⟨0, rfl, rfl, rfl⟩) c_75_65 rfl ?_
            refine rf_ild (i := 3) (Or.inr ⟨3, rfl, rfl, rfl⟩) c_75_66 rfl ?_
            refine rf_ald (i := 2) (Or.inr ⟨2, rfl, rfl, rfl⟩) c_75_67 rfl ?_
            refine rf_iconst c_75_68 ki_0 ?_
            refine rf_callI (as := [.ref x0, .int v32, .ref (rfT (rfT x0 2) (ix x1)), .int (0 : Int32)]) (kd := 1) c_75_69 rfl (by decide) rfl ml_7_116 (by decide) rfl (rcv_1 hS rfl rfl h_x0 (by decide)) (Nat.zero_le _) rfl rfl (t_St_dueBy hS (by omega) σ x0 v32 (rfT (rfT x0 2) (ix x1)) (0 : Int32) h_x0 (te_33 (tf_7_2 h_x0) hb5)) (fun v69 => ?_)
            refine rf_ist (i := 5) (Or.inl ⟨rfl, rfl⟩) c_75_72 (Nat.le_of_ble_eq_true rfl) rfl ?_
            refine rf_ald (i := 0) (Or.inr ⟨0, rfl, rfl, rfl⟩) c_75_74 rfl ?_
            refine rf_getr hS c_75_75 rfl fl_7_40 rfl h_x0 ?_
            refine rf_callI (as := [.ref (rfT x0 4)]) (kd := 1) c_75_78 rfl (by decide) rfl ml_7_185 (by decide) rfl (rcv_1 hS rfl rfl (tf_7_4 h_x0) (by decide)) (Nat.zero_le _) rfl rfl (t_Dk_isFull hS (by omega) σ (rfT x0 4) (tf_7_4 h_x0)) (fun v78 => ?_)
            refine rf_ite (fun hc81 => ?_) (fun hc81 => ?_)
            · refine rf_b1t c_75_81 rfl (decide_eq_true hc81) ?_
              exact t_St_settleBySilence_96 hS hd  (.ref x0) (.int x1) (.ref (rfT (rfT x0 2) (ix x1))) (.int v32) (.int v40) (.int v69) σ
            · refine rf_b1f c_75_81 rfl (decide_eq_false hc81) ?_
              refine rf_ild (i := 5) (Or.inl ⟨rfl, rfl⟩) c_75_84 rfl ?_
              refine rf_ald (i := 0) (Or.inr ⟨0, rfl, rfl, rfl⟩) c_75_86 rfl ?_
              refine rf_getr hS c_75_87 rfl fl_7_21 rfl h_x0 ?_
              refine rf_geti hS c_75_90 rfl fl_7_188 rfl (tf_7_1 h_x0) ?_
              refine rf_ite (fun hc93 => ?_) (fun hc93 => ?_)
              · refine rf_b2t c_75_93 rfl (decide_eq_true hc93) ?_
                refine rf_ald (i := 2) (Or.inr ⟨2, rfl, rfl, rfl⟩) c_75_97 rfl ?_
                refine rf_iconst c_75_98 ki_1 ?_
                refine rf_puti hS c_75_99 rfl fl_7_191 rfl rfl (by decide) (by decide) (te_33 (tf_7_2 h_x0) hb5) ?_
                refine rf_nm (fun σ99 => ?_)
                refine rf_ald (i := 2) (Or.inr ⟨2, rfl, rfl, rfl⟩) c_75_102 rfl ?_
                refine rf_ild (i := 5) (Or.inl ⟨rfl, rfl⟩) c_75_103 rfl ?_
                refine rf_ald (i := 0) (Or.inr ⟨0, rfl, rfl, rfl⟩) c_75_105 rfl ?_
                refine rf_geti hS c_75_106 rfl fl_7_86 rfl h_x0 ?_
                refine rf_callV (as := [.ref (rfT (rfT x0 2) (ix x1)), .int v69, .int (σ99 x0 8)]) (kd := 1) c_75_109 rfl (by decide) rfl ml_7_195 (by decide) rfl (rcv_1 hS rfl rfl (te_33 (tf_7_2 h_x0) hb5) (by decide)) (Nat.zero_le _) rfl rfl (t_Pa_arrive hS (by omega) (rfT (rfT x0 2) (ix x1)) v69 (σ99 x0 8) σ99 (te_33 (tf_7_2 h_x0) hb5)) (fun v109 => ?_)
                refine rf_ald (i := 0) (Or.inr ⟨0, rfl, rfl, rfl⟩) c_75_112 rfl ?_
                refine rf_ild (i := 1) (Or.inr ⟨1, rfl, rfl, rfl⟩) c_75_113 rfl ?_
                refine rf_ald (i := 2) (Or.inr ⟨2, rfl, rfl, rfl⟩) c_75_114 rfl ?_
                refine rf_geti hS c_75_115 rfl fl_7_199 rfl (te_33 (tf_7_2 h_x0) hb5) ?_
                refine rf_iconst c_75_118 ki_0 ?_
                refine rf_callM (as := [.ref x0, .int x1, .int (v109 (rfT (rfT x0 2) (ix x1)) 4), .int (0 : Int32)]) (kd := 1) c_75_119 rfl (by decide) rfl ml_7_202 (by decide) rfl (rcv_1 hS rfl rfl h_x0 (by decide)) (Nat.zero_le _) rfl rfl (t_St_addDecision hS (by omega) x0 x1 (v109 (rfT (rfT x0 2) (ix x1)) 4) (0 : Int32) v109 h_x0) (fun v119 => ?_)
                refine rf_pop c_75_122 rfl ?_
                exact rf_vret c_75_123 rfl rfl
              · refine rf_b2f c_75_93 rfl (decide_eq_false hc93) ?_
                exact t_St_settleBySilence_96 hS hd  (.ref x0) (.int x1) (.ref (rfT (rfT x0 2) (ix x1))) (.int v32) (.int v40) (.int v69) σ
          · refine rf_b2f c_75_61 rfl (decide_eq_false hc61) ?_
            exact t_St_settleBySilence_64 hS hd  (.ref x0) (.int x1) (.ref (rfT (rfT x0 2) (ix x1))) (.int v32) (.int v40) (unset0) σ
      · refine rf_b1f c_75_26 rfl (decide_eq_false hc26) ?_
        exact t_St_settleBySilence_29 hS hd  (.ref x0) (.int x1) (.ref (rfT (rfT x0 2) (ix x1))) (unset0) (unset0) (unset0) σ
theorem t_St_settleBySilence {X : Xt} {S : Sh} (hS : ShOK S) {d : Nat} (hd : 9 ≤ d) (x0 : Nat) (x1 : Int32) (σ : Mm) (h_x0 : tgT x0 = 7) : Rf X S emV (f_St_settleBySilence x0 x1 σ) d 75 0 [.ref x0, .int x1, unset0, unset0, unset0, unset0] [] σ := by
  obtain ⟨d1, rfl⟩ : ∃ d1, d = d1 + 1 := ⟨d - 1, by omega⟩
  exact t_St_settleBySilence_e hS hd x0 x1 σ h_x0
theorem c_74_0 : cd 74 0 = some (.iconst (0), 1) := by decide +kernel
theorem c_74_1 : cd 74 1 = some (.istore_n 1, 1) := by decide +kernel
theorem c_74_2 : cd 74 2 = some (.iload_n 1, 1) := by decide +kernel
theorem c_74_3 : cd 74 3 = some (.aload_n 0, 1) := by decide +kernel
theorem c_74_4 : cd 74 4 = some (.getfield 93, 3) := by decide +kernel
theorem c_74_7 : cd 74 7 = some (.if_icmp .ge (14), 3) := by decide +kernel
theorem c_74_10 : cd 74 10 = some (.aload_n 0, 1) := by decide +kernel
theorem c_74_11 : cd 74 11 = some (.iload_n 1, 1) := by decide +kernel
theorem c_74_12 : cd 74 12 = some (.invokevirtual 174, 3) := by decide +kernel
theorem c_74_15 : cd 74 15 = some (.iinc 1 (1), 3) := by decide +kernel
theorem c_74_18 : cd 74 18 = some (.goto (-16), 3) := by decide +kernel
theorem c_74_21 : cd 74 21 = some (.aload_n 0, 1) := by decide +kernel
theorem c_74_22 : cd 74 22 = some (.dup, 1) := by decide +kernel
theorem c_74_23 : cd 74 23 = some (.getfield 86, 3) := by decide +kernel
theorem c_74_26 : cd 74 26 = some (.iconst (1), 1) := by decide +kernel
theorem c_74_27 : cd 74 27 = some (.iadd, 1) := by decide +kernel
theorem c_74_28 : cd 74 28 = some (.putfield 86, 3) := by decide +kernel
theorem c_74_31 : cd 74 31 = some (.return_, 1) := by decide +kernel
def f_St_letDayGoBy_2 : Nat → Nat → Int32 → Mm → Option Mm
  | 0, _, _, _ => none
  | n + 1, x0, x1, σ => (if (σ x0 10) ≤ x1 then (nmM (up2 σ x0 8 ((σ x0 8) + (1 : Int32))) fun σ28 => some σ28) else ((f_St_settleBySilence x0 x1 σ).bind fun v12 => f_St_letDayGoBy_2  n x0 (x1 + (1 : Int32)) v12))
set_option maxRecDepth 100000 in
set_option maxHeartbeats 4000000 in
theorem t_St_letDayGoBy_2 {X : Xt} {S : Sh} (hS : ShOK S) {d : Nat} (hd : 10 ≤ d + 1) : ∀ (n : Nat) (x0 : Nat) (x1 : Int32) (σ : Mm) (h_x0 : tgT x0 = 7), Rf X S emV (f_St_letDayGoBy_2 n x0 x1 σ) (d + 1) 74 2 [.ref x0, .int x1] [] σ := by
  intro n
  induction n with
  | zero => intro x0 x1 σ h_x0; exact rf_none
  | succ n ih =>
    intro x0 x1 σ h_x0
    rw [f_St_letDayGoBy_2]
    refine rf_ild (i := 1) (Or.inr ⟨1, rfl, rfl, rfl⟩) c_74_2 rfl ?_
    refine rf_ald (i := 0) (Or.inr ⟨0, rfl, rfl, rfl⟩) c_74_3 rfl ?_
    refine rf_geti hS c_74_4 rfl fl_7_93 rfl h_x0 ?_
    refine rf_ite (fun hc7 => ?_) (fun hc7 => ?_)
    · refine rf_b2t c_74_7 rfl (decide_eq_true hc7) ?_
      refine rf_ald (i := 0) (Or.inr ⟨0, rfl, rfl, rfl⟩) c_74_21 rfl ?_
      refine rf_dup c_74_22 rfl ?_
      refine rf_geti hS c_74_23 rfl fl_7_86 rfl h_x0 ?_
      refine rf_iconst c_74_26 ki_1 ?_
      refine rf_iadd c_74_27 ?_
      refine rf_puti hS c_74_28 rfl fl_7_86 rfl rfl rfl rfl h_x0 ?_
      refine rf_nm (fun σ28 => ?_)
      exact rf_vret c_74_31 rfl rfl
    · refine rf_b2f c_74_7 rfl (decide_eq_false hc7) ?_
      refine rf_ald (i := 0) (Or.inr ⟨0, rfl, rfl, rfl⟩) c_74_10 rfl ?_
      refine rf_ild (i := 1) (Or.inr ⟨1, rfl, rfl, rfl⟩) c_74_11 rfl ?_
      refine rf_callV (as := [.ref x0, .int x1]) (kd := 1) c_74_12 rfl (by decide) rfl ml_7_174 (by decide) rfl (rcv_1 hS rfl rfl h_x0 (by decide)) (Nat.zero_le _) rfl rfl (t_St_settleBySilence hS (by omega) x0 x1 σ h_x0) (fun v12 => ?_)
      refine rf_iinc c_74_15 rfl ki_1 rfl ?_
      refine rf_goto c_74_18 rfl ?_
      exact ih x0 (x1 + (1 : Int32)) v12 h_x0
def f_St_letDayGoBy (x0 : Nat) (σ : Mm) : Option Mm := f_St_letDayGoBy_2  NN x0 (0 : Int32) σ
set_option maxRecDepth 100000 in
set_option maxHeartbeats 4000000 in
theorem t_St_letDayGoBy_e {X : Xt} {S : Sh} (hS : ShOK S) {d : Nat} (hd : 10 ≤ d + 1) (x0 : Nat) (σ : Mm) (h_x0 : tgT x0 = 7) : Rf X S emV (f_St_letDayGoBy x0 σ) (d + 1) 74 0 [.ref x0, unset0] [] σ := by
  unfold f_St_letDayGoBy
  refine rf_iconst c_74_0 ki_0 ?_
  refine rf_ist (i := 1) (Or.inr ⟨1, rfl, rfl, rfl⟩) c_74_1 (Nat.le_of_ble_eq_true rfl) rfl ?_
  exact t_St_letDayGoBy_2 hS hd  NN x0 (0 : Int32) σ h_x0
theorem t_St_letDayGoBy {X : Xt} {S : Sh} (hS : ShOK S) {d : Nat} (hd : 10 ≤ d) (x0 : Nat) (σ : Mm) (h_x0 : tgT x0 = 7) : Rf X S emV (f_St_letDayGoBy x0 σ) d 74 0 [.ref x0, unset0] [] σ := by
  obtain ⟨d1, rfl⟩ : ∃ d1, d = d1 + 1 := ⟨d - 1, by omega⟩
  exact t_St_letDayGoBy_e hS hd x0 σ h_x0
theorem c_76_0 : cd 76 0 = some (.iconst (0), 1) := by decide +kernel
theorem c_76_1 : cd 76 1 = some (.istore_n 2, 1) := by decide +kernel
theorem c_76_2 : cd 76 2 = some (.iconst (0), 1) := by decide +kernel
theorem c_76_3 : cd 76 3 = some (.istore_n 3, 1) := by decide +kernel
theorem c_76_4 : cd 76 4 = some (.iload_n 3, 1) := by decide +kernel
theorem c_76_5 : cd 76 5 = some (.aload_n 0, 1) := by decide +kernel
theorem c_76_6 : cd 76 6 = some (.getfield 93, 3) := by decide +kernel
theorem c_76_9 : cd 76 9 = some (.if_icmp .ge (55), 3) := by decide +kernel
theorem c_76_12 : cd 76 12 = some (.aload_n 0, 1) := by decide +kernel
theorem c_76_13 : cd 76 13 = some (.getfield 27, 3) := by decide +kernel
theorem c_76_16 : cd 76 16 = some (.iload_n 3, 1) := by decide +kernel
theorem c_76_17 : cd 76 17 = some (.aaload, 1) := by decide +kernel
theorem c_76_18 : cd 76 18 = some (.astore 4, 2) := by decide +kernel
theorem c_76_20 : cd 76 20 = some (.aload 4, 2) := by decide +kernel
theorem c_76_22 : cd 76 22 = some (.invokevirtual 206, 3) := by decide +kernel
theorem c_76_25 : cd 76 25 = some (.ifCond .eq (33), 3) := by decide +kernel
theorem c_76_28 : cd 76 28 = some (.aload 4, 2) := by decide +kernel
theorem c_76_30 : cd 76 30 = some (.getfield 209, 3) := by decide +kernel
theorem c_76_33 : cd 76 33 = some (.ldc 60, 2) := by decide +kernel
theorem c_76_35 : cd 76 35 = some (.if_icmp .ne (23), 3) := by decide +kernel
theorem c_76_38 : cd 76 38 = some (.aload 4, 2) := by decide +kernel
theorem c_76_40 : cd 76 40 = some (.getfield 191, 3) := by decide +kernel
theorem c_76_43 : cd 76 43 = some (.ifCond .ne (15), 3) := by decide +kernel
theorem c_76_46 : cd 76 46 = some (.aload 4, 2) := by decide +kernel
theorem c_76_48 : cd 76 48 = some (.getfield 212, 3) := by decide +kernel
theorem c_76_51 : cd 76 51 = some (.iload_n 1, 1) := by decide +kernel
theorem c_76_52 : cd 76 52 = some (.if_icmp .ge (6), 3) := by decide +kernel
theorem c_76_55 : cd 76 55 = some (.iinc 2 (1), 3) := by decide +kernel
theorem c_76_58 : cd 76 58 = some (.iinc 3 (1), 3) := by decide +kernel
theorem c_76_61 : cd 76 61 = some (.goto (-57), 3) := by decide +kernel
theorem c_76_64 : cd 76 64 = some (.iload_n 2, 1) := by decide +kernel
theorem c_76_65 : cd 76 65 = some (.ireturn, 1) := by decide +kernel
def f_St_tooLateBy_58 (σ : Mm) (k4 : Nat → Int32 → Int32 → Int32 → Option (Int32)) (x0 : Nat) (x1 : Int32) (x2 : Int32) (x3 : Int32) : Option Int32 := k4 x0 x1 x2 (x3 + (1 : Int32))
set_option maxRecDepth 100000 in
set_option maxHeartbeats 4000000 in
theorem t_St_tooLateBy_58 {X : Xt} {S : Sh} (hS : ShOK S) {d : Nat} (hd : 1 ≤ d + 1) (σ : Mm) {k4 : Nat → Int32 → Int32 → Int32 → Option (Int32)} (hk4 : ∀ (x0 : Nat) (x1 : Int32) (x2 : Int32) (x3 : Int32) (u4 : Value) (h_x0 : tgT x0 = 7), Rf X S (emI σ) (k4 x0 x1 x2 x3) (d + 1) 76 4 [.ref x0, .int x1, .int x2, .int x3, u4] [] σ) (x0 : Nat) (x1 : Int32) (x2 : Int32) (x3 : Int32) (u4 : Value) (h_x0 : tgT x0 = 7) : Rf X S (emI σ) (f_St_tooLateBy_58 σ k4 x0 x1 x2 x3) (d + 1) 76 58 [.ref x0, .int x1, .int x2, .int x3, u4] [] σ := by
  unfold f_St_tooLateBy_58
  refine rf_iinc c_76_58 rfl ki_1 rfl ?_
  refine rf_goto c_76_61 rfl ?_
  exact hk4 x0 x1 x2 (x3 + (1 : Int32)) (u4) h_x0
def f_St_tooLateBy_4 (σ : Mm) : Nat → Nat → Int32 → Int32 → Int32 → Option Int32
  | 0, _, _, _, _ => none
  | n + 1, x0, x1, x2, x3 => (if (σ x0 10) ≤ x3 then (some x2) else (if inbB x3 24 = true then (f_Pa_hasCome σ (rfT (rfT x0 2) (ix x3))).bind fun v22 => (if v22 = 0 then (f_St_tooLateBy_58 σ (f_St_tooLateBy_4 σ n) x0 x1 x2 x3) else (if ¬ (σ (rfT (rfT x0 2) (ix x3)) 11) = (-1000000005 : Int32) then (f_St_tooLateBy_58 σ (f_St_tooLateBy_4 σ n) x0 x1 x2 x3) else (if ¬ (σ (rfT (rfT x0 2) (ix x3)) 12) = 0 then (f_St_tooLateBy_58 σ (f_St_tooLateBy_4 σ n) x0 x1 x2 x3) else (if x1 ≤ (σ (rfT (rfT x0 2) (ix x3)) 13) then (f_St_tooLateBy_58 σ (f_St_tooLateBy_4 σ n) x0 x1 x2 x3) else (f_St_tooLateBy_58 σ (f_St_tooLateBy_4 σ n) x0 x1 (x2 + (1 : Int32)) x3))))) else none))
set_option maxRecDepth 100000 in
set_option maxHeartbeats 4000000 in
theorem t_St_tooLateBy_4 {X : Xt} {S : Sh} (hS : ShOK S) {d : Nat} (hd : 1 ≤ d + 1) (σ : Mm) : ∀ (n : Nat) (x0 : Nat) (x1 : Int32) (x2 : Int32) (x3 : Int32) (u4 : Value) (h_x0 : tgT x0 = 7), Rf X S (emI σ) (f_St_tooLateBy_4 σ n x0 x1 x2 x3) (d + 1) 76 4 [.ref x0, .int x1, .int x2, .int x3, u4] [] σ := by
  intro n
  induction n with
  | zero => intro x0 x1 x2 x3 u4 h_x0; exact rf_none
  | succ n ih =>
    intro x0 x1 x2 x3 u4 h_x0
    rw [f_St_tooLateBy_4]
    refine rf_ild (i := 3) (Or.inr ⟨3, rfl, rfl, rfl⟩) c_76_4 rfl ?_
    refine rf_ald (i := 0) (Or.inr ⟨0, rfl, rfl, rfl⟩) c_76_5 rfl ?_
    refine rf_geti hS c_76_6 rfl fl_7_93 rfl h_x0 ?_
    refine rf_ite (fun hc9 => ?_) (fun hc9 => ?_)
    · refine rf_b2t c_76_9 rfl (decide_eq_true hc9) ?_
      refine rf_ild (i := 2) (Or.inr ⟨2, rfl, rfl, rfl⟩) c_76_64 rfl ?_
      exact rf_ret c_76_65 rfl rfl rfl rfl
    · refine rf_b2f c_76_9 rfl (decide_eq_false hc9) ?_
      refine rf_ald (i := 0) (Or.inr ⟨0, rfl, rfl, rfl⟩) c_76_12 rfl ?_
      refine rf_getr hS c_76_13 rfl fl_7_27 rfl h_x0 ?_
      refine rf_ild (i := 3) (Or.inr ⟨3, rfl, rfl, rfl⟩) c_76_16 rfl ?_
      refine rf_ite (fun hb17 => ?_) (fun _ => rf_none)
      refine rf_aald hS c_76_17 (by rw [(tf_7_2 h_x0)]; decide) (by rw [(tf_7_2 h_x0)]; decide) (lf_7_2 h_x0) hb17 ?_
      refine rf_ast (i := 4) (Or.inl ⟨rfl, rfl⟩) c_76_18 (Nat.le_of_ble_eq_true rfl) rfl ?_
      refine rf_ald (i := 4) (Or.inl ⟨rfl, rfl⟩) c_76_20 rfl ?_
      refine rf_callI (as := [.ref (rfT (rfT x0 2) (ix x3))]) (kd := 1) c_76_22 rfl (by decide) rfl ml_7_206 (by decide) rfl (rcv_1 hS rfl rfl (te_33 (tf_7_2 h_x0) hb17) (by decide)) (Nat.zero_le _) rfl rfl (t_Pa_hasCome hS (by omega) σ (rfT (rfT x0 2) (ix x3)) (te_33 (tf_7_2 h_x0) hb17)) (fun v22 => ?_)
      refine rf_ite (fun hc25 => ?_) (fun hc25 => ?_)
      · refine rf_b1t c_76_25 rfl (decide_eq_true hc25) ?_
        exact t_St_tooLateBy_58 hS hd σ ih x0 x1 x2 x3 (.ref (rfT (rfT x0 2) (ix x3))) h_x0
      · refine rf_b1f c_76_25 rfl (decide_eq_false hc25) ?_
        refine rf_ald (i := 4) (Or.inl ⟨rfl, rfl⟩) c_76_28 rfl ?_
        refine rf_geti hS c_76_30 rfl fl_7_209 rfl (te_33 (tf_7_2 h_x0) hb17) ?_
        refine rf_ldc (Or.inl ⟨rfl, rfl⟩) c_76_33 rfl kl_7_60 ?_
        refine rf_ite (fun hc35 => ?_) (fun hc35 => ?_)
        · refine rf_b2t c_76_35 rfl (decide_eq_true hc35) ?_
          exact t_St_tooLateBy_58 hS hd σ ih x0 x1 x2 x3 (.ref (rfT (rfT x0 2) (ix x3))) h_x0
        · refine rf_b2f c_76_35 rfl (decide_eq_false hc35) ?_
          refine rf_ald (i := 4) (Or.inl ⟨rfl, rfl⟩) c_76_38 rfl ?_
          refine rf_geti hS c_76_40 rfl fl_7_191 rfl (te_33 (tf_7_2 h_x0) hb17) ?_
          refine rf_ite (fun hc43 => ?_) (fun hc43 => ?_)
          · refine rf_b1t c_76_43 rfl (decide_eq_true hc43) ?_
            exact t_St_tooLateBy_58 hS hd σ ih x0 x1 x2 x3 (.ref (rfT (rfT x0 2) (ix x3))) h_x0
          · refine rf_b1f c_76_43 rfl (decide_eq_false hc43) ?_
            refine rf_ald (i := 4) (Or.inl ⟨rfl, rfl⟩) c_76_46 rfl ?_
            refine rf_geti hS c_76_48 rfl fl_7_212 rfl (te_33 (tf_7_2 h_x0) hb17) ?_
            refine rf_ild (i := 1) (Or.inr ⟨1, rfl, rfl, rfl⟩) c_76_51 rfl ?_
            refine rf_ite (fun hc52 => ?_) (fun hc52 => ?_)
            · refine rf_b2t c_76_52 rfl (decide_eq_true hc52) ?_
              exact t_St_tooLateBy_58 hS hd σ ih x0 x1 x2 x3 (.ref (rfT (rfT x0 2) (ix x3))) h_x0
            · refine rf_b2f c_76_52 rfl (decide_eq_false hc52) ?_
              refine rf_iinc c_76_55 rfl ki_1 rfl ?_
              exact t_St_tooLateBy_58 hS hd σ ih x0 x1 (x2 + (1 : Int32)) x3 (.ref (rfT (rfT x0 2) (ix x3))) h_x0
def f_St_tooLateBy (σ : Mm) (x0 : Nat) (x1 : Int32) : Option Int32 := f_St_tooLateBy_4 σ NN x0 x1 (0 : Int32) (0 : Int32)
set_option maxRecDepth 100000 in
set_option maxHeartbeats 4000000 in
theorem t_St_tooLateBy_e {X : Xt} {S : Sh} (hS : ShOK S) {d : Nat} (hd : 1 ≤ d + 1) (σ : Mm) (x0 : Nat) (x1 : Int32) (h_x0 : tgT x0 = 7) : Rf X S (emI σ) (f_St_tooLateBy σ x0 x1) (d + 1) 76 0 [.ref x0, .int x1, unset0, unset0, unset0] [] σ := by
  unfold f_St_tooLateBy
  refine rf_iconst c_76_0 ki_0 ?_
  refine rf_ist (i := 2) (Or.inr ⟨2, rfl, rfl, rfl⟩) c_76_1 (Nat.le_of_ble_eq_true rfl) rfl ?_
  refine rf_iconst c_76_2 ki_0 ?_
  refine rf_ist (i := 3) (Or.inr ⟨3, rfl, rfl, rfl⟩) c_76_3 (Nat.le_of_ble_eq_true rfl) rfl ?_
  exact t_St_tooLateBy_4 hS hd σ  NN x0 x1 (0 : Int32) (0 : Int32) (unset0) h_x0
theorem t_St_tooLateBy {X : Xt} {S : Sh} (hS : ShOK S) {d : Nat} (hd : 1 ≤ d) (σ : Mm) (x0 : Nat) (x1 : Int32) (h_x0 : tgT x0 = 7) : Rf X S (emI σ) (f_St_tooLateBy σ x0 x1) d 76 0 [.ref x0, .int x1, unset0, unset0, unset0] [] σ := by
  obtain ⟨d1, rfl⟩ : ∃ d1, d = d1 + 1 := ⟨d - 1, by omega⟩
  exact t_St_tooLateBy_e hS hd σ x0 x1 h_x0
theorem c_87_0 : cd 87 0 = some (.iload_n 2, 1) := by decide +kernel
theorem c_87_1 : cd 87 1 = some (.iconst (0), 1) := by decide +kernel
theorem c_87_2 : cd 87 2 = some (.bipush (7), 2) := by decide +kernel
theorem c_87_4 : cd 87 4 = some (.invokestatic 35, 3) := by decide +kernel
theorem c_87_7 : cd 87 7 = some (.ifCond .eq (20), 3) := by decide +kernel
theorem c_87_10 : cd 87 10 = some (.aload_n 0, 1) := by decide +kernel
theorem c_87_11 : cd 87 11 = some (.iload_n 1, 1) := by decide +kernel
theorem c_87_12 : cd 87 12 = some (.invokevirtual 39, 3) := by decide +kernel
theorem c_87_15 : cd 87 15 = some (.iload_n 2, 1) := by decide +kernel
theorem c_87_16 : cd 87 16 = some (.ishr, 1) := by decide +kernel
theorem c_87_17 : cd 87 17 = some (.iconst (1), 1) := by decide +kernel
theorem c_87_18 : cd 87 18 = some (.iand, 1) := by decide +kernel
theorem c_87_19 : cd 87 19 = some (.iconst (1), 1) := by decide +kernel
theorem c_87_20 : cd 87 20 = some (.if_icmp .ne (7), 3) := by decide +kernel
theorem c_87_23 : cd 87 23 = some (.iconst (1), 1) := by decide +kernel
theorem c_87_24 : cd 87 24 = some (.goto (4), 3) := by decide +kernel
theorem c_87_27 : cd 87 27 = some (.iconst (0), 1) := by decide +kernel
theorem c_87_28 : cd 87 28 = some (.ireturn, 1) := by decide +kernel
def f_Tb_hasSeat_28 (σ : Mm) (y0 : Int32) : Option Int32 := if zB y0 = true then some y0 else none
set_option maxRecDepth 100000 in
set_option maxHeartbeats 4000000 in
theorem t_Tb_hasSeat_28 {X : Xt} {S : Sh} (hS : ShOK S) {d : Nat} (hd : 2 ≤ d + 1) (σ : Mm) (y0 : Int32) (u0 : Value) (u1 : Value) (u2 : Value) : Rf X S (emI σ) (f_Tb_hasSeat_28 σ y0) (d + 1) 87 28 [u0, u1, u2] [.int y0] σ := by
  unfold f_Tb_hasSeat_28
  refine rf_ite (fun hq28 => ?_) (fun _ => rf_none)
  exact rf_ret c_87_28 rfl (zB_n hq28) rfl rfl
def f_Tb_hasSeat_27 (σ : Mm) : Option Int32 := f_Tb_hasSeat_28 σ (0 : Int32)
set_option maxRecDepth 100000 in
set_option maxHeartbeats 4000000 in
theorem t_Tb_hasSeat_27 {X : Xt} {S : Sh} (hS : ShOK S) {d : Nat} (hd : 2 ≤ d + 1) (σ : Mm) (u0 : Value) (u1 : Value) (u2 : Value) : Rf X S (emI σ) (f_Tb_hasSeat_27 σ) (d + 1) 87 27 [u0, u1, u2] [] σ := by
  unfold f_Tb_hasSeat_27
  refine rf_iconst c_87_27 ki_0 ?_
  exact t_Tb_hasSeat_28 hS hd σ  (0 : Int32) (u0) (u1) (u2)
def f_Tb_hasSeat (σ : Mm) (x0 : Nat) (x1 : Int32) (x2 : Int32) : Option Int32 := (f_Ct_isWithin σ x2 (0 : Int32) (7 : Int32)).bind fun v4 => (if v4 = 0 then (f_Tb_hasSeat_27 σ ) else ((f_Tb_seatsAt σ x0 x1).bind fun v12 => (if ¬ ((v12 >>> (x2 &&& 31)) &&& (1 : Int32)) = (1 : Int32) then (f_Tb_hasSeat_27 σ ) else (f_Tb_hasSeat_28 σ (1 : Int32)))))
set_option maxRecDepth 100000 in
set_option maxHeartbeats 4000000 in
theorem t_Tb_hasSeat_e {X : Xt} {S : Sh} (hS : ShOK S) {d : Nat} (hd : 2 ≤ d + 1) (σ : Mm) (x0 : Nat) (x1 : Int32) (x2 : Int32) (h_x0 : tgT x0 = 8) : Rf X S (emI σ) (f_Tb_hasSeat σ x0 x1 x2) (d + 1) 87 0 [.ref x0, .int x1, .int x2] [] σ := by
  unfold f_Tb_hasSeat
  refine rf_ild (i := 2) (Or.inr ⟨2, rfl, rfl, rfl⟩) c_87_0 rfl ?_
  refine rf_iconst c_87_1 ki_0 ?_
  refine rf_bipush c_87_2 kb_7 ?_
  refine rf_callI (as := [.int x2, .int (0 : Int32), .int (7 : Int32)]) (kd := 0) c_87_4 rfl (by decide) rfl ml_8_35 (by decide) rfl (rcv_0 rfl) (Nat.zero_le _) rfl rfl (t_Ct_isWithin hS (by omega) σ x2 (0 : Int32) (7 : Int32)) (fun v4 => ?_)
  refine rf_ite (fun hc7 => ?_) (fun hc7 => ?_)
  · refine rf_b1t c_87_7 rfl (decide_eq_true hc7) ?_
    exact t_Tb_hasSeat_27 hS hd σ  (.ref x0) (.int x1) (.int x2)
  · refine rf_b1f c_87_7 rfl (decide_eq_false hc7) ?_
    refine rf_ald (i := 0) (Or.inr ⟨0, rfl, rfl, rfl⟩) c_87_10 rfl ?_
    refine rf_ild (i := 1) (Or.inr ⟨1, rfl, rfl, rfl⟩) c_87_11 rfl ?_
    refine rf_callI (as := [.ref x0, .int x1]) (kd := 1) c_87_12 rfl (by decide) rfl ml_8_39 (by decide) rfl (rcv_1 hS rfl rfl h_x0 (by decide)) (Nat.zero_le _) rfl rfl (t_Tb_seatsAt hS (by omega) σ x0 x1 h_x0) (fun v12 => ?_)
    refine rf_ild (i := 2) (Or.inr ⟨2, rfl, rfl, rfl⟩) c_87_15 rfl ?_
    refine rf_ishr c_87_16 ?_
    refine rf_iconst c_87_17 ki_1 ?_
    refine rf_iand c_87_18 ?_
    refine rf_iconst c_87_19 ki_1 ?_
    refine rf_ite (fun hc20 => ?_) (fun hc20 => ?_)
    · refine rf_b2t c_87_20 rfl (decide_eq_true hc20) ?_
      exact t_Tb_hasSeat_27 hS hd σ  (.ref x0) (.int x1) (.int x2)
    · refine rf_b2f c_87_20 rfl (decide_eq_false hc20) ?_
      refine rf_iconst c_87_23 ki_1 ?_
      refine rf_goto c_87_24 rfl ?_
      exact t_Tb_hasSeat_28 hS hd σ  (1 : Int32) (.ref x0) (.int x1) (.int x2)
theorem t_Tb_hasSeat {X : Xt} {S : Sh} (hS : ShOK S) {d : Nat} (hd : 2 ≤ d) (σ : Mm) (x0 : Nat) (x1 : Int32) (x2 : Int32) (h_x0 : tgT x0 = 8) : Rf X S (emI σ) (f_Tb_hasSeat σ x0 x1 x2) d 87 0 [.ref x0, .int x1, .int x2] [] σ := by
  obtain ⟨d1, rfl⟩ : ∃ d1, d = d1 + 1 := ⟨d - 1, by omega⟩
  exact t_Tb_hasSeat_e hS hd σ x0 x1 x2 h_x0
theorem c_77_0 : cd 77 0 = some (.aload_n 0, 1) := by decide +kernel
theorem c_77_1 : cd 77 1 = some (.getfield 47, 3) := by decide +kernel
theorem c_77_4 : cd 77 4 = some (.iload_n 1, 1) := by decide +kernel
theorem c_77_5 : cd 77 5 = some (.iload_n 2, 1) := by decide +kernel
theorem c_77_6 : cd 77 6 = some (.invokevirtual 215, 3) := by decide +kernel
theorem c_77_9 : cd 77 9 = some (.istore_n 3, 1) := by decide +kernel
theorem c_77_10 : cd 77 10 = some (.iconst (0), 1) := by decide +kernel
theorem c_77_11 : cd 77 11 = some (.istore 4, 2) := by decide +kernel
theorem c_77_13 : cd 77 13 = some (.iload 4, 2) := by decide +kernel
theorem c_77_15 : cd 77 15 = some (.aload_n 0, 1) := by decide +kernel
theorem c_77_16 : cd 77 16 = some (.getfield 93, 3) := by decide +kernel
theorem c_77_19 : cd 77 19 = some (.if_icmp .ge (79), 3) := by decide +kernel
theorem c_77_22 : cd 77 22 = some (.aload_n 0, 1) := by decide +kernel
theorem c_77_23 : cd 77 23 = some (.getfield 27, 3) := by decide +kernel
theorem c_77_26 : cd 77 26 = some (.iload 4, 2) := by decide +kernel
theorem c_77_28 : cd 77 28 = some (.aaload, 1) := by decide +kernel
theorem c_77_29 : cd 77 29 = some (.astore 5, 2) := by decide +kernel
theorem c_77_31 : cd 77 31 = some (.aload 5, 2) := by decide +kernel
theorem c_77_33 : cd 77 33 = some (.invokevirtual 206, 3) := by decide +kernel
theorem c_77_36 : cd 77 36 = some (.ifCond .eq (32), 3) := by decide +kernel
theorem c_77_39 : cd 77 39 = some (.aload 5, 2) := by decide +kernel
theorem c_77_41 : cd 77 41 = some (.getfield 218, 3) := by decide +kernel
theorem c_77_44 : cd 77 44 = some (.iload_n 2, 1) := by decide +kernel
theorem c_77_45 : cd 77 45 = some (.if_icmp .gt (23), 3) := by decide +kernel
theorem c_77_48 : cd 77 48 = some (.aload_n 0, 1) := by decide +kernel
theorem c_77_49 : cd 77 49 = some (.getfield 21, 3) := by decide +kernel
theorem c_77_52 : cd 77 52 = some (.aload 5, 2) := by decide +kernel
theorem c_77_54 : cd 77 54 = some (.getfield 164, 3) := by decide +kernel
theorem c_77_57 : cd 77 57 = some (.iload_n 1, 1) := by decide +kernel
theorem c_77_58 : cd 77 58 = some (.invokevirtual 221, 3) := by decide +kernel
theorem c_77_61 : cd 77 61 = some (.ifCond .eq (7), 3) := by decide +kernel
theorem c_77_64 : cd 77 64 = some (.iconst (1), 1) := by decide +kernel
theorem c_77_65 : cd 77 65 = some (.goto (4), 3) := by decide +kernel
theorem c_77_68 : cd 77 68 = some (.iconst (0), 1) := by decide +kernel
theorem c_77_69 : cd 77 69 = some (.istore 6, 2) := by decide +kernel
theorem c_77_71 : cd 77 71 = some (.iload 6, 2) := by decide +kernel
theorem c_77_73 : cd 77 73 = some (.ifCond .ne (12), 3) := by decide +kernel
theorem c_77_76 : cd 77 76 = some (.aload 5, 2) := by decide +kernel
theorem c_77_78 : cd 77 78 = some (.getfield 224, 3) := by decide +kernel
theorem c_77_81 : cd 77 81 = some (.iload_n 1, 1) := by decide +kernel
theorem c_77_82 : cd 77 82 = some (.if_icmp .ne (10), 3) := by decide +kernel
theorem c_77_85 : cd 77 85 = some (.iload_n 3, 1) := by decide +kernel
theorem c_77_86 : cd 77 86 = some (.iconst (1), 1) := by decide +kernel
theorem c_77_87 : cd 77 87 = some (.iload 4, 2) := by decide +kernel
theorem c_77_89 : cd 77 89 = some (.ishl, 1) := by decide +kernel
theorem c_77_90 : cd 77 90 = some (.ior, 1) := by decide +kernel
theorem c_77_91 : cd 77 91 = some (.istore_n 3, 1) := by decide +kernel
theorem c_77_92 : cd 77 92 = some (.iinc 4 (1), 3) := by decide +kernel
theorem c_77_95 : cd 77 95 = some (.goto (-82), 3) := by decide +kernel
theorem c_77_98 : cd 77 98 = some (.iload_n 3, 1) := by decide +kernel
theorem c_77_99 : cd 77 99 = some (.ireturn, 1) := by decide +kernel
def f_St_papersKnownTo_92 (σ : Mm) (k13 : Nat → Int32 → Int32 → Int32 → Int32 → Option (Int32)) (x0 : Nat) (x1 : Int32) (x2 : Int32) (x3 : Int32) (x4 : Int32) : Option Int32 := k13 x0 x1 x2 x3 (x4 + (1 : Int32))
set_option maxRecDepth 100000 in
set_option maxHeartbeats 4000000 in
theorem t_St_papersKnownTo_92 {X : Xt} {S : Sh} (hS : ShOK S) {d : Nat} (hd : 3 ≤ d + 1) (σ : Mm) {k13 : Nat → Int32 → Int32 → Int32 → Int32 → Option (Int32)} (hk13 : ∀ (x0 : Nat) (x1 : Int32) (x2 : Int32) (x3 : Int32) (x4 : Int32) (u5 : Value) (u6 : Value) (h_x0 : tgT x0 = 7), Rf X S (emI σ) (k13 x0 x1 x2 x3 x4) (d + 1) 77 13 [.ref x0, .int x1, .int x2, .int x3, .int x4, u5, u6] [] σ) (x0 : Nat) (x1 : Int32) (x2 : Int32) (x3 : Int32) (x4 : Int32) (u5 : Value) (u6 : Value) (h_x0 : tgT x0 = 7) : Rf X S (emI σ) (f_St_papersKnownTo_92 σ k13 x0 x1 x2 x3 x4) (d + 1) 77 92 [.ref x0, .int x1, .int x2, .int x3, .int x4, u5, u6] [] σ := by
  unfold f_St_papersKnownTo_92
  refine rf_iinc c_77_92 rfl ki_1 rfl ?_
  refine rf_goto c_77_95 rfl ?_
  exact hk13 x0 x1 x2 x3 (x4 + (1 : Int32)) (u5) (u6) h_x0
def f_St_papersKnownTo_85 (σ : Mm) (k13 : Nat → Int32 → Int32 → Int32 → Int32 → Option (Int32)) (x0 : Nat) (x1 : Int32) (x2 : Int32) (x3 : Int32) (x4 : Int32) : Option Int32 := f_St_papersKnownTo_92 σ k13 x0 x1 x2 (x3 ||| ((1 : Int32) <<< (x4 &&& 31))) x4
set_option maxRecDepth 100000 in
set_option maxHeartbeats 4000000 in
theorem t_St_papersKnownTo_85 {X : Xt} {S : Sh} (hS : ShOK S) {d : Nat} (hd : 3 ≤ d + 1) (σ : Mm) {k13 : Nat → Int32 → Int32 → Int32 → Int32 → Option (Int32)} (hk13 : ∀ (x0 : Nat) (x1 : Int32) (x2 : Int32) (x3 : Int32) (x4 : Int32) (u5 : Value) (u6 : Value) (h_x0 : tgT x0 = 7), Rf X S (emI σ) (k13 x0 x1 x2 x3 x4) (d + 1) 77 13 [.ref x0, .int x1, .int x2, .int x3, .int x4, u5, u6] [] σ) (x0 : Nat) (x1 : Int32) (x2 : Int32) (x3 : Int32) (x4 : Int32) (u5 : Value) (u6 : Value) (h_x0 : tgT x0 = 7) : Rf X S (emI σ) (f_St_papersKnownTo_85 σ k13 x0 x1 x2 x3 x4) (d + 1) 77 85 [.ref x0, .int x1, .int x2, .int x3, .int x4, u5, u6] [] σ := by
  unfold f_St_papersKnownTo_85
  refine rf_ild (i := 3) (Or.inr ⟨3, rfl, rfl, rfl⟩) c_77_85 rfl ?_
  refine rf_iconst c_77_86 ki_1 ?_
  refine rf_ild (i := 4) (Or.inl ⟨rfl, rfl⟩) c_77_87 rfl ?_
  refine rf_ishl c_77_89 ?_
  refine rf_ior c_77_90 ?_
  refine rf_ist (i := 3) (Or.inr ⟨3, rfl, rfl, rfl⟩) c_77_91 (Nat.le_of_ble_eq_true rfl) rfl ?_
  exact t_St_papersKnownTo_92 hS hd σ hk13 x0 x1 x2 (x3 ||| ((1 : Int32) <<< (x4 &&& 31))) x4 (u5) (u6) h_x0
def f_St_papersKnownTo_69 (σ : Mm) (k13 : Nat → Int32 → Int32 → Int32 → Int32 → Option (Int32)) (x0 : Nat) (x1 : Int32) (x2 : Int32) (x3 : Int32) (x4 : Int32) (x5 : Nat) (y0 : Int32) : Option Int32 := (if ¬ y0 = 0 then (f_St_papersKnownTo_85 σ k13 x0 x1 x2 x3 x4) else (if ¬ (σ x5 1) = x1 then (f_St_papersKnownTo_92 σ k13 x0 x1 x2 x3 x4) else (f_St_papersKnownTo_85 σ k13 x0 x1 x2 x3 x4)))
set_option maxRecDepth 100000 in
set_option maxHeartbeats 4000000 in
theorem t_St_papersKnownTo_69 {X : Xt} {S : Sh} (hS : ShOK S) {d : Nat} (hd : 3 ≤ d + 1) (σ : Mm) {k13 : Nat → Int32 → Int32 → Int32 → Int32 → Option (Int32)} (hk13 : ∀ (x0 : Nat) (x1 : Int32) (x2 : Int32) (x3 : Int32) (x4 : Int32) (u5 : Value) (u6 : Value) (h_x0 : tgT x0 = 7), Rf X S (emI σ) (k13 x0 x1 x2 x3 x4) (d + 1) 77 13 [.ref x0, .int x1, .int x2, .int x3, .int x4, u5, u6] [] σ) (x0 : Nat) (x1 : Int32) (x2 : Int32) (x3 : Int32) (x4 : Int32) (x5 : Nat) (y0 : Int32) (u6 : Value) (h_x0 : tgT x0 = 7) (h_x5 : tgT x5 = 3) : Rf X S (emI σ) (f_St_papersKnownTo_69 σ k13 x0 x1 x2 x3 x4 x5 y0) (d + 1) 77 69 [.ref x0, .int x1, .int x2, .int x3, .int x4, .ref x5, u6] [.int y0] σ := by
  unfold f_St_papersKnownTo_69
  refine rf_ist (i := 6) (Or.inl ⟨rfl, rfl⟩) c_77_69 (Nat.le_of_ble_eq_true rfl) rfl ?_
  refine rf_ild (i := 6) (Or.inl ⟨rfl, rfl⟩) c_77_71 rfl ?_
  refine rf_ite (fun hc73 => ?_) (fun hc73 => ?_)
  · refine rf_b1t c_77_73 rfl (decide_eq_true hc73) ?_
    exact t_St_papersKnownTo_85 hS hd σ hk13 x0 x1 x2 x3 x4 (.ref x5) (.int y0) h_x0
  · refine rf_b1f c_77_73 rfl (decide_eq_false hc73) ?_
    refine rf_ald (i := 5) (Or.inl ⟨rfl, rfl⟩) c_77_76 rfl ?_
    refine rf_geti hS c_77_78 rfl fl_7_224 rfl h_x5 ?_
    refine rf_ild (i := 1) (Or.inr ⟨1, rfl, rfl, rfl⟩) c_77_81 rfl ?_
    refine rf_ite (fun hc82 => ?_) (fun hc82 => ?_)
    · refine rf_b2t c_77_82 rfl (decide_eq_true hc82) ?_
      exact t_St_papersKnownTo_92 hS hd σ hk13 x0 x1 x2 x3 x4 (.ref x5) (.int y0) h_x0
    · refine rf_b2f c_77_82 rfl (decide_eq_false hc82) ?_
      exact t_St_papersKnownTo_85 hS hd σ hk13 x0 x1 x2 x3 x4 (.ref x5) (.int y0) h_x0
def f_St_papersKnownTo_68 (σ : Mm) (k13 : Nat → Int32 → Int32 → Int32 → Int32 → Option (Int32)) (x0 : Nat) (x1 : Int32) (x2 : Int32) (x3 : Int32) (x4 : Int32) (x5 : Nat) : Option Int32 := f_St_papersKnownTo_69 σ k13 x0 x1 x2 x3 x4 x5 (0 : Int32)
set_option maxRecDepth 100000 in
set_option maxHeartbeats 4000000 in
theorem t_St_papersKnownTo_68 {X : Xt} {S : Sh} (hS : ShOK S) {d : Nat} (hd : 3 ≤ d + 1) (σ : Mm) {k13 : Nat → Int32 → Int32 → Int32 → Int32 → Option (Int32)} (hk13 : ∀ (x0 : Nat) (x1 : Int32) (x2 : Int32) (x3 : Int32) (x4 : Int32) (u5 : Value) (u6 : Value) (h_x0 : tgT x0 = 7), Rf X S (emI σ) (k13 x0 x1 x2 x3 x4) (d + 1) 77 13 [.ref x0, .int x1, .int x2, .int x3, .int x4, u5, u6] [] σ) (x0 : Nat) (x1 : Int32) (x2 : Int32) (x3 : Int32) (x4 : Int32) (x5 : Nat) (u6 : Value) (h_x0 : tgT x0 = 7) (h_x5 : tgT x5 = 3) : Rf X S (emI σ) (f_St_papersKnownTo_68 σ k13 x0 x1 x2 x3 x4 x5) (d + 1) 77 68 [.ref x0, .int x1, .int x2, .int x3, .int x4, .ref x5, u6] [] σ := by
  unfold f_St_papersKnownTo_68
  refine rf_iconst c_77_68 ki_0 ?_
  exact t_St_papersKnownTo_69 hS hd σ hk13 x0 x1 x2 x3 x4 x5 (0 : Int32) (u6) h_x0 h_x5
def f_St_papersKnownTo_13 (σ : Mm) : Nat → Nat → Int32 → Int32 → Int32 → Int32 → Option Int32
  | 0, _, _, _, _, _ => none
  | n + 1, x0, x1, x2, x3, x4 => (if (σ x0 10) ≤ x4 then (some x3) else (if inbB x4 24 = true then (f_Pa_hasCome σ (rfT (rfT x0 2) (ix x4))).bind fun v33 => (if v33 = 0 then (f_St_papersKnownTo_68 σ (f_St_papersKnownTo_13 σ n) x0 x1 x2 x3 x4 (rfT (rfT x0 2) (ix x4))) else (if x2 < (σ (rfT (rfT x0 2) (ix x4)) 10) then (f_St_papersKnownTo_68 σ (f_St_papersKnownTo_13 σ n) x0 x1 x2 x3 x4 (rfT (rfT x0 2) (ix x4))) else ((f_Tb_hasSeat σ (rfT x0 1) (σ (rfT (rfT x0 2) (ix x4)) 9) x1).bind fun v58 => (if v58 = 0 then (f_St_papersKnownTo_68 σ (f_St_papersKnownTo_13 σ n) x0 x1 x2 x3 x4 (rfT (rfT x0 2) (ix x4))) else (f_St_papersKnownTo_69 σ (f_St_papersKnownTo_13 σ n) x0 x1 x2 x3 x4 (rfT (rfT x0 2) (ix x4)) (1 : Int32)))))) else none))
set_option maxRecDepth 100000 in
set_option maxHeartbeats 4000000 in
theorem t_St_papersKnownTo_13 {X : Xt} {S : Sh} (hS : ShOK S) {d : Nat} (hd : 3 ≤ d + 1) (σ : Mm) : ∀ (n : Nat) (x0 : Nat) (x1 : Int32) (x2 : Int32) (x3 : Int32) (x4 : Int32) (u5 : Value) (u6 : Value) (h_x0 : tgT x0 = 7), Rf X S (emI σ) (f_St_papersKnownTo_13 σ n x0 x1 x2 x3 x4) (d + 1) 77 13 [.ref x0, .int x1, .int x2, .int x3, .int x4, u5, u6] [] σ := by
  intro n
  induction n with
  | zero => intro x0 x1 x2 x3 x4 u5 u6 h_x0; exact rf_none
  | succ n ih =>
    intro x0 x1 x2 x3 x4 u5 u6 h_x0
    rw [f_St_papersKnownTo_13]
    refine rf_ild (i := 4) (Or.inl ⟨rfl, rfl⟩) c_77_13 rfl ?_
    refine rf_ald (i := 0) (Or.inr ⟨0, rfl, rfl, rfl⟩) c_77_15 rfl ?_
    refine rf_geti hS c_77_16 rfl fl_7_93 rfl h_x0 ?_
    refine rf_ite (fun hc19 => ?_) (fun hc19 => ?_)
    · refine rf_b2t c_77_19 rfl (decide_eq_true hc19) ?_
      refine rf_ild (i := 3) (Or.inr ⟨3, rfl, rfl, rfl⟩) c_77_98 rfl ?_
      exact rf_ret c_77_99 rfl rfl rfl rfl
    · refine rf_b2f c_77_19 rfl (decide_eq_false hc19) ?_
      refine rf_ald (i := 0) (Or.inr ⟨0, rfl, rfl, rfl⟩) c_77_22 rfl ?_
      refine rf_getr hS c_77_23 rfl fl_7_27 rfl h_x0 ?_
      refine rf_ild (i := 4) (Or.inl ⟨rfl, rfl⟩) c_77_26 rfl ?_
      refine rf_ite (fun hb28 => ?_) (fun _ => rf_none)
      refine rf_aald hS c_77_28 (by rw [(tf_7_2 h_x0)]; decide) (by rw [(tf_7_2 h_x0)]; decide) (lf_7_2 h_x0) hb28 ?_
      refine rf_ast (i := 5) (Or.inl ⟨rfl, rfl⟩) c_77_29 (Nat.le_of_ble_eq_true rfl) rfl ?_
      refine rf_ald (i := 5) (Or.inl ⟨rfl, rfl⟩) c_77_31 rfl ?_
      refine rf_callI (as := [.ref (rfT (rfT x0 2) (ix x4))]) (kd := 1) c_77_33 rfl (by decide) rfl ml_7_206 (by decide) rfl (rcv_1 hS rfl rfl (te_33 (tf_7_2 h_x0) hb28) (by decide)) (Nat.zero_le _) rfl rfl (t_Pa_hasCome hS (by omega) σ (rfT (rfT x0 2) (ix x4)) (te_33 (tf_7_2 h_x0) hb28)) (fun v33 => ?_)
      refine rf_ite (fun hc36 => ?_) (fun hc36 => ?_)
      · refine rf_b1t c_77_36 rfl (decide_eq_true hc36) ?_
        exact t_St_papersKnownTo_68 hS hd σ ih x0 x1 x2 x3 x4 (rfT (rfT x0 2) (ix x4)) (u6) h_x0 (te_33 (tf_7_2 h_x0) hb28)
      · refine rf_b1f c_77_36 rfl (decide_eq_false hc36) ?_
        refine rf_ald (i := 5) (Or.inl ⟨rfl, rfl⟩) c_77_39 rfl ?_
        refine rf_geti hS c_77_41 rfl fl_7_218 rfl (te_33 (tf_7_2 h_x0) hb28) ?_
        refine rf_ild (i := 2) (Or.inr ⟨2, rfl, rfl, rfl⟩) c_77_44 rfl ?_
        refine rf_ite (fun hc45 => ?_) (fun hc45 => ?_)
        · refine rf_b2t c_77_45 rfl (decide_eq_true hc45) ?_
          exact t_St_papersKnownTo_68 hS hd σ ih x0 x1 x2 x3 x4 (rfT (rfT x0 2) (ix x4)) (u6) h_x0 (te_33 (tf_7_2 h_x0) hb28)
        · refine rf_b2f c_77_45 rfl (decide_eq_false hc45) ?_
          refine rf_ald (i := 0) (Or.inr ⟨0, rfl, rfl, rfl⟩) c_77_48 rfl ?_
          refine rf_getr hS c_77_49 rfl fl_7_21 rfl h_x0 ?_
          refine rf_ald (i := 5) (Or.inl ⟨rfl, rfl⟩) c_77_52 rfl ?_
          refine rf_geti hS c_77_54 rfl fl_7_164 rfl (te_33 (tf_7_2 h_x0) hb28) ?_
          refine rf_ild (i := 1) (Or.inr ⟨1, rfl, rfl, rfl⟩) c_77_57 rfl ?_
          refine rf_callI (as := [.ref (rfT x0 1), .int (σ (rfT (rfT x0 2) (ix x4)) 9), .int x1]) (kd := 1) c_77_58 rfl (by decide) rfl ml_7_221 (by decide) rfl (rcv_1 hS rfl rfl (tf_7_1 h_x0) (by decide)) (Nat.zero_le _) rfl rfl (t_Tb_hasSeat hS (by omega) σ (rfT x0 1) (σ (rfT (rfT x0 2) (ix x4)) 9) x1 (tf_7_1 h_x0)) (fun v58 => ?_)
          refine rf_ite (fun hc61 => ?_) (fun hc61 => ?_)
          · refine rf_b1t c_77_61 rfl (decide_eq_true hc61) ?_
            exact t_St_papersKnownTo_68 hS hd σ ih x0 x1 x2 x3 x4 (rfT (rfT x0 2) (ix x4)) (u6) h_x0 (te_33 (tf_7_2 h_x0) hb28)
          · refine rf_b1f c_77_61 rfl (decide_eq_false hc61) ?_
            refine rf_iconst c_77_64 ki_1 ?_
            refine rf_goto c_77_65 rfl ?_
            exact t_St_papersKnownTo_69 hS hd σ ih x0 x1 x2 x3 x4 (rfT (rfT x0 2) (ix x4)) (1 : Int32) (u6) h_x0 (te_33 (tf_7_2 h_x0) hb28)
def f_St_papersKnownTo (σ : Mm) (x0 : Nat) (x1 : Int32) (x2 : Int32) : Option Int32 := (f_Cp_papersSentTo σ (rfT x0 5) x1 x2).bind fun v6 => f_St_papersKnownTo_13 σ NN x0 x1 x2 v6 (0 : Int32)
set_option maxRecDepth 100000 in
set_option maxHeartbeats 4000000 in
theorem t_St_papersKnownTo_e {X : Xt} {S : Sh} (hS : ShOK S) {d : Nat} (hd : 3 ≤ d + 1) (σ : Mm) (x0 : Nat) (x1 : Int32) (x2 : Int32) (h_x0 : tgT x0 = 7) : Rf X S (emI σ) (f_St_papersKnownTo σ x0 x1 x2) (d + 1) 77 0 [.ref x0, .int x1, .int x2, unset0, unset0, unset0, unset0] [] σ := by
  unfold f_St_papersKnownTo
  refine rf_ald (i := 0) (Or.inr ⟨0, rfl, rfl, rfl⟩) c_77_0 rfl ?_
  refine rf_getr hS c_77_1 rfl fl_7_47 rfl h_x0 ?_
  refine rf_ild (i := 1) (Or.inr ⟨1, rfl, rfl, rfl⟩) c_77_4 rfl ?_
  refine rf_ild (i := 2) (Or.inr ⟨2, rfl, rfl, rfl⟩) c_77_5 rfl ?_
  refine rf_callI (as := [.ref (rfT x0 5), .int x1, .int x2]) (kd := 1) c_77_6 rfl (by decide) rfl ml_7_215 (by decide) rfl (rcv_1 hS rfl rfl (tf_7_5 h_x0) (by decide)) (Nat.zero_le _) rfl rfl (t_Cp_papersSentTo hS (by omega) σ (rfT x0 5) x1 x2 (tf_7_5 h_x0)) (fun v6 => ?_)
  refine rf_ist (i := 3) (Or.inr ⟨3, rfl, rfl, rfl⟩) c_77_9 (Nat.le_of_ble_eq_true rfl) rfl ?_
  refine rf_iconst c_77_10 ki_0 ?_
  refine rf_ist (i := 4) (Or.inl ⟨rfl, rfl⟩) c_77_11 (Nat.le_of_ble_eq_true rfl) rfl ?_
  exact t_St_papersKnownTo_13 hS hd σ  NN x0 x1 x2 v6 (0 : Int32) (unset0) (unset0) h_x0
theorem t_St_papersKnownTo {X : Xt} {S : Sh} (hS : ShOK S) {d : Nat} (hd : 3 ≤ d) (σ : Mm) (x0 : Nat) (x1 : Int32) (x2 : Int32) (h_x0 : tgT x0 = 7) : Rf X S (emI σ) (f_St_papersKnownTo σ x0 x1 x2) d 77 0 [.ref x0, .int x1, .int x2, unset0, unset0, unset0, unset0] [] σ := by
  obtain ⟨d1, rfl⟩ : ∃ d1, d = d1 + 1 := ⟨d - 1, by omega⟩
  exact t_St_papersKnownTo_e hS hd σ x0 x1 x2 h_x0
theorem c_78_0 : cd 78 0 = some (.iconst (0), 1) := by decide +kernel
theorem c_78_1 : cd 78 1 = some (.istore_n 1, 1) := by decide +kernel
theorem c_78_2 : cd 78 2 = some (.iconst (0), 1) := by decide +kernel
theorem c_78_3 : cd 78 3 = some (.istore_n 2, 1) := by decide +kernel
theorem c_78_4 : cd 78 4 = some (.iload_n 2, 1) := by decide +kernel
theorem c_78_5 : cd 78 5 = some (.aload_n 0, 1) := by decide +kernel
theorem c_78_6 : cd 78 6 = some (.getfield 93, 3) := by decide +kernel
theorem c_78_9 : cd 78 9 = some (.if_icmp .ge (47), 3) := by decide +kernel
theorem c_78_12 : cd 78 12 = some (.aload_n 0, 1) := by decide +kernel
theorem c_78_13 : cd 78 13 = some (.getfield 27, 3) := by decide +kernel
theorem c_78_16 : cd 78 16 = some (.iload_n 2, 1) := by decide +kernel
theorem c_78_17 : cd 78 17 = some (.aaload, 1) := by decide +kernel
theorem c_78_18 : cd 78 18 = some (.astore_n 3, 1) := by decide +kernel
theorem c_78_19 : cd 78 19 = some (.aload_n 3, 1) := by decide +kernel
theorem c_78_20 : cd 78 20 = some (.invokevirtual 227, 3) := by decide +kernel
theorem c_78_23 : cd 78 23 = some (.ifCond .eq (27), 3) := by decide +kernel
theorem c_78_26 : cd 78 26 = some (.aload_n 0, 1) := by decide +kernel
theorem c_78_27 : cd 78 27 = some (.getfield 86, 3) := by decide +kernel
theorem c_78_30 : cd 78 30 = some (.aload_n 3, 1) := by decide +kernel
theorem c_78_31 : cd 78 31 = some (.getfield 146, 3) := by decide +kernel
theorem c_78_34 : cd 78 34 = some (.isub, 1) := by decide +kernel
theorem c_78_35 : cd 78 35 = some (.aload_n 0, 1) := by decide +kernel
theorem c_78_36 : cd 78 36 = some (.aload_n 3, 1) := by decide +kernel
theorem c_78_37 : cd 78 37 = some (.iconst (4), 1) := by decide +kernel
theorem c_78_38 : cd 78 38 = some (.invokevirtual 230, 3) := by decide +kernel
theorem c_78_41 : cd 78 41 = some (.if_icmp .lt (9), 3) := by decide +kernel
theorem c_78_44 : cd 78 44 = some (.iload_n 1, 1) := by decide +kernel
theorem c_78_45 : cd 78 45 = some (.iconst (1), 1) := by decide +kernel
theorem c_78_46 : cd 78 46 = some (.iload_n 2, 1) := by decide +kernel
theorem c_78_47 : cd 78 47 = some (.ishl, 1) := by decide +kernel
theorem c_78_48 : cd 78 48 = some (.ior, 1) := by decide +kernel
theorem c_78_49 : cd 78 49 = some (.istore_n 1, 1) := by decide +kernel
theorem c_78_50 : cd 78 50 = some (.iinc 2 (1), 3) := by decide +kernel
theorem c_78_53 : cd 78 53 = some (.goto (-49), 3) := by decide +kernel
theorem c_78_56 : cd 78 56 = some (.iload_n 1, 1) := by decide +kernel
theorem c_78_57 : cd 78 57 = some (.ireturn, 1) := by decide +kernel
def f_St_openPapers_50 (σ : Mm) (k4 : Nat → Int32 → Int32 → Option (Int32)) (x0 : Nat) (x1 : Int32) (x2 : Int32) : Option Int32 := k4 x0 x1 (x2 + (1 : Int32))
set_option maxRecDepth 100000 in
set_option maxHeartbeats 4000000 in
theorem t_St_openPapers_50 {X : Xt} {S : Sh} (hS : ShOK S) {d : Nat} (hd : 10 ≤ d + 1) (σ : Mm) {k4 : Nat → Int32 → Int32 → Option (Int32)} (hk4 : ∀ (x0 : Nat) (x1 : Int32) (x2 : Int32) (u3 : Value) (h_x0 : tgT x0 = 7), Rf X S (emI σ) (k4 x0 x1 x2) (d + 1) 78 4 [.ref x0, .int x1, .int x2, u3] [] σ) (x0 : Nat) (x1 : Int32) (x2 : Int32) (u3 : Value) (h_x0 : tgT x0 = 7) : Rf X S (emI σ) (f_St_openPapers_50 σ k4 x0 x1 x2) (d + 1) 78 50 [.ref x0, .int x1, .int x2, u3] [] σ := by
  unfold f_St_openPapers_50
  refine rf_iinc c_78_50 rfl ki_1 rfl ?_
  refine rf_goto c_78_53 rfl ?_
  exact hk4 x0 x1 (x2 + (1 : Int32)) (u3) h_x0
def f_St_openPapers_4 (σ : Mm) : Nat → Nat → Int32 → Int32 → Option Int32
  | 0, _, _, _ => none
  | n + 1, x0, x1, x2 => (if (σ x0 10) ≤ x2 then (some x1) else (if inbB x2 24 = true then (f_Pa_isSent σ (rfT (rfT x0 2) (ix x2))).bind fun v20 => (if v20 = 0 then (f_St_openPapers_50 σ (f_St_openPapers_4 σ n) x0 x1 x2) else ((f_St_dueOf σ x0 (rfT (rfT x0 2) (ix x2)) (4 : Int32)).bind fun v38 => (if ((σ x0 8) - (σ (rfT (rfT x0 2) (ix x2)) 5)) < v38 then (f_St_openPapers_50 σ (f_St_openPapers_4 σ n) x0 x1 x2) else (f_St_openPapers_50 σ (f_St_openPapers_4 σ n) x0 (x1 ||| ((1 : Int32) <<< (x2 &&& 31))) x2)))) else none))
set_option maxRecDepth 100000 in
set_option maxHeartbeats 4000000 in
theorem t_St_openPapers_4 {X : Xt} {S : Sh} (hS : ShOK S) {d : Nat} (hd : 10 ≤ d + 1) (σ : Mm) : ∀ (n : Nat) (x0 : Nat) (x1 : Int32) (x2 : Int32) (u3 : Value) (h_x0 : tgT x0 = 7), Rf X S (emI σ) (f_St_openPapers_4 σ n x0 x1 x2) (d + 1) 78 4 [.ref x0, .int x1, .int x2, u3] [] σ := by
  intro n
  induction n with
  | zero => intro x0 x1 x2 u3 h_x0; exact rf_none
  | succ n ih =>
    intro x0 x1 x2 u3 h_x0
    rw [f_St_openPapers_4]
    refine rf_ild (i := 2) (Or.inr ⟨2, rfl, rfl, rfl⟩) c_78_4 rfl ?_
    refine rf_ald (i := 0) (Or.inr ⟨0, rfl, rfl, rfl⟩) c_78_5 rfl ?_
    refine rf_geti hS c_78_6 rfl fl_7_93 rfl h_x0 ?_
    refine rf_ite (fun hc9 => ?_) (fun hc9 => ?_)
    · refine rf_b2t c_78_9 rfl (decide_eq_true hc9) ?_
      refine rf_ild (i := 1) (Or.inr ⟨1, rfl, rfl, rfl⟩) c_78_56 rfl ?_
      exact rf_ret c_78_57 rfl rfl rfl rfl
    · refine rf_b2f c_78_9 rfl (decide_eq_false hc9) ?_
      refine rf_ald (i := 0) (Or.inr ⟨0, rfl, rfl, rfl⟩) c_78_12 rfl ?_
      refine rf_getr hS c_78_13 rfl fl_7_27 rfl h_x0 ?_
      refine rf_ild (i := 2) (Or.inr ⟨2, rfl, rfl, rfl⟩) c_78_16 rfl ?_
      refine rf_ite (fun hb17 => ?_) (fun _ => rf_none)
      refine rf_aald hS c_78_17 (by rw [(tf_7_2 h_x0)]; decide) (by rw [(tf_7_2 h_x0)]; decide) (lf_7_2 h_x0) hb17 ?_
      refine rf_ast (i := 3) (Or.inr ⟨3, rfl, rfl, rfl⟩) c_78_18 (Nat.le_of_ble_eq_true rfl) rfl ?_
      refine rf_ald (i := 3) (Or.inr ⟨3, rfl, rfl, rfl⟩) c_78_19 rfl ?_
      refine rf_callI (as := [.ref (rfT (rfT x0 2) (ix x2))]) (kd := 1) c_78_20 rfl (by decide) rfl ml_7_227 (by decide) rfl (rcv_1 hS rfl rfl (te_33 (tf_7_2 h_x0) hb17) (by decide)) (Nat.zero_le _) rfl rfl (t_Pa_isSent hS (by omega) σ (rfT (rfT x0 2) (ix x2)) (te_33 (tf_7_2 h_x0) hb17)) (fun v20 => ?_)
      refine rf_ite (fun hc23 => ?_) (fun hc23 => ?_)
      · refine rf_b1t c_78_23 rfl (decide_eq_true hc23) ?_
        exact t_St_openPapers_50 hS hd σ ih x0 x1 x2 (.ref (rfT (rfT x0 2) (ix x2))) h_x0
      · refine rf_b1f c_78_23 rfl (decide_eq_false hc23) ?_
        refine rf_ald (i := 0) (Or.inr ⟨0, rfl, rfl, rfl⟩) c_78_26 rfl ?_
        refine rf_geti hS c_78_27 rfl fl_7_86 rfl h_x0 ?_
        refine rf_ald (i := 3) (Or.inr ⟨3, rfl, rfl, rfl⟩) c_78_30 rfl ?_
        refine rf_geti hS c_78_31 rfl fl_7_146 rfl (te_33 (tf_7_2 h_x0) hb17) ?_
        refine rf_isub c_78_34 ?_
        refine rf_ald (i := 0) (Or.inr ⟨0, rfl, rfl, rfl⟩) c_78_35 rfl ?_
        refine rf_ald (i := 3) (Or.inr ⟨3, rfl, rfl, rfl⟩) c_78_36 rfl ?_
        refine rf_iconst c_78_37 ki_4 ?_
        refine rf_callI (as := [.ref x0, .ref (rfT (rfT x0 2) (ix x2)), .int (4 : Int32)]) (kd := 1) c_78_38 rfl (by decide) rfl ml_7_230 (by decide) rfl (rcv_1 hS rfl rfl h_x0 (by decide)) (by simp [Value.category]) rfl rfl (t_St_dueOf hS (by omega) σ x0 (rfT (rfT x0 2) (ix x2)) (4 : Int32) h_x0 (te_33 (tf_7_2 h_x0) hb17)) (fun v38 => ?_)
        refine rf_ite (fun hc41 => ?_) (fun hc41 => ?_)
        · refine rf_b2t c_78_41 rfl (decide_eq_true hc41) ?_
          exact t_St_openPapers_50 hS hd σ ih x0 x1 x2 (.ref (rfT (rfT x0 2) (ix x2))) h_x0
        · refine rf_b2f c_78_41 rfl (decide_eq_false hc41) ?_
          refine rf_ild (i := 1) (Or.inr ⟨1, rfl, rfl, rfl⟩) c_78_44 rfl ?_
          refine rf_iconst c_78_45 ki_1 ?_
          refine rf_ild (i := 2) (Or.inr ⟨2, rfl, rfl, rfl⟩) c_78_46 rfl ?_
          refine rf_ishl c_78_47 ?_
          refine rf_ior c_78_48 ?_
          refine rf_ist (i := 1) (Or.inr ⟨1, rfl, rfl, rfl⟩) c_78_49 (Nat.le_of_ble_eq_true rfl) rfl ?_
          exact t_St_openPapers_50 hS hd σ ih x0 (x1 ||| ((1 : Int32) <<< (x2 &&& 31))) x2 (.ref (rfT (rfT x0 2) (ix x2))) h_x0
def f_St_openPapers (σ : Mm) (x0 : Nat) : Option Int32 := f_St_openPapers_4 σ NN x0 (0 : Int32) (0 : Int32)
set_option maxRecDepth 100000 in
set_option maxHeartbeats 4000000 in
theorem t_St_openPapers_e {X : Xt} {S : Sh} (hS : ShOK S) {d : Nat} (hd : 10 ≤ d + 1) (σ : Mm) (x0 : Nat) (h_x0 : tgT x0 = 7) : Rf X S (emI σ) (f_St_openPapers σ x0) (d + 1) 78 0 [.ref x0, unset0, unset0, unset0] [] σ := by
  unfold f_St_openPapers
  refine rf_iconst c_78_0 ki_0 ?_
  refine rf_ist (i := 1) (Or.inr ⟨1, rfl, rfl, rfl⟩) c_78_1 (Nat.le_of_ble_eq_true rfl) rfl ?_
  refine rf_iconst c_78_2 ki_0 ?_
  refine rf_ist (i := 2) (Or.inr ⟨2, rfl, rfl, rfl⟩) c_78_3 (Nat.le_of_ble_eq_true rfl) rfl ?_
  exact t_St_openPapers_4 hS hd σ  NN x0 (0 : Int32) (0 : Int32) (unset0) h_x0
theorem t_St_openPapers {X : Xt} {S : Sh} (hS : ShOK S) {d : Nat} (hd : 10 ≤ d) (σ : Mm) (x0 : Nat) (h_x0 : tgT x0 = 7) : Rf X S (emI σ) (f_St_openPapers σ x0) d 78 0 [.ref x0, unset0, unset0, unset0] [] σ := by
  obtain ⟨d1, rfl⟩ : ∃ d1, d = d1 + 1 := ⟨d - 1, by omega⟩
  exact t_St_openPapers_e hS hd σ x0 h_x0
theorem c_79_0 : cd 79 0 = some (.iconst (1), 1) := by decide +kernel
theorem c_79_1 : cd 79 1 = some (.aload_n 0, 1) := by decide +kernel
theorem c_79_2 : cd 79 2 = some (.getfield 93, 3) := by decide +kernel
theorem c_79_5 : cd 79 5 = some (.ishl, 1) := by decide +kernel
theorem c_79_6 : cd 79 6 = some (.iconst (1), 1) := by decide +kernel
theorem c_79_7 : cd 79 7 = some (.isub, 1) := by decide +kernel
theorem c_79_8 : cd 79 8 = some (.istore_n 2, 1) := by decide +kernel
theorem c_79_9 : cd 79 9 = some (.iload_n 1, 1) := by decide +kernel
theorem c_79_10 : cd 79 10 = some (.istore_n 3, 1) := by decide +kernel
theorem c_79_11 : cd 79 11 = some (.iconst (0), 1) := by decide +kernel
theorem c_79_12 : cd 79 12 = some (.istore 4, 2) := by decide +kernel
theorem c_79_14 : cd 79 14 = some (.iload 4, 2) := by decide +kernel
theorem c_79_16 : cd 79 16 = some (.bipush (24), 2) := by decide +kernel
theorem c_79_18 : cd 79 18 = some (.if_icmp .ge (56), 3) := by decide +kernel
theorem c_79_21 : cd 79 21 = some (.iconst (0), 1) := by decide +kernel
theorem c_79_22 : cd 79 22 = some (.istore 5, 2) := by decide +kernel
theorem c_79_24 : cd 79 24 = some (.iload 5, 2) := by decide +kernel
theorem c_79_26 : cd 79 26 = some (.aload_n 0, 1) := by decide +kernel
theorem c_79_27 : cd 79 27 = some (.getfield 99, 3) := by decide +kernel
theorem c_79_30 : cd 79 30 = some (.if_icmp .ge (38), 3) := by decide +kernel
theorem c_79_33 : cd 79 33 = some (.aload_n 0, 1) := by decide +kernel
theorem c_79_34 : cd 79 34 = some (.getfield 51, 3) := by decide +kernel
theorem c_79_37 : cd 79 37 = some (.iload 5, 2) := by decide +kernel
theorem c_79_39 : cd 79 39 = some (.iaload, 1) := by decide +kernel
theorem c_79_40 : cd 79 40 = some (.iload_n 2, 1) := by decide +kernel
theorem c_79_41 : cd 79 41 = some (.iand, 1) := by decide +kernel
theorem c_79_42 : cd 79 42 = some (.iload_n 3, 1) := by decide +kernel
theorem c_79_43 : cd 79 43 = some (.iconst (-1), 1) := by decide +kernel
theorem c_79_44 : cd 79 44 = some (.ixor, 1) := by decide +kernel
theorem c_79_45 : cd 79 45 = some (.iand, 1) := by decide +kernel
theorem c_79_46 : cd 79 46 = some (.istore 6, 2) := by decide +kernel
theorem c_79_48 : cd 79 48 = some (.iload 6, 2) := by decide +kernel
theorem c_79_50 : cd 79 50 = some (.invokestatic 234, 3) := by decide +kernel
theorem c_79_53 : cd 79 53 = some (.iconst (1), 1) := by decide +kernel
theorem c_79_54 : cd 79 54 = some (.if_icmp .ne (8), 3) := by decide +kernel
theorem c_79_57 : cd 79 57 = some (.iload_n 3, 1) := by decide +kernel
theorem c_79_58 : cd 79 58 = some (.iload 6, 2) := by decide +kernel
theorem c_79_60 : cd 79 60 = some (.ior, 1) := by decide +kernel
theorem c_79_61 : cd 79 61 = some (.istore_n 3, 1) := by decide +kernel
theorem c_79_62 : cd 79 62 = some (.iinc 5 (1), 3) := by decide +kernel
theorem c_79_65 : cd 79 65 = some (.goto (-41), 3) := by decide +kernel
theorem c_79_68 : cd 79 68 = some (.iinc 4 (1), 3) := by decide +kernel
theorem c_79_71 : cd 79 71 = some (.goto (-57), 3) := by decide +kernel
theorem c_79_74 : cd 79 74 = some (.iload_n 3, 1) := by decide +kernel
theorem c_79_75 : cd 79 75 = some (.iload_n 1, 1) := by decide +kernel
theorem c_79_76 : cd 79 76 = some (.iconst (-1), 1) := by decide +kernel
theorem c_79_77 : cd 79 77 = some (.ixor, 1) := by decide +kernel
theorem c_79_78 : cd 79 78 = some (.iand, 1) := by decide +kernel
theorem c_79_79 : cd 79 79 = some (.ireturn, 1) := by decide +kernel
def f_St_reckonedFrom_62 (σ : Mm) (k14 : Nat → Int32 → Int32 → Int32 → Int32 → Option (Int32)) (k24 : Nat → Int32 → Int32 → Int32 → Int32 → Int32 → Option (Int32)) (x0 : Nat) (x1 : Int32) (x2 : Int32) (x3 : Int32) (x4 : Int32) (x5 : Int32) : Option Int32 := k24 x0 x1 x2 x3 x4 (x5 + (1 : Int32))
set_option maxRecDepth 100000 in
set_option maxHeartbeats 4000000 in
theorem t_St_reckonedFrom_62 {X : Xt} {S : Sh} (hS : ShOK S) {d : Nat} (hd : 1 ≤ d + 1) (σ : Mm) {k14 : Nat → Int32 → Int32 → Int32 → Int32 → Option (Int32)} (hk14 : ∀ (x0 : Nat) (x1 : Int32) (x2 : Int32) (x3 : Int32) (x4 : Int32) (u5 : Value) (u6 : Value) (h_x0 : tgT x0 = 7), Rf X S (emI σ) (k14 x0 x1 x2 x3 x4) (d + 1) 79 14 [.ref x0, .int x1, .int x2, .int x3, .int x4, u5, u6] [] σ) {k24 : Nat → Int32 → Int32 → Int32 → Int32 → Int32 → Option (Int32)} (hk24 : ∀ (x0 : Nat) (x1 : Int32) (x2 : Int32) (x3 : Int32) (x4 : Int32) (x5 : Int32) (u6 : Value) (h_x0 : tgT x0 = 7), Rf X S (emI σ) (k24 x0 x1 x2 x3 x4 x5) (d + 1) 79 24 [.ref x0, .int x1, .int x2, .int x3, .int x4, .int x5, u6] [] σ) (x0 : Nat) (x1 : Int32) (x2 : Int32) (x3 : Int32) (x4 : Int32) (x5 : Int32) (u6 : Value) (h_x0 : tgT x0 = 7) : Rf X S (emI σ) (f_St_reckonedFrom_62 σ k14 k24 x0 x1 x2 x3 x4 x5) (d + 1) 79 62 [.ref x0, .int x1, .int x2, .int x3, .int x4, .int x5, u6] [] σ := by
  unfold f_St_reckonedFrom_62
  refine rf_iinc c_79_62 rfl ki_1 rfl ?_
  refine rf_goto c_79_65 rfl ?_
  exact hk24 x0 x1 x2 x3 x4 (x5 + (1 : Int32)) (u6) h_x0
def f_St_reckonedFrom_24 (σ : Mm) (k14 : Nat → Int32 → Int32 → Int32 → Int32 → Option (Int32)) : Nat → Nat → Int32 → Int32 → Int32 → Int32 → Int32 → Option Int32
  | 0, _, _, _, _, _, _ => none
  | n + 1, x0, x1, x2, x3, x4, x5 => (if (σ x0 12) ≤ x5 then (k14 x0 x1 x2 x3 (x4 + (1 : Int32))) else (if inbB x5 8 = true then (f_In_bitCount σ (((σ (rfT x0 6) (ix x5)) &&& x2) &&& (x3 ^^^ (-1 : Int32)))).bind fun v50 => (if ¬ v50 = (1 : Int32) then (f_St_reckonedFrom_62 σ k14 (f_St_reckonedFrom_24 σ k14 n) x0 x1 x2 x3 x4 x5) else (f_St_reckonedFrom_62 σ k14 (f_St_reckonedFrom_24 σ k14 n) x0 x1 x2 (x3 ||| (((σ (rfT x0 6) (ix x5)) &&& x2) &&& (x3 ^^^ (-1 : Int32)))) x4 x5)) else none))
set_option maxRecDepth 100000 in
set_option maxHeartbeats 4000000 in
theorem t_St_reckonedFrom_24 {X : Xt} {S : Sh} (hS : ShOK S) {d : Nat} (hd : 1 ≤ d + 1) (σ : Mm) {k14 : Nat → Int32 → Int32 → Int32 → Int32 → Option (Int32)} (hk14 : ∀ (x0 : Nat) (x1 : Int32) (x2 : Int32) (x3 : Int32) (x4 : Int32) (u5 : Value) (u6 : Value) (h_x0 : tgT x0 = 7), Rf X S (emI σ) (k14 x0 x1 x2 x3 x4) (d + 1) 79 14 [.ref x0, .int x1, .int x2, .int x3, .int x4, u5, u6] [] σ) : ∀ (n : Nat) (x0 : Nat) (x1 : Int32) (x2 : Int32) (x3 : Int32) (x4 : Int32) (x5 : Int32) (u6 : Value) (h_x0 : tgT x0 = 7), Rf X S (emI σ) (f_St_reckonedFrom_24 σ k14 n x0 x1 x2 x3 x4 x5) (d + 1) 79 24 [.ref x0, .int x1, .int x2, .int x3, .int x4, .int x5, u6] [] σ := by
  intro n
  induction n with
  | zero => intro x0 x1 x2 x3 x4 x5 u6 h_x0; exact rf_none
  | succ n ih =>
    intro x0 x1 x2 x3 x4 x5 u6 h_x0
    rw [f_St_reckonedFrom_24]
    refine rf_ild (i := 5) (Or.inl ⟨rfl, rfl⟩) c_79_24 rfl ?_
    refine rf_ald (i := 0) (Or.inr ⟨0, rfl, rfl, rfl⟩) c_79_26 rfl ?_
    refine rf_geti hS c_79_27 rfl fl_7_99 rfl h_x0 ?_
    refine rf_ite (fun hc30 => ?_) (fun hc30 => ?_)
    · refine rf_b2t c_79_30 rfl (decide_eq_true hc30) ?_
      refine rf_iinc c_79_68 rfl ki_1 rfl ?_
      refine rf_goto c_79_71 rfl ?_
      exact hk14 x0 x1 x2 x3 (x4 + (1 : Int32)) (.int x5) (u6) h_x0
    · refine rf_b2f c_79_30 rfl (decide_eq_false hc30) ?_
      refine rf_ald (i := 0) (Or.inr ⟨0, rfl, rfl, rfl⟩) c_79_33 rfl ?_
      refine rf_getr hS c_79_34 rfl fl_7_51 rfl h_x0 ?_
      refine rf_ild (i := 5) (Or.inl ⟨rfl, rfl⟩) c_79_37 rfl ?_
      refine rf_ite (fun hb39 => ?_) (fun _ => rf_none)
      refine rf_iald hS c_79_39 (tf_7_6 h_x0) (lf_7_6 h_x0) hb39 ?_
      refine rf_ild (i := 2) (Or.inr ⟨2, rfl, rfl, rfl⟩) c_79_40 rfl ?_
      refine rf_iand c_79_41 ?_
      refine rf_ild (i := 3) (Or.inr ⟨3, rfl, rfl, rfl⟩) c_79_42 rfl ?_
      refine rf_iconst c_79_43 ki_m1 ?_
      refine rf_ixor c_79_44 ?_
      refine rf_iand c_79_45 ?_
      refine rf_ist (i := 6) (Or.inl ⟨rfl, rfl⟩) c_79_46 (Nat.le_of_ble_eq_true rfl) rfl ?_
      refine rf_ild (i := 6) (Or.inl ⟨rfl, rfl⟩) c_79_48 rfl ?_
      refine rf_callI (as := [.int (((σ (rfT x0 6) (ix x5)) &&& x2) &&& (x3 ^^^ (-1 : Int32)))]) (kd := 0) c_79_50 rfl (by decide) rfl ml_7_234 (by decide) rfl (rcv_0 rfl) (Nat.zero_le _) rfl rfl (t_In_bitCount hS (by omega) σ (((σ (rfT x0 6) (ix x5)) &&& x2) &&& (x3 ^^^ (-1 : Int32)))) (fun v50 => ?_)
      refine rf_iconst c_79_53 ki_1 ?_
      refine rf_ite (fun hc54 => ?_) (fun hc54 => ?_)
      · refine rf_b2t c_79_54 rfl (decide_eq_true hc54) ?_
        exact t_St_reckonedFrom_62 hS hd σ hk14 ih x0 x1 x2 x3 x4 x5 (.int (((σ (rfT x0 6) (ix x5)) &&& x2) &&& (x3 ^^^ (-1 : Int32)))) h_x0
      · refine rf_b2f c_79_54 rfl (decide_eq_false hc54) ?_
        refine rf_ild (i := 3) (Or.inr ⟨3, rfl, rfl, rfl⟩) c_79_57 rfl ?_
        refine rf_ild (i := 6) (Or.inl ⟨rfl, rfl⟩) c_79_58 rfl ?_
        refine rf_ior c_79_60 ?_
        refine rf_ist (i := 3) (Or.inr ⟨3, rfl, rfl, rfl⟩) c_79_61 (Nat.le_of_ble_eq_true rfl) rfl ?_
        exact t_St_reckonedFrom_62 hS hd σ hk14 ih x0 x1 x2 (x3 ||| (((σ (rfT x0 6) (ix x5)) &&& x2) &&& (x3 ^^^ (-1 : Int32)))) x4 x5 (.int (((σ (rfT x0 6) (ix x5)) &&& x2) &&& (x3 ^^^ (-1 : Int32)))) h_x0
def f_St_reckonedFrom_14 (σ : Mm) : Nat → Nat → Int32 → Int32 → Int32 → Int32 → Option Int32
  | 0, _, _, _, _, _ => none
  | n + 1, x0, x1, x2, x3, x4 => (if (24 : Int32) ≤ x4 then (some (x3 &&& (x1 ^^^ (-1 : Int32)))) else (f_St_reckonedFrom_24 σ (f_St_reckonedFrom_14 σ n) NN x0 x1 x2 x3 x4 (0 : Int32)))
set_option maxRecDepth 100000 in
set_option maxHeartbeats 4000000 in
theorem t_St_reckonedFrom_14 {X : Xt} {S : Sh} (hS : ShOK S) {d : Nat} (hd : 1 ≤ d + 1) (σ : Mm) : ∀ (n : Nat) (x0 : Nat) (x1 : Int32) (x2 : Int32) (x3 : Int32) (x4 : Int32) (u5 : Value) (u6 : Value) (h_x0 : tgT x0 = 7), Rf X S (emI σ) (f_St_reckonedFrom_14 σ n x0 x1 x2 x3 x4) (d + 1) 79 14 [.ref x0, .int x1, .int x2, .int x3, .int x4, u5, u6] [] σ := by
  intro n
  induction n with
  | zero => intro x0 x1 x2 x3 x4 u5 u6 h_x0; exact rf_none
  | succ n ih =>
    intro x0 x1 x2 x3 x4 u5 u6 h_x0
    rw [f_St_reckonedFrom_14]
    refine rf_ild (i := 4) (Or.inl ⟨rfl, rfl⟩) c_79_14 rfl ?_
    refine rf_bipush c_79_16 kb_24 ?_
    refine rf_ite (fun hc18 => ?_) (fun hc18 => ?_)
    · refine rf_b2t c_79_18 rfl (decide_eq_true hc18) ?_
      refine rf_ild (i := 3) (Or.inr ⟨3, rfl, rfl, rfl⟩) c_79_74 rfl ?_
      refine rf_ild (i := 1) (Or.inr ⟨1, rfl, rfl, rfl⟩) c_79_75 rfl ?_
      refine rf_iconst c_79_76 ki_m1 ?_
      refine rf_ixor c_79_77 ?_
      refine rf_iand c_79_78 ?_
      exact rf_ret c_79_79 rfl rfl rfl rfl
    · refine rf_b2f c_79_18 rfl (decide_eq_false hc18) ?_
      refine rf_iconst c_79_21 ki_0 ?_
      refine rf_ist (i := 5) (Or.inl ⟨rfl, rfl⟩) c_79_22 (Nat.le_of_ble_eq_true rfl) rfl ?_
      exact t_St_reckonedFrom_24 hS hd σ ih NN x0 x1 x2 x3 x4 (0 : Int32) (u6) h_x0
def f_St_reckonedFrom (σ : Mm) (x0 : Nat) (x1 : Int32) : Option Int32 := f_St_reckonedFrom_14 σ NN x0 x1 (((1 : Int32) <<< ((σ x0 10) &&& 31)) - (1 : Int32)) x1 (0 : Int32)
set_option maxRecDepth 100000 in
set_option maxHeartbeats 4000000 in
theorem t_St_reckonedFrom_e {X : Xt} {S : Sh} (hS : ShOK S) {d : Nat} (hd : 1 ≤ d + 1) (σ : Mm) (x0 : Nat) (x1 : Int32) (h_x0 : tgT x0 = 7) : Rf X S (emI σ) (f_St_reckonedFrom σ x0 x1) (d + 1) 79 0 [.ref x0, .int x1, unset0, unset0, unset0, unset0, unset0] [] σ := by
  unfold f_St_reckonedFrom
  refine rf_iconst c_79_0 ki_1 ?_
  refine rf_ald (i := 0) (Or.inr ⟨0, rfl, rfl, rfl⟩) c_79_1 rfl ?_
  refine rf_geti hS c_79_2 rfl fl_7_93 rfl h_x0 ?_
  refine rf_ishl c_79_5 ?_
  refine rf_iconst c_79_6 ki_1 ?_
  refine rf_isub c_79_7 ?_
  refine rf_ist (i := 2) (Or.inr ⟨2, rfl, rfl, rfl⟩) c_79_8 (Nat.le_of_ble_eq_true rfl) rfl ?_
  refine rf_ild (i := 1) (Or.inr ⟨1, rfl, rfl, rfl⟩) c_79_9 rfl ?_
  refine rf_ist (i := 3) (Or.inr ⟨3, rfl, rfl, rfl⟩) c_79_10 (Nat.le_of_ble_eq_true rfl) rfl ?_
  refine rf_iconst c_79_11 ki_0 ?_
  refine rf_ist (i := 4) (Or.inl ⟨rfl, rfl⟩) c_79_12 (Nat.le_of_ble_eq_true rfl) rfl ?_
  exact t_St_reckonedFrom_14 hS hd σ  NN x0 x1 (((1 : Int32) <<< ((σ x0 10) &&& 31)) - (1 : Int32)) x1 (0 : Int32) (unset0) (unset0) h_x0
theorem t_St_reckonedFrom {X : Xt} {S : Sh} (hS : ShOK S) {d : Nat} (hd : 1 ≤ d) (σ : Mm) (x0 : Nat) (x1 : Int32) (h_x0 : tgT x0 = 7) : Rf X S (emI σ) (f_St_reckonedFrom σ x0 x1) d 79 0 [.ref x0, .int x1, unset0, unset0, unset0, unset0, unset0] [] σ := by
  obtain ⟨d1, rfl⟩ : ∃ d1, d = d1 + 1 := ⟨d - 1, by omega⟩
  exact t_St_reckonedFrom_e hS hd σ x0 x1 h_x0
theorem c_80_0 : cd 80 0 = some (.iconst (0), 1) := by decide +kernel
theorem c_80_1 : cd 80 1 = some (.istore_n 1, 1) := by decide +kernel
theorem c_80_2 : cd 80 2 = some (.iconst (0), 1) := by decide +kernel
theorem c_80_3 : cd 80 3 = some (.istore_n 2, 1) := by decide +kernel
theorem c_80_4 : cd 80 4 = some (.iload_n 2, 1) := by decide +kernel
theorem c_80_5 : cd 80 5 = some (.aload_n 0, 1) := by decide +kernel
theorem c_80_6 : cd 80 6 = some (.getfield 93, 3) := by decide +kernel
theorem c_80_9 : cd 80 9 = some (.if_icmp .ge (24), 3) := by decide +kernel
theorem c_80_12 : cd 80 12 = some (.iload_n 1, 1) := by decide +kernel
theorem c_80_13 : cd 80 13 = some (.aload_n 0, 1) := by decide +kernel
theorem c_80_14 : cd 80 14 = some (.getfield 27, 3) := by decide +kernel
theorem c_80_17 : cd 80 17 = some (.iload_n 2, 1) := by decide +kernel
theorem c_80_18 : cd 80 18 = some (.aaload, 1) := by decide +kernel
theorem c_80_19 : cd 80 19 = some (.invokevirtual 227, 3) := by decide +kernel
theorem c_80_22 : cd 80 22 = some (.invokestatic 237, 3) := by decide +kernel
theorem c_80_25 : cd 80 25 = some (.iadd, 1) := by decide +kernel
theorem c_80_26 : cd 80 26 = some (.istore_n 1, 1) := by decide +kernel
theorem c_80_27 : cd 80 27 = some (.iinc 2 (1), 3) := by decide +kernel
theorem c_80_30 : cd 80 30 = some (.goto (-26), 3) := by decide +kernel
theorem c_80_33 : cd 80 33 = some (.iload_n 1, 1) := by decide +kernel
theorem c_80_34 : cd 80 34 = some (.ireturn, 1) := by decide +kernel
def f_St_sentPapers_4 (σ : Mm) : Nat → Nat → Int32 → Int32 → Option Int32
  | 0, _, _, _ => none
  | n + 1, x0, x1, x2 => (if (σ x0 10) ≤ x2 then (some x1) else (if inbB x2 24 = true then (f_Pa_isSent σ (rfT (rfT x0 2) (ix x2))).bind fun v19 => (f_Ct_bit σ v19).bind fun v22 => f_St_sentPapers_4 σ n x0 (x1 + v22) (x2 + (1 : Int32)) else none))
set_option maxRecDepth 100000 in
set_option maxHeartbeats 4000000 in
theorem t_St_sentPapers_4 {X : Xt} {S : Sh} (hS : ShOK S) {d : Nat} (hd : 1 ≤ d + 1) (σ : Mm) : ∀ (n : Nat) (x0 : Nat) (x1 : Int32) (x2 : Int32) (h_x0 : tgT x0 = 7), Rf X S (emI σ) (f_St_sentPapers_4 σ n x0 x1 x2) (d + 1) 80 4 [.ref x0, .int x1, .int x2] [] σ := by
  intro n
  induction n with
  | zero => intro x0 x1 x2 h_x0; exact rf_none
  | succ n ih =>
    intro x0 x1 x2 h_x0
    rw [f_St_sentPapers_4]
    refine rf_ild (i := 2) (Or.inr ⟨2, rfl, rfl, rfl⟩) c_80_4 rfl ?_
    refine rf_ald (i := 0) (Or.inr ⟨0, rfl, rfl, rfl⟩) c_80_5 rfl ?_
    refine rf_geti hS c_80_6 rfl fl_7_93 rfl h_x0 ?_
    refine rf_ite (fun hc9 => ?_) (fun hc9 => ?_)
    · refine rf_b2t c_80_9 rfl (decide_eq_true hc9) ?_
      refine rf_ild (i := 1) (Or.inr ⟨1, rfl, rfl, rfl⟩) c_80_33 rfl ?_
      exact rf_ret c_80_34 rfl rfl rfl rfl
    · refine rf_b2f c_80_9 rfl (decide_eq_false hc9) ?_
      refine rf_ild (i := 1) (Or.inr ⟨1, rfl, rfl, rfl⟩) c_80_12 rfl ?_
      refine rf_ald (i := 0) (Or.inr ⟨0, rfl, rfl, rfl⟩) c_80_13 rfl ?_
      refine rf_getr hS c_80_14 rfl fl_7_27 rfl h_x0 ?_
      refine rf_ild (i := 2) (Or.inr ⟨2, rfl, rfl, rfl⟩) c_80_17 rfl ?_
      refine rf_ite (fun hb18 => ?_) (fun _ => rf_none)
      refine rf_aald hS c_80_18 (by rw [(tf_7_2 h_x0)]; decide) (by rw [(tf_7_2 h_x0)]; decide) (lf_7_2 h_x0) hb18 ?_
      refine rf_callI (as := [.ref (rfT (rfT x0 2) (ix x2))]) (kd := 1) c_80_19 rfl (by decide) rfl ml_7_227 (by decide) rfl (rcv_1 hS rfl rfl (te_33 (tf_7_2 h_x0) hb18) (by decide)) (by simp [Value.category]) rfl rfl (t_Pa_isSent hS (by omega) σ (rfT (rfT x0 2) (ix x2)) (te_33 (tf_7_2 h_x0) hb18)) (fun v19 => ?_)
      refine rf_callI (as := [.int v19]) (kd := 0) c_80_22 rfl (by decide) rfl ml_7_237 (by decide) rfl (rcv_0 rfl) (by simp [Value.category]) rfl rfl (t_Ct_bit hS (by omega) σ v19) (fun v22 => ?_)
      refine rf_iadd c_80_25 ?_
      refine rf_ist (i := 1) (Or.inr ⟨1, rfl, rfl, rfl⟩) c_80_26 (Nat.le_of_ble_eq_true rfl) rfl ?_
      refine rf_iinc c_80_27 rfl ki_1 rfl ?_
      refine rf_goto c_80_30 rfl ?_
      exact ih x0 (x1 + v22) (x2 + (1 : Int32)) h_x0
def f_St_sentPapers (σ : Mm) (x0 : Nat) : Option Int32 := f_St_sentPapers_4 σ NN x0 (0 : Int32) (0 : Int32)
set_option maxRecDepth 100000 in
set_option maxHeartbeats 4000000 in
theorem t_St_sentPapers_e {X : Xt} {S : Sh} (hS : ShOK S) {d : Nat} (hd : 1 ≤ d + 1) (σ : Mm) (x0 : Nat) (h_x0 : tgT x0 = 7) : Rf X S (emI σ) (f_St_sentPapers σ x0) (d + 1) 80 0 [.ref x0, unset0, unset0] [] σ := by
  unfold f_St_sentPapers
  refine rf_iconst c_80_0 ki_0 ?_
  refine rf_ist (i := 1) (Or.inr ⟨1, rfl, rfl, rfl⟩) c_80_1 (Nat.le_of_ble_eq_true rfl) rfl ?_
  refine rf_iconst c_80_2 ki_0 ?_
  refine rf_ist (i := 2) (Or.inr ⟨2, rfl, rfl, rfl⟩) c_80_3 (Nat.le_of_ble_eq_true rfl) rfl ?_
  exact t_St_sentPapers_4 hS hd σ  NN x0 (0 : Int32) (0 : Int32) h_x0
theorem t_St_sentPapers {X : Xt} {S : Sh} (hS : ShOK S) {d : Nat} (hd : 1 ≤ d) (σ : Mm) (x0 : Nat) (h_x0 : tgT x0 = 7) : Rf X S (emI σ) (f_St_sentPapers σ x0) d 80 0 [.ref x0, unset0, unset0] [] σ := by
  obtain ⟨d1, rfl⟩ : ∃ d1, d = d1 + 1 := ⟨d - 1, by omega⟩
  exact t_St_sentPapers_e hS hd σ x0 h_x0
theorem c_81_0 : cd 81 0 = some (.iconst (0), 1) := by decide +kernel
theorem c_81_1 : cd 81 1 = some (.istore_n 1, 1) := by decide +kernel
theorem c_81_2 : cd 81 2 = some (.iconst (0), 1) := by decide +kernel
theorem c_81_3 : cd 81 3 = some (.istore_n 2, 1) := by decide +kernel
theorem c_81_4 : cd 81 4 = some (.iload_n 2, 1) := by decide +kernel
theorem c_81_5 : cd 81 5 = some (.aload_n 0, 1) := by decide +kernel
theorem c_81_6 : cd 81 6 = some (.getfield 93, 3) := by decide +kernel
theorem c_81_9 : cd 81 9 = some (.if_icmp .ge (24), 3) := by decide +kernel
theorem c_81_12 : cd 81 12 = some (.iload_n 1, 1) := by decide +kernel
theorem c_81_13 : cd 81 13 = some (.aload_n 0, 1) := by decide +kernel
theorem c_81_14 : cd 81 14 = some (.getfield 27, 3) := by decide +kernel
theorem c_81_17 : cd 81 17 = some (.iload_n 2, 1) := by decide +kernel
theorem c_81_18 : cd 81 18 = some (.aaload, 1) := by decide +kernel
theorem c_81_19 : cd 81 19 = some (.invokevirtual 206, 3) := by decide +kernel
theorem c_81_22 : cd 81 22 = some (.invokestatic 237, 3) := by decide +kernel
theorem c_81_25 : cd 81 25 = some (.iadd, 1) := by decide +kernel
theorem c_81_26 : cd 81 26 = some (.istore_n 1, 1) := by decide +kernel
theorem c_81_27 : cd 81 27 = some (.iinc 2 (1), 3) := by decide +kernel
theorem c_81_30 : cd 81 30 = some (.goto (-26), 3) := by decide +kernel
theorem c_81_33 : cd 81 33 = some (.iload_n 1, 1) := by decide +kernel
theorem c_81_34 : cd 81 34 = some (.ireturn, 1) := by decide +kernel
def f_St_papersThatCame_4 (σ : Mm) : Nat → Nat → Int32 → Int32 → Option Int32
  | 0, _, _, _ => none
  | n + 1, x0, x1, x2 => (if (σ x0 10) ≤ x2 then (some x1) else (if inbB x2 24 = true then (f_Pa_hasCome σ (rfT (rfT x0 2) (ix x2))).bind fun v19 => (f_Ct_bit σ v19).bind fun v22 => f_St_papersThatCame_4 σ n x0 (x1 + v22) (x2 + (1 : Int32)) else none))
set_option maxRecDepth 100000 in
set_option maxHeartbeats 4000000 in
theorem t_St_papersThatCame_4 {X : Xt} {S : Sh} (hS : ShOK S) {d : Nat} (hd : 1 ≤ d + 1) (σ : Mm) : ∀ (n : Nat) (x0 : Nat) (x1 : Int32) (x2 : Int32) (h_x0 : tgT x0 = 7), Rf X S (emI σ) (f_St_papersThatCame_4 σ n x0 x1 x2) (d + 1) 81 4 [.ref x0, .int x1, .int x2] [] σ := by
  intro n
  induction n with
  | zero => intro x0 x1 x2 h_x0; exact rf_none
  | succ n ih =>
    intro x0 x1 x2 h_x0
    rw [f_St_papersThatCame_4]
    refine rf_ild (i := 2) (Or.inr ⟨2, rfl, rfl, rfl⟩) c_81_4 rfl ?_
    refine rf_ald (i := 0) (Or.inr ⟨0, rfl, rfl, rfl⟩) c_81_5 rfl ?_
    refine rf_geti hS c_81_6 rfl fl_7_93 rfl h_x0 ?_
    refine rf_ite (fun hc9 => ?_) (fun hc9 => ?_)
    · refine rf_b2t c_81_9 rfl (decide_eq_true hc9) ?_
      refine rf_ild (i := 1) (Or.inr ⟨1, rfl, rfl, rfl⟩) c_81_33 rfl ?_
      exact rf_ret c_81_34 rfl rfl rfl rfl
    · refine rf_b2f c_81_9 rfl (decide_eq_false hc9) ?_
      refine rf_ild (i := 1) (Or.inr ⟨1, rfl, rfl, rfl⟩) c_81_12 rfl ?_
      refine rf_ald (i := 0) (Or.inr ⟨0, rfl, rfl, rfl⟩) c_81_13 rfl ?_
      refine rf_getr hS c_81_14 rfl fl_7_27 rfl h_x0 ?_
      refine rf_ild (i := 2) (Or.inr ⟨2, rfl, rfl, rfl⟩) c_81_17 rfl ?_
      refine rf_ite (fun hb18 => ?_) (fun _ => rf_none)
      refine rf_aald hS c_81_18 (by rw [(tf_7_2 h_x0)]; decide) (by rw [(tf_7_2 h_x0)]; decide) (lf_7_2 h_x0) hb18 ?_
      refine rf_callI (as := [.ref (rfT (rfT x0 2) (ix x2))]) (kd := 1) c_81_19 rfl (by decide) rfl ml_7_206 (by decide) rfl (rcv_1 hS rfl rfl (te_33 (tf_7_2 h_x0) hb18) (by decide)) (by simp [Value.category]) rfl rfl (t_Pa_hasCome hS (by omega) σ (rfT (rfT x0 2) (ix x2)) (te_33 (tf_7_2 h_x0) hb18)) (fun v19 => ?_)
      refine rf_callI (as := [.int v19]) (kd := 0) c_81_22 rfl (by decide) rfl ml_7_237 (by decide) rfl (rcv_0 rfl) (by simp [Value.category]) rfl rfl (t_Ct_bit hS (by omega) σ v19) (fun v22 => ?_)
      refine rf_iadd c_81_25 ?_
      refine rf_ist (i := 1) (Or.inr ⟨1, rfl, rfl, rfl⟩) c_81_26 (Nat.le_of_ble_eq_true rfl) rfl ?_
      refine rf_iinc c_81_27 rfl ki_1 rfl ?_
      refine rf_goto c_81_30 rfl ?_
      exact ih x0 (x1 + v22) (x2 + (1 : Int32)) h_x0
def f_St_papersThatCame (σ : Mm) (x0 : Nat) : Option Int32 := f_St_papersThatCame_4 σ NN x0 (0 : Int32) (0 : Int32)
set_option maxRecDepth 100000 in
set_option maxHeartbeats 4000000 in
theorem t_St_papersThatCame_e {X : Xt} {S : Sh} (hS : ShOK S) {d : Nat} (hd : 1 ≤ d + 1) (σ : Mm) (x0 : Nat) (h_x0 : tgT x0 = 7) : Rf X S (emI σ) (f_St_papersThatCame σ x0) (d + 1) 81 0 [.ref x0, unset0, unset0] [] σ := by
  unfold f_St_papersThatCame
  refine rf_iconst c_81_0 ki_0 ?_
  refine rf_ist (i := 1) (Or.inr ⟨1, rfl, rfl, rfl⟩) c_81_1 (Nat.le_of_ble_eq_true rfl) rfl ?_
  refine rf_iconst c_81_2 ki_0 ?_
  refine rf_ist (i := 2) (Or.inr ⟨2, rfl, rfl, rfl⟩) c_81_3 (Nat.le_of_ble_eq_true rfl) rfl ?_
  exact t_St_papersThatCame_4 hS hd σ  NN x0 (0 : Int32) (0 : Int32) h_x0
theorem t_St_papersThatCame {X : Xt} {S : Sh} (hS : ShOK S) {d : Nat} (hd : 1 ≤ d) (σ : Mm) (x0 : Nat) (h_x0 : tgT x0 = 7) : Rf X S (emI σ) (f_St_papersThatCame σ x0) d 81 0 [.ref x0, unset0, unset0] [] σ := by
  obtain ⟨d1, rfl⟩ : ∃ d1, d = d1 + 1 := ⟨d - 1, by omega⟩
  exact t_St_papersThatCame_e hS hd σ x0 h_x0
theorem c_84_0 : cd 84 0 = some (.aload_n 0, 1) := by decide +kernel
theorem c_84_1 : cd 84 1 = some (.getfield 30, 3) := by decide +kernel
theorem c_84_4 : cd 84 4 = some (.bipush (6), 2) := by decide +kernel
theorem c_84_6 : cd 84 6 = some (.if_icmp .lt (6), 3) := by decide +kernel
theorem c_84_9 : cd 84 9 = some (.ldc 34, 2) := by decide +kernel
theorem c_84_11 : cd 84 11 = some (.ireturn, 1) := by decide +kernel
theorem c_84_12 : cd 84 12 = some (.aload_n 0, 1) := by decide +kernel
theorem c_84_13 : cd 84 13 = some (.getfield 9, 3) := by decide +kernel
theorem c_84_16 : cd 84 16 = some (.aload_n 0, 1) := by decide +kernel
theorem c_84_17 : cd 84 17 = some (.getfield 30, 3) := by decide +kernel
theorem c_84_20 : cd 84 20 = some (.iload_n 1, 1) := by decide +kernel
theorem c_84_21 : cd 84 21 = some (.iastore, 1) := by decide +kernel
theorem c_84_22 : cd 84 22 = some (.aload_n 0, 1) := by decide +kernel
theorem c_84_23 : cd 84 23 = some (.getfield 15, 3) := by decide +kernel
theorem c_84_26 : cd 84 26 = some (.aload_n 0, 1) := by decide +kernel
theorem c_84_27 : cd 84 27 = some (.getfield 30, 3) := by decide +kernel
theorem c_84_30 : cd 84 30 = some (.iload_n 2, 1) := by decide +kernel
theorem c_84_31 : cd 84 31 = some (.iastore, 1) := by decide +kernel
theorem c_84_32 : cd 84 32 = some (.aload_n 0, 1) := by decide +kernel
theorem c_84_33 : cd 84 33 = some (.getfield 18, 3) := by decide +kernel
theorem c_84_36 : cd 84 36 = some (.aload_n 0, 1) := by decide +kernel
theorem c_84_37 : cd 84 37 = some (.getfield 30, 3) := by decide +kernel
theorem c_84_40 : cd 84 40 = some (.iload_n 3, 1) := by decide +kernel
theorem c_84_41 : cd 84 41 = some (.iastore, 1) := by decide +kernel
theorem c_84_42 : cd 84 42 = some (.aload_n 0, 1) := by decide +kernel
theorem c_84_43 : cd 84 43 = some (.getfield 21, 3) := by decide +kernel
theorem c_84_46 : cd 84 46 = some (.aload_n 0, 1) := by decide +kernel
theorem c_84_47 : cd 84 47 = some (.getfield 30, 3) := by decide +kernel
theorem c_84_50 : cd 84 50 = some (.iconst (0), 1) := by decide +kernel
theorem c_84_51 : cd 84 51 = some (.iastore, 1) := by decide +kernel
theorem c_84_52 : cd 84 52 = some (.aload_n 0, 1) := by decide +kernel
theorem c_84_53 : cd 84 53 = some (.dup, 1) := by decide +kernel
theorem c_84_54 : cd 84 54 = some (.getfield 30, 3) := by decide +kernel
theorem c_84_57 : cd 84 57 = some (.iconst (1), 1) := by decide +kernel
theorem c_84_58 : cd 84 58 = some (.iadd, 1) := by decide +kernel
theorem c_84_59 : cd 84 59 = some (.putfield 30, 3) := by decide +kernel
theorem c_84_62 : cd 84 62 = some (.aload_n 0, 1) := by decide +kernel
theorem c_84_63 : cd 84 63 = some (.getfield 30, 3) := by decide +kernel
theorem c_84_66 : cd 84 66 = some (.iconst (1), 1) := by decide +kernel
theorem c_84_67 : cd 84 67 = some (.isub, 1) := by decide +kernel
theorem c_84_68 : cd 84 68 = some (.ireturn, 1) := by decide +kernel
def f_Tb_add (x0 : Nat) (x1 : Int32) (x2 : Int32) (x3 : Int32) (σ : Mm) : Option (Int32 × Mm) := (if (σ x0 4) < (6 : Int32) then (if inbB (σ x0 4) 6 = true then nmM (up2 σ (rfT x0 0) (ix (σ x0 4)) x1) fun σ21 => if inbB (σ21 x0 4) 6 = true then nmM (up2 σ21 (rfT x0 1) (ix (σ21 x0 4)) x2) fun σ31 => if inbB (σ31 x0 4) 6 = true then nmM (up2 σ31 (rfT x0 2) (ix (σ31 x0 4)) x3) fun σ41 => if inbB (σ41 x0 4) 6 = true then nmM (up2 σ41 (rfT x0 3) (ix (σ41 x0 4)) (0 : Int32)) fun σ51 => nmM (up2 σ51 x0 4 ((σ51 x0 4) + (1 : Int32))) fun σ59 => some (((σ59 x0 4) - (1 : Int32)), σ59) else none else none else none else none) else (some ((-1000000003 : Int32), σ)))
set_option maxRecDepth 100000 in
set_option maxHeartbeats 4000000 in
theorem t_Tb_add {X : Xt} {S : Sh} (hS : ShOK S) {d : Nat} (hd : 0 ≤ d) (x0 : Nat) (x1 : Int32) (x2 : Int32) (x3 : Int32) (σ : Mm) (h_x0 : tgT x0 = 8) : Rf X S emM (f_Tb_add x0 x1 x2 x3 σ) d 84 0 [.ref x0, .int x1, .int x2, .int x3] [] σ := by
  unfold f_Tb_add
  refine rf_ald (i := 0) (Or.inr ⟨0, rfl, rfl, rfl⟩) c_84_0 rfl ?_
  refine rf_geti hS c_84_1 rfl fl_8_30 rfl h_x0 ?_
  refine rf_bipush c_84_4 kb_6 ?_
  refine rf_ite (fun hc6 => ?_) (fun hc6 => ?_)
  · refine rf_b2t c_84_6 rfl (decide_eq_true hc6) ?_
    refine rf_ald (i := 0) (Or.inr ⟨0, rfl, rfl, rfl⟩) c_84_12 rfl ?_
    refine rf_getr hS c_84_13 rfl fl_8_9 rfl h_x0 ?_
    refine rf_ald (i := 0) (Or.inr ⟨0, rfl, rfl, rfl⟩) c_84_16 rfl ?_
    refine rf_geti hS c_84_17 rfl fl_8_30 rfl h_x0 ?_
    refine rf_ild (i := 1) (Or.inr ⟨1, rfl, rfl, rfl⟩) c_84_20 rfl ?_
    refine rf_ite (fun hb21 => ?_) (fun _ => rf_none)
    refine rf_iast hS c_84_21 (tf_8_0 h_x0) (lf_8_0 h_x0) hb21 ?_
    refine rf_nm (fun σ21 => ?_)
    refine rf_ald (i := 0) (Or.inr ⟨0, rfl, rfl, rfl⟩) c_84_22 rfl ?_
    refine rf_getr hS c_84_23 rfl fl_8_15 rfl h_x0 ?_
    refine rf_ald (i := 0) (Or.inr ⟨0, rfl, rfl, rfl⟩) c_84_26 rfl ?_
    refine rf_geti hS c_84_27 rfl fl_8_30 rfl h_x0 ?_
    refine rf_ild (i := 2) (Or.inr ⟨2, rfl, rfl, rfl⟩) c_84_30 rfl ?_
    refine rf_ite (fun hb31 => ?_) (fun _ => rf_none)
    refine rf_iast hS c_84_31 (tf_8_1 h_x0) (lf_8_1 h_x0) hb31 ?_
    refine rf_nm (fun σ31 => ?_)
    refine rf_ald (i := 0) (Or.inr ⟨0, rfl, rfl, rfl⟩) c_84_32 rfl ?_
    refine rf_getr hS c_84_33 rfl fl_8_18 rfl h_x0 ?_
    refine rf_ald (i := 0) (Or.inr ⟨0, rfl, rfl, rfl⟩) c_84_36 rfl ?_
    refine rf_geti hS c_84_37 rfl fl_8_30 rfl h_x0 ?_
    refine rf_ild (i := 3) (Or.inr ⟨3, rfl, rfl, rfl⟩) c_84_40 rfl ?_
    refine rf_ite (fun hb41 => ?_) (fun _ => rf_none)
    refine rf_iast hS c_84_41 (tf_8_2 h_x0) (lf_8_2 h_x0) hb41 ?_
    refine rf_nm (fun σ41 => ?_)
    refine rf_ald (i := 0) (Or.inr ⟨0, rfl, rfl, rfl⟩) c_84_42 rfl ?_
    refine rf_getr hS c_84_43 rfl fl_8_21 rfl h_x0 ?_
    refine rf_ald (i := 0) (Or.inr ⟨0, rfl, rfl, rfl⟩) c_84_46 rfl ?_
    refine rf_geti hS c_84_47 rfl fl_8_30 rfl h_x0 ?_
    refine rf_iconst c_84_50 ki_0 ?_
    refine rf_ite (fun hb51 => ?_) (fun _ => rf_none)
    refine rf_iast hS c_84_51 (tf_8_3 h_x0) (lf_8_3 h_x0) hb51 ?_
    refine rf_nm (fun σ51 => ?_)
    refine rf_ald (i := 0) (Or.inr ⟨0, rfl, rfl, rfl⟩) c_84_52 rfl ?_
    refine rf_dup c_84_53 rfl ?_
    refine rf_geti hS c_84_54 rfl fl_8_30 rfl h_x0 ?_
    refine rf_iconst c_84_57 ki_1 ?_
    refine rf_iadd c_84_58 ?_
    refine rf_puti hS c_84_59 rfl fl_8_30 rfl rfl rfl rfl h_x0 ?_
    refine rf_nm (fun σ59 => ?_)
    refine rf_ald (i := 0) (Or.inr ⟨0, rfl, rfl, rfl⟩) c_84_62 rfl ?_
    refine rf_geti hS c_84_63 rfl fl_8_30 rfl h_x0 ?_
    refine rf_iconst c_84_66 ki_1 ?_
    refine rf_isub c_84_67 ?_
    exact rf_ret c_84_68 rfl rfl rfl rfl
  · refine rf_b2f c_84_6 rfl (decide_eq_false hc6) ?_
    refine rf_ldc (Or.inl ⟨rfl, rfl⟩) c_84_9 rfl kl_8_34 ?_
    exact rf_ret c_84_11 rfl rfl rfl rfl
theorem c_85_0 : cd 85 0 = some (.aload_n 0, 1) := by decide +kernel
theorem c_85_1 : cd 85 1 = some (.getfield 9, 3) := by decide +kernel
theorem c_85_4 : cd 85 4 = some (.iload_n 1, 1) := by decide +kernel
theorem c_85_5 : cd 85 5 = some (.iaload, 1) := by decide +kernel
theorem c_85_6 : cd 85 6 = some (.istore_n 3, 1) := by decide +kernel
theorem c_85_7 : cd 85 7 = some (.aload_n 0, 1) := by decide +kernel
theorem c_85_8 : cd 85 8 = some (.getfield 9, 3) := by decide +kernel
theorem c_85_11 : cd 85 11 = some (.iload_n 1, 1) := by decide +kernel
theorem c_85_12 : cd 85 12 = some (.iload_n 2, 1) := by decide +kernel
theorem c_85_13 : cd 85 13 = some (.iastore, 1) := by decide +kernel
theorem c_85_14 : cd 85 14 = some (.iload_n 3, 1) := by decide +kernel
theorem c_85_15 : cd 85 15 = some (.ireturn, 1) := by decide +kernel
def f_Tb_changeSeats (x0 : Nat) (x1 : Int32) (x2 : Int32) (σ : Mm) : Option (Int32 × Mm) := if inbB x1 6 = true then if inbB x1 6 = true then nmM (up2 σ (rfT x0 0) (ix x1) x2) fun σ13 => some ((σ (rfT x0 0) (ix x1)), σ13) else none else none
set_option maxRecDepth 100000 in
set_option maxHeartbeats 4000000 in
theorem t_Tb_changeSeats {X : Xt} {S : Sh} (hS : ShOK S) {d : Nat} (hd : 0 ≤ d) (x0 : Nat) (x1 : Int32) (x2 : Int32) (σ : Mm) (h_x0 : tgT x0 = 8) : Rf X S emM (f_Tb_changeSeats x0 x1 x2 σ) d 85 0 [.ref x0, .int x1, .int x2, unset0] [] σ := by
  unfold f_Tb_changeSeats
  refine rf_ald (i := 0) (Or.inr ⟨0, rfl, rfl, rfl⟩) c_85_0 rfl ?_
  refine rf_getr hS c_85_1 rfl fl_8_9 rfl h_x0 ?_
  refine rf_ild (i := 1) (Or.inr ⟨1, rfl, rfl, rfl⟩) c_85_4 rfl ?_
  refine rf_ite (fun hb5 => ?_) (fun _ => rf_none)
  refine rf_iald hS c_85_5 (tf_8_0 h_x0) (lf_8_0 h_x0) hb5 ?_
  refine rf_ist (i := 3) (Or.inr ⟨3, rfl, rfl, rfl⟩) c_85_6 (Nat.le_of_ble_eq_true rfl) rfl ?_
  refine rf_ald (i := 0) (Or.inr ⟨0, rfl, rfl, rfl⟩) c_85_7 rfl ?_
  refine rf_getr hS c_85_8 rfl fl_8_9 rfl h_x0 ?_
  refine rf_ild (i := 1) (Or.inr ⟨1, rfl, rfl, rfl⟩) c_85_11 rfl ?_
  refine rf_ild (i := 2) (Or.inr ⟨2, rfl, rfl, rfl⟩) c_85_12 rfl ?_
  refine rf_ite (fun hb13 => ?_) (fun _ => rf_none)
  refine rf_iast hS c_85_13 (tf_8_0 h_x0) (lf_8_0 h_x0) hb13 ?_
  refine rf_nm (fun σ13 => ?_)
  refine rf_ild (i := 3) (Or.inr ⟨3, rfl, rfl, rfl⟩) c_85_14 rfl ?_
  exact rf_ret c_85_15 rfl rfl rfl rfl
theorem c_90_0 : cd 90 0 = some (.aload_n 0, 1) := by decide +kernel
theorem c_90_1 : cd 90 1 = some (.getfield 21, 3) := by decide +kernel
theorem c_90_4 : cd 90 4 = some (.iload_n 1, 1) := by decide +kernel
theorem c_90_5 : cd 90 5 = some (.iaload, 1) := by decide +kernel
theorem c_90_6 : cd 90 6 = some (.iload_n 2, 1) := by decide +kernel
theorem c_90_7 : cd 90 7 = some (.ishr, 1) := by decide +kernel
theorem c_90_8 : cd 90 8 = some (.iconst (1), 1) := by decide +kernel
theorem c_90_9 : cd 90 9 = some (.iand, 1) := by decide +kernel
theorem c_90_10 : cd 90 10 = some (.iconst (1), 1) := by decide +kernel
theorem c_90_11 : cd 90 11 = some (.if_icmp .ne (7), 3) := by decide +kernel
theorem c_90_14 : cd 90 14 = some (.iconst (1), 1) := by decide +kernel
theorem c_90_15 : cd 90 15 = some (.goto (4), 3) := by decide +kernel
theorem c_90_18 : cd 90 18 = some (.iconst (0), 1) := by decide +kernel
theorem c_90_19 : cd 90 19 = some (.ireturn, 1) := by decide +kernel
def f_Tb_mayPass_19 (σ : Mm) (y0 : Int32) : Option Int32 := if zB y0 = true then some y0 else none
set_option maxRecDepth 100000 in
set_option maxHeartbeats 4000000 in
theorem t_Tb_mayPass_19 {X : Xt} {S : Sh} (hS : ShOK S) {d : Nat} (hd : 0 ≤ d) (σ : Mm) (y0 : Int32) (u0 : Value) (u1 : Value) (u2 : Value) : Rf X S (emI σ) (f_Tb_mayPass_19 σ y0) d 90 19 [u0, u1, u2] [.int y0] σ := by
  unfold f_Tb_mayPass_19
  refine rf_ite (fun hq19 => ?_) (fun _ => rf_none)
  exact rf_ret c_90_19 rfl (zB_n hq19) rfl rfl
def f_Tb_mayPass (σ : Mm) (x0 : Nat) (x1 : Int32) (x2 : Int32) : Option Int32 := if inbB x1 6 = true then (if ¬ (((σ (rfT x0 3) (ix x1)) >>> (x2 &&& 31)) &&& (1 : Int32)) = (1 : Int32) then (f_Tb_mayPass_19 σ (0 : Int32)) else (f_Tb_mayPass_19 σ (1 : Int32))) else none
set_option maxRecDepth 100000 in
set_option maxHeartbeats 4000000 in
theorem t_Tb_mayPass {X : Xt} {S : Sh} (hS : ShOK S) {d : Nat} (hd : 0 ≤ d) (σ : Mm) (x0 : Nat) (x1 : Int32) (x2 : Int32) (h_x0 : tgT x0 = 8) : Rf X S (emI σ) (f_Tb_mayPass σ x0 x1 x2) d 90 0 [.ref x0, .int x1, .int x2] [] σ := by
  unfold f_Tb_mayPass
  refine rf_ald (i := 0) (Or.inr ⟨0, rfl, rfl, rfl⟩) c_90_0 rfl ?_
  refine rf_getr hS c_90_1 rfl fl_8_21 rfl h_x0 ?_
  refine rf_ild (i := 1) (Or.inr ⟨1, rfl, rfl, rfl⟩) c_90_4 rfl ?_
  refine rf_ite (fun hb5 => ?_) (fun _ => rf_none)
  refine rf_iald hS c_90_5 (tf_8_3 h_x0) (lf_8_3 h_x0) hb5 ?_
  refine rf_ild (i := 2) (Or.inr ⟨2, rfl, rfl, rfl⟩) c_90_6 rfl ?_
  refine rf_ishr c_90_7 ?_
  refine rf_iconst c_90_8 ki_1 ?_
  refine rf_iand c_90_9 ?_
  refine rf_iconst c_90_10 ki_1 ?_
  refine rf_ite (fun hc11 => ?_) (fun hc11 => ?_)
  · refine rf_b2t c_90_11 rfl (decide_eq_true hc11) ?_
    refine rf_iconst c_90_18 ki_0 ?_
    exact t_Tb_mayPass_19 hS hd σ  (0 : Int32) (.ref x0) (.int x1) (.int x2)
  · refine rf_b2f c_90_11 rfl (decide_eq_false hc11) ?_
    refine rf_iconst c_90_14 ki_1 ?_
    refine rf_goto c_90_15 rfl ?_
    exact t_Tb_mayPass_19 hS hd σ  (1 : Int32) (.ref x0) (.int x1) (.int x2)
