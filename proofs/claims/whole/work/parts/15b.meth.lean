/-! methods: Ho_change Pa_begin Pa_become Pa_isSent Pa_hasCome Pa_isUnderWay Pa_isOfKind Pa_arrive Pa_hear Ct_bit Pa_ofItself Pa_reach Pa_shuts Pa_binds Pa_weighs Pa_ofItsCourse Rg_begin Rg_become Rg_isMissing Rg_hasPlace Rg_hasPlaces Rg_put Ru_become Ru_clear Ru_addStep Ru_part Ru_isWrong Ru_isAtomSo Ru_isSo Ru_fits -/
theorem c_30_0 : cd 30 0 = some (.aload_n 0, 1) := by decide +kernel
theorem c_30_1 : cd 30 1 = some (.getfield 31, 3) := by decide +kernel
theorem c_30_4 : cd 30 4 = some (.bipush (40), 2) := by decide +kernel
theorem c_30_6 : cd 30 6 = some (.if_icmp .lt (6), 3) := by decide +kernel
theorem c_30_9 : cd 30 9 = some (.ldc 34, 2) := by decide +kernel
theorem c_30_11 : cd 30 11 = some (.ireturn, 1) := by decide +kernel
theorem c_30_12 : cd 30 12 = some (.aload_n 0, 1) := by decide +kernel
theorem c_30_13 : cd 30 13 = some (.iload_n 1, 1) := by decide +kernel
theorem c_30_14 : cd 30 14 = some (.iload_n 3, 1) := by decide +kernel
theorem c_30_15 : cd 30 15 = some (.invokevirtual 35, 3) := by decide +kernel
theorem c_30_18 : cd 30 18 = some (.istore 4, 2) := by decide +kernel
theorem c_30_20 : cd 30 20 = some (.aload_n 0, 1) := by decide +kernel
theorem c_30_21 : cd 30 21 = some (.getfield 9, 3) := by decide +kernel
theorem c_30_24 : cd 30 24 = some (.aload_n 0, 1) := by decide +kernel
theorem c_30_25 : cd 30 25 = some (.getfield 31, 3) := by decide +kernel
theorem c_30_28 : cd 30 28 = some (.iload_n 1, 1) := by decide +kernel
theorem c_30_29 : cd 30 29 = some (.iastore, 1) := by decide +kernel
theorem c_30_30 : cd 30 30 = some (.aload_n 0, 1) := by decide +kernel
theorem c_30_31 : cd 30 31 = some (.getfield 15, 3) := by decide +kernel
theorem c_30_34 : cd 30 34 = some (.aload_n 0, 1) := by decide +kernel
theorem c_30_35 : cd 30 35 = some (.getfield 31, 3) := by decide +kernel
theorem c_30_38 : cd 30 38 = some (.iload_n 2, 1) := by decide +kernel
theorem c_30_39 : cd 30 39 = some (.iastore, 1) := by decide +kernel
theorem c_30_40 : cd 30 40 = some (.aload_n 0, 1) := by decide +kernel
theorem c_30_41 : cd 30 41 = some (.getfield 18, 3) := by decide +kernel
theorem c_30_44 : cd 30 44 = some (.aload_n 0, 1) := by decide +kernel
theorem c_30_45 : cd 30 45 = some (.getfield 31, 3) := by decide +kernel
theorem c_30_48 : cd 30 48 = some (.iload_n 3, 1) := by decide +kernel
theorem c_30_49 : cd 30 49 = some (.iastore, 1) := by decide +kernel
theorem c_30_50 : cd 30 50 = some (.aload_n 0, 1) := by decide +kernel
theorem c_30_51 : cd 30 51 = some (.dup, 1) := by decide +kernel
theorem c_30_52 : cd 30 52 = some (.getfield 31, 3) := by decide +kernel
theorem c_30_55 : cd 30 55 = some (.iconst (1), 1) := by decide +kernel
theorem c_30_56 : cd 30 56 = some (.iadd, 1) := by decide +kernel
theorem c_30_57 : cd 30 57 = some (.putfield 31, 3) := by decide +kernel
theorem c_30_60 : cd 30 60 = some (.iload 4, 2) := by decide +kernel
theorem c_30_62 : cd 30 62 = some (.ireturn, 1) := by decide +kernel
def f_Ho_change (x0 : Nat) (x1 : Int32) (x2 : Int32) (x3 : Int32) (σ : Mm) : Option (Int32 × Mm) := (if (σ x0 4) < (40 : Int32) then ((f_Ho_holderOn σ x0 x1 x3).bind fun v15 => if inbB (σ x0 4) 40 = true then nmM (up2 σ (rfT x0 0) (ix (σ x0 4)) x1) fun σ29 => if inbB (σ29 x0 4) 40 = true then nmM (up2 σ29 (rfT x0 1) (ix (σ29 x0 4)) x2) fun σ39 => if inbB (σ39 x0 4) 40 = true then nmM (up2 σ39 (rfT x0 2) (ix (σ39 x0 4)) x3) fun σ49 => nmM (up2 σ49 x0 4 ((σ49 x0 4) + (1 : Int32))) fun σ57 => some (v15, σ57) else none else none else none) else (some ((-1000000003 : Int32), σ)))
set_option maxRecDepth 100000 in
set_option maxHeartbeats 4000000 in
theorem t_Ho_change_e {X : Xt} {S : Sh} (hS : ShOK S) {d : Nat} (hd : 1 ≤ d + 1) (x0 : Nat) (x1 : Int32) (x2 : Int32) (x3 : Int32) (σ : Mm) (h_x0 : tgT x0 = 2) : Rf X S emM (f_Ho_change x0 x1 x2 x3 σ) (d + 1) 30 0 [.ref x0, .int x1, .int x2, .int x3, unset0] [] σ := by
  unfold f_Ho_change
  refine rf_ald (i := 0) (Or.inr ⟨0, rfl, rfl, rfl⟩) c_30_0 rfl ?_
  refine rf_geti hS c_30_1 rfl fl_2_31 rfl h_x0 ?_
  refine rf_bipush c_30_4 kb_40 ?_
  refine rf_ite (fun hc6 => ?_) (fun hc6 => ?_)
  · refine rf_b2t c_30_6 rfl (decide_eq_true hc6) ?_
    refine rf_ald (i := 0) (Or.inr ⟨0, rfl, rfl, rfl⟩) c_30_12 rfl ?_
    refine rf_ild (i := 1) (Or.inr ⟨1, rfl, rfl, rfl⟩) c_30_13 rfl ?_
    refine rf_ild (i := 3) (Or.inr ⟨3, rfl, rfl, rfl⟩) c_30_14 rfl ?_
    refine rf_callI (as := [.ref x0, .int x1, .int x3]) (kd := 1) c_30_15 rfl (by decide) rfl ml_2_35 (by decide) rfl (rcv_1 hS rfl rfl h_x0 (by decide)) (Nat.zero_le _) rfl rfl (t_Ho_holderOn hS (by omega) σ x0 x1 x3 h_x0) (fun v15 => ?_)
    refine rf_ist (i := 4) (Or.inl ⟨rfl, rfl⟩) c_30_18 (Nat.le_of_ble_eq_true rfl) rfl ?_
    refine rf_ald (i := 0) (Or.inr ⟨0, rfl, rfl, rfl⟩) c_30_20 rfl ?_
    refine rf_getr hS c_30_21 rfl fl_2_9 rfl h_x0 ?_
    refine rf_ald (i := 0) (Or.inr ⟨0, rfl, rfl, rfl⟩) c_30_24 rfl ?_
    refine rf_geti hS c_30_25 rfl fl_2_31 rfl h_x0 ?_
    refine rf_ild (i := 1) (Or.inr ⟨1, rfl, rfl, rfl⟩) c_30_28 rfl ?_
    refine rf_ite (fun hb29 => ?_) (fun _ => rf_none)
    refine rf_iast hS c_30_29 (tf_2_0 h_x0) (lf_2_0 h_x0) hb29 ?_
    refine rf_nm (fun σ29 => ?_)
    refine rf_ald (i := 0) (Or.inr ⟨0, rfl, rfl, rfl⟩) c_30_30 rfl ?_
    refine rf_getr hS c_30_31 rfl fl_2_15 rfl h_x0 ?_
    refine rf_ald (i := 0) (Or.inr ⟨0, rfl, rfl, rfl⟩) c_30_34 rfl ?_
    refine rf_geti hS c_30_35 rfl fl_2_31 rfl h_x0 ?_
    refine rf_ild (i := 2) (Or.inr ⟨2, rfl, rfl, rfl⟩) c_30_38 rfl ?_
    refine rf_ite (fun hb39 => ?_) (fun _ => rf_none)
    refine rf_iast hS c_30_39 (tf_2_1 h_x0) (lf_2_1 h_x0) hb39 ?_
    refine rf_nm (fun σ39 => ?_)
    refine rf_ald (i := 0) (Or.inr ⟨0, rfl, rfl, rfl⟩) c_30_40 rfl ?_
    refine rf_getr hS c_30_41 rfl fl_2_18 rfl h_x0 ?_
    refine rf_ald (i := 0) (Or.inr ⟨0, rfl, rfl, rfl⟩) c_30_44 rfl ?_
    refine rf_geti hS c_30_45 rfl fl_2_31 rfl h_x0 ?_
    refine rf_ild (i := 3) (Or.inr ⟨3, rfl, rfl, rfl⟩) c_30_48 rfl ?_
    refine rf_ite (fun hb49 => ?_) (fun _ => rf_none)
    refine rf_iast hS c_30_49 (tf_2_2 h_x0) (lf_2_2 h_x0) hb49 ?_
    refine rf_nm (fun σ49 => ?_)
    refine rf_ald (i := 0) (Or.inr ⟨0, rfl, rfl, rfl⟩) c_30_50 rfl ?_
    refine rf_dup c_30_51 rfl ?_
    refine rf_geti hS c_30_52 rfl fl_2_31 rfl h_x0 ?_
    refine rf_iconst c_30_55 ki_1 ?_
    refine rf_iadd c_30_56 ?_
    refine rf_puti hS c_30_57 rfl fl_2_31 rfl rfl rfl rfl h_x0 ?_
    refine rf_nm (fun σ57 => ?_)
    refine rf_ild (i := 4) (Or.inl ⟨rfl, rfl⟩) c_30_60 rfl ?_
    exact rf_ret c_30_62 rfl rfl rfl rfl
  · refine rf_b2f c_30_6 rfl (decide_eq_false hc6) ?_
    refine rf_ldc (Or.inl ⟨rfl, rfl⟩) c_30_9 rfl kl_2_34 ?_
    exact rf_ret c_30_11 rfl rfl rfl rfl
theorem t_Ho_change {X : Xt} {S : Sh} (hS : ShOK S) {d : Nat} (hd : 1 ≤ d) (x0 : Nat) (x1 : Int32) (x2 : Int32) (x3 : Int32) (σ : Mm) (h_x0 : tgT x0 = 2) : Rf X S emM (f_Ho_change x0 x1 x2 x3 σ) d 30 0 [.ref x0, .int x1, .int x2, .int x3, unset0] [] σ := by
  obtain ⟨d1, rfl⟩ : ∃ d1, d = d1 + 1 := ⟨d - 1, by omega⟩
  exact t_Ho_change_e hS hd x0 x1 x2 x3 σ h_x0
theorem c_33_0 : cd 33 0 = some (.aload_n 0, 1) := by decide +kernel
theorem c_33_1 : cd 33 1 = some (.iload_n 1, 1) := by decide +kernel
theorem c_33_2 : cd 33 2 = some (.putfield 25, 3) := by decide +kernel
theorem c_33_5 : cd 33 5 = some (.aload_n 0, 1) := by decide +kernel
theorem c_33_6 : cd 33 6 = some (.iload_n 2, 1) := by decide +kernel
theorem c_33_7 : cd 33 7 = some (.putfield 28, 3) := by decide +kernel
theorem c_33_10 : cd 33 10 = some (.aload_n 0, 1) := by decide +kernel
theorem c_33_11 : cd 33 11 = some (.iload_n 3, 1) := by decide +kernel
theorem c_33_12 : cd 33 12 = some (.putfield 31, 3) := by decide +kernel
theorem c_33_15 : cd 33 15 = some (.aload_n 0, 1) := by decide +kernel
theorem c_33_16 : cd 33 16 = some (.iload 4, 2) := by decide +kernel
theorem c_33_18 : cd 33 18 = some (.putfield 34, 3) := by decide +kernel
theorem c_33_21 : cd 33 21 = some (.aload_n 0, 1) := by decide +kernel
theorem c_33_22 : cd 33 22 = some (.iload 5, 2) := by decide +kernel
theorem c_33_24 : cd 33 24 = some (.putfield 37, 3) := by decide +kernel
theorem c_33_27 : cd 33 27 = some (.aload_n 0, 1) := by decide +kernel
theorem c_33_28 : cd 33 28 = some (.ldc 9, 2) := by decide +kernel
theorem c_33_30 : cd 33 30 = some (.putfield 10, 3) := by decide +kernel
theorem c_33_33 : cd 33 33 = some (.aload_n 0, 1) := by decide +kernel
theorem c_33_34 : cd 33 34 = some (.iconst (0), 1) := by decide +kernel
theorem c_33_35 : cd 33 35 = some (.putfield 40, 3) := by decide +kernel
theorem c_33_38 : cd 33 38 = some (.aload_n 0, 1) := by decide +kernel
theorem c_33_39 : cd 33 39 = some (.iconst (0), 1) := by decide +kernel
theorem c_33_40 : cd 33 40 = some (.putfield 44, 3) := by decide +kernel
theorem c_33_43 : cd 33 43 = some (.aload_n 0, 1) := by decide +kernel
theorem c_33_44 : cd 33 44 = some (.iconst (0), 1) := by decide +kernel
theorem c_33_45 : cd 33 45 = some (.putfield 47, 3) := by decide +kernel
theorem c_33_48 : cd 33 48 = some (.aload_n 0, 1) := by decide +kernel
theorem c_33_49 : cd 33 49 = some (.ldc 9, 2) := by decide +kernel
theorem c_33_51 : cd 33 51 = some (.putfield 16, 3) := by decide +kernel
theorem c_33_54 : cd 33 54 = some (.aload_n 0, 1) := by decide +kernel
theorem c_33_55 : cd 33 55 = some (.ldc 9, 2) := by decide +kernel
theorem c_33_57 : cd 33 57 = some (.putfield 19, 3) := by decide +kernel
theorem c_33_60 : cd 33 60 = some (.aload_n 0, 1) := by decide +kernel
theorem c_33_61 : cd 33 61 = some (.ldc 9, 2) := by decide +kernel
theorem c_33_63 : cd 33 63 = some (.putfield 22, 3) := by decide +kernel
theorem c_33_66 : cd 33 66 = some (.aload_n 0, 1) := by decide +kernel
theorem c_33_67 : cd 33 67 = some (.iconst (0), 1) := by decide +kernel
theorem c_33_68 : cd 33 68 = some (.putfield 50, 3) := by decide +kernel
theorem c_33_71 : cd 33 71 = some (.aload_n 0, 1) := by decide +kernel
theorem c_33_72 : cd 33 72 = some (.iconst (0), 1) := by decide +kernel
theorem c_33_73 : cd 33 73 = some (.putfield 53, 3) := by decide +kernel
theorem c_33_76 : cd 33 76 = some (.return_, 1) := by decide +kernel
def f_Pa_begin (x0 : Nat) (x1 : Int32) (x2 : Int32) (x3 : Int32) (x4 : Int32) (x5 : Int32) (σ : Mm) : Option Mm := nmM (up2 σ x0 0 x1) fun σ2 => nmM (up2 σ2 x0 1 x2) fun σ7 => nmM (up2 σ7 x0 2 x3) fun σ12 => nmM (up2 σ12 x0 3 x4) fun σ18 => nmM (up2 σ18 x0 4 x5) fun σ24 => nmM (up2 σ24 x0 5 (-1000000005 : Int32)) fun σ30 => nmM (up2 σ30 x0 6 (0 : Int32)) fun σ35 => nmM (up2 σ35 x0 7 (0 : Int32)) fun σ40 => nmM (up2 σ40 x0 8 (0 : Int32)) fun σ45 => nmM (up2 σ45 x0 9 (-1000000005 : Int32)) fun σ51 => nmM (up2 σ51 x0 10 (-1000000005 : Int32)) fun σ57 => nmM (up2 σ57 x0 11 (-1000000005 : Int32)) fun σ63 => nmM (up2 σ63 x0 12 (0 : Int32)) fun σ68 => nmM (up2 σ68 x0 13 (0 : Int32)) fun σ73 => some σ73
set_option maxRecDepth 100000 in
set_option maxHeartbeats 4000000 in
theorem t_Pa_begin {X : Xt} {S : Sh} (hS : ShOK S) {d : Nat} (hd : 0 ≤ d) (x0 : Nat) (x1 : Int32) (x2 : Int32) (x3 : Int32) (x4 : Int32) (x5 : Int32) (σ : Mm) (h_x0 : tgT x0 = 3) : Rf X S emV (f_Pa_begin x0 x1 x2 x3 x4 x5 σ) d 33 0 [.ref x0, .int x1, .int x2, .int x3, .int x4, .int x5] [] σ := by
  unfold f_Pa_begin
  refine rf_ald (i := 0) (Or.inr ⟨0, rfl, rfl, rfl⟩) c_33_0 rfl ?_
  refine rf_ild (i := 1) (Or.inr ⟨1, rfl, rfl, rfl⟩) c_33_1 rfl ?_
  refine rf_puti hS c_33_2 rfl fl_3_25 rfl rfl rfl rfl h_x0 ?_
  refine rf_nm (fun σ2 => ?_)
  refine rf_ald (i := 0) (Or.inr ⟨0, rfl, rfl, rfl⟩) c_33_5 rfl ?_
  refine rf_ild (i := 2) (Or.inr ⟨2, rfl, rfl, rfl⟩) c_33_6 rfl ?_
  refine rf_puti hS c_33_7 rfl fl_3_28 rfl rfl rfl rfl h_x0 ?_
  refine rf_nm (fun σ7 => ?_)
  refine rf_ald (i := 0) (Or.inr ⟨0, rfl, rfl, rfl⟩) c_33_10 rfl ?_
  refine rf_ild (i := 3) (Or.inr ⟨3, rfl, rfl, rfl⟩) c_33_11 rfl ?_
  refine rf_puti hS c_33_12 rfl fl_3_31 rfl rfl rfl rfl h_x0 ?_
  refine rf_nm (fun σ12 => ?_)
  refine rf_ald (i := 0) (Or.inr ⟨0, rfl, rfl, rfl⟩) c_33_15 rfl ?_
  refine rf_ild (i := 4) (Or.inl ⟨rfl, rfl⟩) c_33_16 rfl ?_
  refine rf_puti hS c_33_18 rfl fl_3_34 rfl rfl rfl rfl h_x0 ?_
  refine rf_nm (fun σ18 => ?_)
  refine rf_ald (i := 0) (Or.inr ⟨0, rfl, rfl, rfl⟩) c_33_21 rfl ?_
  refine rf_ild (i := 5) (Or.inl ⟨rfl, rfl⟩) c_33_22 rfl ?_
  refine rf_puti hS c_33_24 rfl fl_3_37 rfl rfl rfl rfl h_x0 ?_
  refine rf_nm (fun σ24 => ?_)
  refine rf_ald (i := 0) (Or.inr ⟨0, rfl, rfl, rfl⟩) c_33_27 rfl ?_
  refine rf_ldc (Or.inl ⟨rfl, rfl⟩) c_33_28 rfl kl_3_9 ?_
  refine rf_puti hS c_33_30 rfl fl_3_10 rfl rfl rfl rfl h_x0 ?_
  refine rf_nm (fun σ30 => ?_)
  refine rf_ald (i := 0) (Or.inr ⟨0, rfl, rfl, rfl⟩) c_33_33 rfl ?_
  refine rf_iconst c_33_34 ki_0 ?_
  refine rf_puti hS c_33_35 rfl fl_3_40 rfl rfl (by decide) (by decide) h_x0 ?_
  refine rf_nm (fun σ35 => ?_)
  refine rf_ald (i := 0) (Or.inr ⟨0, rfl, rfl, rfl⟩) c_33_38 rfl ?_
  refine rf_iconst c_33_39 ki_0 ?_
  refine rf_puti hS c_33_40 rfl fl_3_44 rfl rfl rfl rfl h_x0 ?_
  refine rf_nm (fun σ40 => ?_)
  refine rf_ald (i := 0) (Or.inr ⟨0, rfl, rfl, rfl⟩) c_33_43 rfl ?_
  refine rf_iconst c_33_44 ki_0 ?_
  refine rf_puti hS c_33_45 rfl fl_3_47 rfl rfl rfl rfl h_x0 ?_
  refine rf_nm (fun σ45 => ?_)
  refine rf_ald (i := 0) (Or.inr ⟨0, rfl, rfl, rfl⟩) c_33_48 rfl ?_
  refine rf_ldc (Or.inl ⟨rfl, rfl⟩) c_33_49 rfl kl_3_9 ?_
  refine rf_puti hS c_33_51 rfl fl_3_16 rfl rfl rfl rfl h_x0 ?_
  refine rf_nm (fun σ51 => ?_)
  refine rf_ald (i := 0) (Or.inr ⟨0, rfl, rfl, rfl⟩) c_33_54 rfl ?_
  refine rf_ldc (Or.inl ⟨rfl, rfl⟩) c_33_55 rfl kl_3_9 ?_
  refine rf_puti hS c_33_57 rfl fl_3_19 rfl rfl rfl rfl h_x0 ?_
  refine rf_nm (fun σ57 => ?_)
  refine rf_ald (i := 0) (Or.inr ⟨0, rfl, rfl, rfl⟩) c_33_60 rfl ?_
  refine rf_ldc (Or.inl ⟨rfl, rfl⟩) c_33_61 rfl kl_3_9 ?_
  refine rf_puti hS c_33_63 rfl fl_3_22 rfl rfl rfl rfl h_x0 ?_
  refine rf_nm (fun σ63 => ?_)
  refine rf_ald (i := 0) (Or.inr ⟨0, rfl, rfl, rfl⟩) c_33_66 rfl ?_
  refine rf_iconst c_33_67 ki_0 ?_
  refine rf_puti hS c_33_68 rfl fl_3_50 rfl rfl (by decide) (by decide) h_x0 ?_
  refine rf_nm (fun σ68 => ?_)
  refine rf_ald (i := 0) (Or.inr ⟨0, rfl, rfl, rfl⟩) c_33_71 rfl ?_
  refine rf_iconst c_33_72 ki_0 ?_
  refine rf_puti hS c_33_73 rfl fl_3_53 rfl rfl rfl rfl h_x0 ?_
  refine rf_nm (fun σ73 => ?_)
  exact rf_vret c_33_76 rfl rfl
theorem c_34_0 : cd 34 0 = some (.aload_n 0, 1) := by decide +kernel
theorem c_34_1 : cd 34 1 = some (.aload_n 1, 1) := by decide +kernel
theorem c_34_2 : cd 34 2 = some (.getfield 25, 3) := by decide +kernel
theorem c_34_5 : cd 34 5 = some (.putfield 25, 3) := by decide +kernel
theorem c_34_8 : cd 34 8 = some (.aload_n 0, 1) := by decide +kernel
theorem c_34_9 : cd 34 9 = some (.aload_n 1, 1) := by decide +kernel
theorem c_34_10 : cd 34 10 = some (.getfield 28, 3) := by decide +kernel
theorem c_34_13 : cd 34 13 = some (.putfield 28, 3) := by decide +kernel
theorem c_34_16 : cd 34 16 = some (.aload_n 0, 1) := by decide +kernel
theorem c_34_17 : cd 34 17 = some (.aload_n 1, 1) := by decide +kernel
theorem c_34_18 : cd 34 18 = some (.getfield 31, 3) := by decide +kernel
theorem c_34_21 : cd 34 21 = some (.putfield 31, 3) := by decide +kernel
theorem c_34_24 : cd 34 24 = some (.aload_n 0, 1) := by decide +kernel
theorem c_34_25 : cd 34 25 = some (.aload_n 1, 1) := by decide +kernel
theorem c_34_26 : cd 34 26 = some (.getfield 34, 3) := by decide +kernel
theorem c_34_29 : cd 34 29 = some (.putfield 34, 3) := by decide +kernel
theorem c_34_32 : cd 34 32 = some (.aload_n 0, 1) := by decide +kernel
theorem c_34_33 : cd 34 33 = some (.aload_n 1, 1) := by decide +kernel
theorem c_34_34 : cd 34 34 = some (.getfield 37, 3) := by decide +kernel
theorem c_34_37 : cd 34 37 = some (.putfield 37, 3) := by decide +kernel
theorem c_34_40 : cd 34 40 = some (.aload_n 0, 1) := by decide +kernel
theorem c_34_41 : cd 34 41 = some (.aload_n 1, 1) := by decide +kernel
theorem c_34_42 : cd 34 42 = some (.getfield 10, 3) := by decide +kernel
theorem c_34_45 : cd 34 45 = some (.putfield 10, 3) := by decide +kernel
theorem c_34_48 : cd 34 48 = some (.aload_n 0, 1) := by decide +kernel
theorem c_34_49 : cd 34 49 = some (.aload_n 1, 1) := by decide +kernel
theorem c_34_50 : cd 34 50 = some (.getfield 40, 3) := by decide +kernel
theorem c_34_53 : cd 34 53 = some (.putfield 40, 3) := by decide +kernel
theorem c_34_56 : cd 34 56 = some (.aload_n 0, 1) := by decide +kernel
theorem c_34_57 : cd 34 57 = some (.aload_n 1, 1) := by decide +kernel
theorem c_34_58 : cd 34 58 = some (.getfield 44, 3) := by decide +kernel
theorem c_34_61 : cd 34 61 = some (.putfield 44, 3) := by decide +kernel
theorem c_34_64 : cd 34 64 = some (.aload_n 0, 1) := by decide +kernel
theorem c_34_65 : cd 34 65 = some (.aload_n 1, 1) := by decide +kernel
theorem c_34_66 : cd 34 66 = some (.getfield 47, 3) := by decide +kernel
theorem c_34_69 : cd 34 69 = some (.putfield 47, 3) := by decide +kernel
theorem c_34_72 : cd 34 72 = some (.aload_n 0, 1) := by decide +kernel
theorem c_34_73 : cd 34 73 = some (.aload_n 1, 1) := by decide +kernel
theorem c_34_74 : cd 34 74 = some (.getfield 16, 3) := by decide +kernel
theorem c_34_77 : cd 34 77 = some (.putfield 16, 3) := by decide +kernel
theorem c_34_80 : cd 34 80 = some (.aload_n 0, 1) := by decide +kernel
theorem c_34_81 : cd 34 81 = some (.aload_n 1, 1) := by decide +kernel
theorem c_34_82 : cd 34 82 = some (.getfield 19, 3) := by decide +kernel
theorem c_34_85 : cd 34 85 = some (.putfield 19, 3) := by decide +kernel
theorem c_34_88 : cd 34 88 = some (.aload_n 0, 1) := by decide +kernel
theorem c_34_89 : cd 34 89 = some (.aload_n 1, 1) := by decide +kernel
theorem c_34_90 : cd 34 90 = some (.getfield 22, 3) := by decide +kernel
theorem c_34_93 : cd 34 93 = some (.putfield 22, 3) := by decide +kernel
theorem c_34_96 : cd 34 96 = some (.aload_n 0, 1) := by decide +kernel
theorem c_34_97 : cd 34 97 = some (.aload_n 1, 1) := by decide +kernel
theorem c_34_98 : cd 34 98 = some (.getfield 50, 3) := by decide +kernel
theorem c_34_101 : cd 34 101 = some (.putfield 50, 3) := by decide +kernel
theorem c_34_104 : cd 34 104 = some (.aload_n 0, 1) := by decide +kernel
theorem c_34_105 : cd 34 105 = some (.aload_n 1, 1) := by decide +kernel
theorem c_34_106 : cd 34 106 = some (.getfield 53, 3) := by decide +kernel
theorem c_34_109 : cd 34 109 = some (.putfield 53, 3) := by decide +kernel
theorem c_34_112 : cd 34 112 = some (.return_, 1) := by decide +kernel
def f_Pa_become (x0 : Nat) (x1 : Nat) (σ : Mm) : Option Mm := nmM (up2 σ x0 0 (σ x1 0)) fun σ5 => nmM (up2 σ5 x0 1 (σ5 x1 1)) fun σ13 => nmM (up2 σ13 x0 2 (σ13 x1 2)) fun σ21 => nmM (up2 σ21 x0 3 (σ21 x1 3)) fun σ29 => nmM (up2 σ29 x0 4 (σ29 x1 4)) fun σ37 => nmM (up2 σ37 x0 5 (σ37 x1 5)) fun σ45 => if zB (σ45 x1 6) = true then nmM (up2 σ45 x0 6 (σ45 x1 6)) fun σ53 => nmM (up2 σ53 x0 7 (σ53 x1 7)) fun σ61 => nmM (up2 σ61 x0 8 (σ61 x1 8)) fun σ69 => nmM (up2 σ69 x0 9 (σ69 x1 9)) fun σ77 => nmM (up2 σ77 x0 10 (σ77 x1 10)) fun σ85 => nmM (up2 σ85 x0 11 (σ85 x1 11)) fun σ93 => if zB (σ93 x1 12) = true then nmM (up2 σ93 x0 12 (σ93 x1 12)) fun σ101 => nmM (up2 σ101 x0 13 (σ101 x1 13)) fun σ109 => some σ109 else none else none
set_option maxRecDepth 100000 in
set_option maxHeartbeats 4000000 in
theorem t_Pa_become {X : Xt} {S : Sh} (hS : ShOK S) {d : Nat} (hd : 0 ≤ d) (x0 : Nat) (x1 : Nat) (σ : Mm) (h_x0 : tgT x0 = 3) (h_x1 : tgT x1 = 3) : Rf X S emV (f_Pa_become x0 x1 σ) d 34 0 [.ref x0, .ref x1] [] σ := by
  unfold f_Pa_become
  refine rf_ald (i := 0) (Or.inr ⟨0, rfl, rfl, rfl⟩) c_34_0 rfl ?_
  refine rf_ald (i := 1) (Or.inr ⟨1, rfl, rfl, rfl⟩) c_34_1 rfl ?_
  refine rf_geti hS c_34_2 rfl fl_3_25 rfl h_x1 ?_
  refine rf_puti hS c_34_5 rfl fl_3_25 rfl rfl rfl rfl h_x0 ?_
  refine rf_nm (fun σ5 => ?_)
  refine rf_ald (i := 0) (Or.inr ⟨0, rfl, rfl, rfl⟩) c_34_8 rfl ?_
  refine rf_ald (i := 1) (Or.inr ⟨1, rfl, rfl, rfl⟩) c_34_9 rfl ?_
  refine rf_geti hS c_34_10 rfl fl_3_28 rfl h_x1 ?_
  refine rf_puti hS c_34_13 rfl fl_3_28 rfl rfl rfl rfl h_x0 ?_
  refine rf_nm (fun σ13 => ?_)
  refine rf_ald (i := 0) (Or.inr ⟨0, rfl, rfl, rfl⟩) c_34_16 rfl ?_
  refine rf_ald (i := 1) (Or.inr ⟨1, rfl, rfl, rfl⟩) c_34_17 rfl ?_
  refine rf_geti hS c_34_18 rfl fl_3_31 rfl h_x1 ?_
  refine rf_puti hS c_34_21 rfl fl_3_31 rfl rfl rfl rfl h_x0 ?_
  refine rf_nm (fun σ21 => ?_)
  refine rf_ald (i := 0) (Or.inr ⟨0, rfl, rfl, rfl⟩) c_34_24 rfl ?_
  refine rf_ald (i := 1) (Or.inr ⟨1, rfl, rfl, rfl⟩) c_34_25 rfl ?_
  refine rf_geti hS c_34_26 rfl fl_3_34 rfl h_x1 ?_
  refine rf_puti hS c_34_29 rfl fl_3_34 rfl rfl rfl rfl h_x0 ?_
  refine rf_nm (fun σ29 => ?_)
  refine rf_ald (i := 0) (Or.inr ⟨0, rfl, rfl, rfl⟩) c_34_32 rfl ?_
  refine rf_ald (i := 1) (Or.inr ⟨1, rfl, rfl, rfl⟩) c_34_33 rfl ?_
  refine rf_geti hS c_34_34 rfl fl_3_37 rfl h_x1 ?_
  refine rf_puti hS c_34_37 rfl fl_3_37 rfl rfl rfl rfl h_x0 ?_
  refine rf_nm (fun σ37 => ?_)
  refine rf_ald (i := 0) (Or.inr ⟨0, rfl, rfl, rfl⟩) c_34_40 rfl ?_
  refine rf_ald (i := 1) (Or.inr ⟨1, rfl, rfl, rfl⟩) c_34_41 rfl ?_
  refine rf_geti hS c_34_42 rfl fl_3_10 rfl h_x1 ?_
  refine rf_puti hS c_34_45 rfl fl_3_10 rfl rfl rfl rfl h_x0 ?_
  refine rf_nm (fun σ45 => ?_)
  refine rf_ald (i := 0) (Or.inr ⟨0, rfl, rfl, rfl⟩) c_34_48 rfl ?_
  refine rf_ald (i := 1) (Or.inr ⟨1, rfl, rfl, rfl⟩) c_34_49 rfl ?_
  refine rf_geti hS c_34_50 rfl fl_3_40 rfl h_x1 ?_
  refine rf_ite (fun hq53 => ?_) (fun _ => rf_none)
  refine rf_puti hS c_34_53 rfl fl_3_40 rfl rfl (zB_n hq53) (zB_f hq53) h_x0 ?_
  refine rf_nm (fun σ53 => ?_)
  refine rf_ald (i := 0) (Or.inr ⟨0, rfl, rfl, rfl⟩) c_34_56 rfl ?_
  refine rf_ald (i := 1) (Or.inr ⟨1, rfl, rfl, rfl⟩) c_34_57 rfl ?_
  refine rf_geti hS c_34_58 rfl fl_3_44 rfl h_x1 ?_
  refine rf_puti hS c_34_61 rfl fl_3_44 rfl rfl rfl rfl h_x0 ?_
  refine rf_nm (fun σ61 => ?_)
  refine rf_ald (i := 0) (Or.inr ⟨0, rfl, rfl, rfl⟩) c_34_64 rfl ?_
  refine rf_ald (i := 1) (Or.inr ⟨1, rfl, rfl, rfl⟩) c_34_65 rfl ?_
  refine rf_geti hS c_34_66 rfl fl_3_47 rfl h_x1 ?_
  refine rf_puti hS c_34_69 rfl fl_3_47 rfl rfl rfl rfl h_x0 ?_
  refine rf_nm (fun σ69 => ?_)
  refine rf_ald (i := 0) (Or.inr ⟨0, rfl, rfl, rfl⟩) c_34_72 rfl ?_
  refine rf_ald (i := 1) (Or.inr ⟨1, rfl, rfl, rfl⟩) c_34_73 rfl ?_
  refine rf_geti hS c_34_74 rfl fl_3_16 rfl h_x1 ?_
  refine rf_puti hS c_34_77 rfl fl_3_16 rfl rfl rfl rfl h_x0 ?_
  refine rf_nm (fun σ77 => ?_)
  refine rf_ald (i := 0) (Or.inr ⟨0, rfl, rfl, rfl⟩) c_34_80 rfl ?_
  refine rf_ald (i := 1) (Or.inr ⟨1, rfl, rfl, rfl⟩) c_34_81 rfl ?_
  refine rf_geti hS c_34_82 rfl fl_3_19 rfl h_x1 ?_
  refine rf_puti hS c_34_85 rfl fl_3_19 rfl rfl rfl rfl h_x0 ?_
  refine rf_nm (fun σ85 => ?_)
  refine rf_ald (i := 0) (Or.inr ⟨0, rfl, rfl, rfl⟩) c_34_88 rfl ?_
  refine rf_ald (i := 1) (Or.inr ⟨1, rfl, rfl, rfl⟩) c_34_89 rfl ?_
  refine rf_geti hS c_34_90 rfl fl_3_22 rfl h_x1 ?_
  refine rf_puti hS c_34_93 rfl fl_3_22 rfl rfl rfl rfl h_x0 ?_
  refine rf_nm (fun σ93 => ?_)
  refine rf_ald (i := 0) (Or.inr ⟨0, rfl, rfl, rfl⟩) c_34_96 rfl ?_
  refine rf_ald (i := 1) (Or.inr ⟨1, rfl, rfl, rfl⟩) c_34_97 rfl ?_
  refine rf_geti hS c_34_98 rfl fl_3_50 rfl h_x1 ?_
  refine rf_ite (fun hq101 => ?_) (fun _ => rf_none)
  refine rf_puti hS c_34_101 rfl fl_3_50 rfl rfl (zB_n hq101) (zB_f hq101) h_x0 ?_
  refine rf_nm (fun σ101 => ?_)
  refine rf_ald (i := 0) (Or.inr ⟨0, rfl, rfl, rfl⟩) c_34_104 rfl ?_
  refine rf_ald (i := 1) (Or.inr ⟨1, rfl, rfl, rfl⟩) c_34_105 rfl ?_
  refine rf_geti hS c_34_106 rfl fl_3_53 rfl h_x1 ?_
  refine rf_puti hS c_34_109 rfl fl_3_53 rfl rfl rfl rfl h_x0 ?_
  refine rf_nm (fun σ109 => ?_)
  exact rf_vret c_34_112 rfl rfl
theorem c_35_0 : cd 35 0 = some (.aload_n 0, 1) := by decide +kernel
theorem c_35_1 : cd 35 1 = some (.getfield 10, 3) := by decide +kernel
theorem c_35_4 : cd 35 4 = some (.ldc 9, 2) := by decide +kernel
theorem c_35_6 : cd 35 6 = some (.if_icmp .eq (7), 3) := by decide +kernel
theorem c_35_9 : cd 35 9 = some (.iconst (1), 1) := by decide +kernel
theorem c_35_10 : cd 35 10 = some (.goto (4), 3) := by decide +kernel
theorem c_35_13 : cd 35 13 = some (.iconst (0), 1) := by decide +kernel
theorem c_35_14 : cd 35 14 = some (.ireturn, 1) := by decide +kernel
def f_Pa_isSent_14 (σ : Mm) (y0 : Int32) : Option Int32 := if zB y0 = true then some y0 else none
set_option maxRecDepth 100000 in
set_option maxHeartbeats 4000000 in
theorem t_Pa_isSent_14 {X : Xt} {S : Sh} (hS : ShOK S) {d : Nat} (hd : 0 ≤ d) (σ : Mm) (y0 : Int32) (u0 : Value) : Rf X S (emI σ) (f_Pa_isSent_14 σ y0) d 35 14 [u0] [.int y0] σ := by
  unfold f_Pa_isSent_14
  refine rf_ite (fun hq14 => ?_) (fun _ => rf_none)
  exact rf_ret c_35_14 rfl (zB_n hq14) rfl rfl
def f_Pa_isSent (σ : Mm) (x0 : Nat) : Option Int32 := (if (σ x0 5) = (-1000000005 : Int32) then (f_Pa_isSent_14 σ (0 : Int32)) else (f_Pa_isSent_14 σ (1 : Int32)))
set_option maxRecDepth 100000 in
set_option maxHeartbeats 4000000 in
theorem t_Pa_isSent {X : Xt} {S : Sh} (hS : ShOK S) {d : Nat} (hd : 0 ≤ d) (σ : Mm) (x0 : Nat) (h_x0 : tgT x0 = 3) : Rf X S (emI σ) (f_Pa_isSent σ x0) d 35 0 [.ref x0] [] σ := by
  unfold f_Pa_isSent
  refine rf_ald (i := 0) (Or.inr ⟨0, rfl, rfl, rfl⟩) c_35_0 rfl ?_
  refine rf_geti hS c_35_1 rfl fl_3_10 rfl h_x0 ?_
  refine rf_ldc (Or.inl ⟨rfl, rfl⟩) c_35_4 rfl kl_3_9 ?_
  refine rf_ite (fun hc6 => ?_) (fun hc6 => ?_)
  · refine rf_b2t c_35_6 rfl (decide_eq_true hc6) ?_
    refine rf_iconst c_35_13 ki_0 ?_
    exact t_Pa_isSent_14 hS hd σ  (0 : Int32) (.ref x0)
  · refine rf_b2f c_35_6 rfl (decide_eq_false hc6) ?_
    refine rf_iconst c_35_9 ki_1 ?_
    refine rf_goto c_35_10 rfl ?_
    exact t_Pa_isSent_14 hS hd σ  (1 : Int32) (.ref x0)
theorem c_36_0 : cd 36 0 = some (.aload_n 0, 1) := by decide +kernel
theorem c_36_1 : cd 36 1 = some (.getfield 16, 3) := by decide +kernel
theorem c_36_4 : cd 36 4 = some (.ldc 9, 2) := by decide +kernel
theorem c_36_6 : cd 36 6 = some (.if_icmp .eq (7), 3) := by decide +kernel
theorem c_36_9 : cd 36 9 = some (.iconst (1), 1) := by decide +kernel
theorem c_36_10 : cd 36 10 = some (.goto (4), 3) := by decide +kernel
theorem c_36_13 : cd 36 13 = some (.iconst (0), 1) := by decide +kernel
theorem c_36_14 : cd 36 14 = some (.ireturn, 1) := by decide +kernel
def f_Pa_hasCome_14 (σ : Mm) (y0 : Int32) : Option Int32 := if zB y0 = true then some y0 else none
set_option maxRecDepth 100000 in
set_option maxHeartbeats 4000000 in
theorem t_Pa_hasCome_14 {X : Xt} {S : Sh} (hS : ShOK S) {d : Nat} (hd : 0 ≤ d) (σ : Mm) (y0 : Int32) (u0 : Value) : Rf X S (emI σ) (f_Pa_hasCome_14 σ y0) d 36 14 [u0] [.int y0] σ := by
  unfold f_Pa_hasCome_14
  refine rf_ite (fun hq14 => ?_) (fun _ => rf_none)
  exact rf_ret c_36_14 rfl (zB_n hq14) rfl rfl
def f_Pa_hasCome (σ : Mm) (x0 : Nat) : Option Int32 := (if (σ x0 9) = (-1000000005 : Int32) then (f_Pa_hasCome_14 σ (0 : Int32)) else (f_Pa_hasCome_14 σ (1 : Int32)))
set_option maxRecDepth 100000 in
set_option maxHeartbeats 4000000 in
theorem t_Pa_hasCome {X : Xt} {S : Sh} (hS : ShOK S) {d : Nat} (hd : 0 ≤ d) (σ : Mm) (x0 : Nat) (h_x0 : tgT x0 = 3) : Rf X S (emI σ) (f_Pa_hasCome σ x0) d 36 0 [.ref x0] [] σ := by
  unfold f_Pa_hasCome
  refine rf_ald (i := 0) (Or.inr ⟨0, rfl, rfl, rfl⟩) c_36_0 rfl ?_
  refine rf_geti hS c_36_1 rfl fl_3_16 rfl h_x0 ?_
  refine rf_ldc (Or.inl ⟨rfl, rfl⟩) c_36_4 rfl kl_3_9 ?_
  refine rf_ite (fun hc6 => ?_) (fun hc6 => ?_)
  · refine rf_b2t c_36_6 rfl (decide_eq_true hc6) ?_
    refine rf_iconst c_36_13 ki_0 ?_
    exact t_Pa_hasCome_14 hS hd σ  (0 : Int32) (.ref x0)
  · refine rf_b2f c_36_6 rfl (decide_eq_false hc6) ?_
    refine rf_iconst c_36_9 ki_1 ?_
    refine rf_goto c_36_10 rfl ?_
    exact t_Pa_hasCome_14 hS hd σ  (1 : Int32) (.ref x0)
theorem c_37_0 : cd 37 0 = some (.aload_n 0, 1) := by decide +kernel
theorem c_37_1 : cd 37 1 = some (.invokevirtual 56, 3) := by decide +kernel
theorem c_37_4 : cd 37 4 = some (.ifCond .eq (21), 3) := by decide +kernel
theorem c_37_7 : cd 37 7 = some (.aload_n 0, 1) := by decide +kernel
theorem c_37_8 : cd 37 8 = some (.getfield 40, 3) := by decide +kernel
theorem c_37_11 : cd 37 11 = some (.ifCond .ne (14), 3) := by decide +kernel
theorem c_37_14 : cd 37 14 = some (.aload_n 0, 1) := by decide +kernel
theorem c_37_15 : cd 37 15 = some (.invokevirtual 60, 3) := by decide +kernel
theorem c_37_18 : cd 37 18 = some (.ifCond .ne (7), 3) := by decide +kernel
theorem c_37_21 : cd 37 21 = some (.iconst (1), 1) := by decide +kernel
theorem c_37_22 : cd 37 22 = some (.goto (4), 3) := by decide +kernel
theorem c_37_25 : cd 37 25 = some (.iconst (0), 1) := by decide +kernel
theorem c_37_26 : cd 37 26 = some (.ireturn, 1) := by decide +kernel
def f_Pa_isUnderWay_26 (σ : Mm) (y0 : Int32) : Option Int32 := if zB y0 = true then some y0 else none
set_option maxRecDepth 100000 in
set_option maxHeartbeats 4000000 in
theorem t_Pa_isUnderWay_26 {X : Xt} {S : Sh} (hS : ShOK S) {d : Nat} (hd : 1 ≤ d + 1) (σ : Mm) (y0 : Int32) (u0 : Value) : Rf X S (emI σ) (f_Pa_isUnderWay_26 σ y0) (d + 1) 37 26 [u0] [.int y0] σ := by
  unfold f_Pa_isUnderWay_26
  refine rf_ite (fun hq26 => ?_) (fun _ => rf_none)
  exact rf_ret c_37_26 rfl (zB_n hq26) rfl rfl
def f_Pa_isUnderWay_25 (σ : Mm) : Option Int32 := f_Pa_isUnderWay_26 σ (0 : Int32)
set_option maxRecDepth 100000 in
set_option maxHeartbeats 4000000 in
theorem t_Pa_isUnderWay_25 {X : Xt} {S : Sh} (hS : ShOK S) {d : Nat} (hd : 1 ≤ d + 1) (σ : Mm) (u0 : Value) : Rf X S (emI σ) (f_Pa_isUnderWay_25 σ) (d + 1) 37 25 [u0] [] σ := by
  unfold f_Pa_isUnderWay_25
  refine rf_iconst c_37_25 ki_0 ?_
  exact t_Pa_isUnderWay_26 hS hd σ  (0 : Int32) (u0)
def f_Pa_isUnderWay (σ : Mm) (x0 : Nat) : Option Int32 := (f_Pa_isSent σ x0).bind fun v1 => (if v1 = 0 then (f_Pa_isUnderWay_25 σ ) else (if ¬ (σ x0 6) = 0 then (f_Pa_isUnderWay_25 σ ) else ((f_Pa_hasCome σ x0).bind fun v15 => (if ¬ v15 = 0 then (f_Pa_isUnderWay_25 σ ) else (f_Pa_isUnderWay_26 σ (1 : Int32))))))
set_option maxRecDepth 100000 in
set_option maxHeartbeats 4000000 in
theorem t_Pa_isUnderWay_e {X : Xt} {S : Sh} (hS : ShOK S) {d : Nat} (hd : 1 ≤ d + 1) (σ : Mm) (x0 : Nat) (h_x0 : tgT x0 = 3) : Rf X S (emI σ) (f_Pa_isUnderWay σ x0) (d + 1) 37 0 [.ref x0] [] σ := by
  unfold f_Pa_isUnderWay
  refine rf_ald (i := 0) (Or.inr ⟨0, rfl, rfl, rfl⟩) c_37_0 rfl ?_
  refine rf_callI (as := [.ref x0]) (kd := 1) c_37_1 rfl (by decide) rfl ml_3_56 (by decide) rfl (rcv_1 hS rfl rfl h_x0 (by decide)) (Nat.zero_le _) rfl rfl (t_Pa_isSent hS (by omega) σ x0 h_x0) (fun v1 => ?_)
  refine rf_ite (fun hc4 => ?_) (fun hc4 => ?_)
  · refine rf_b1t c_37_4 rfl (decide_eq_true hc4) ?_
    exact t_Pa_isUnderWay_25 hS hd σ  (.ref x0)
  · refine rf_b1f c_37_4 rfl (decide_eq_false hc4) ?_
    refine rf_ald (i := 0) (Or.inr ⟨0, rfl, rfl, rfl⟩) c_37_7 rfl ?_
    refine rf_geti hS c_37_8 rfl fl_3_40 rfl h_x0 ?_
    refine rf_ite (fun hc11 => ?_) (fun hc11 => ?_)
    · refine rf_b1t c_37_11 rfl (decide_eq_true hc11) ?_
      exact t_Pa_isUnderWay_25 hS hd σ  (.ref x0)
    · refine rf_b1f c_37_11 rfl (decide_eq_false hc11) ?_
      refine rf_ald (i := 0) (Or.inr ⟨0, rfl, rfl, rfl⟩) c_37_14 rfl ?_
      refine rf_callI (as := [.ref x0]) (kd := 1) c_37_15 rfl (by decide) rfl ml_3_60 (by decide) rfl (rcv_1 hS rfl rfl h_x0 (by decide)) (Nat.zero_le _) rfl rfl (t_Pa_hasCome hS (by omega) σ x0 h_x0) (fun v15 => ?_)
      refine rf_ite (fun hc18 => ?_) (fun hc18 => ?_)
      · refine rf_b1t c_37_18 rfl (decide_eq_true hc18) ?_
        exact t_Pa_isUnderWay_25 hS hd σ  (.ref x0)
      · refine rf_b1f c_37_18 rfl (decide_eq_false hc18) ?_
        refine rf_iconst c_37_21 ki_1 ?_
        refine rf_goto c_37_22 rfl ?_
        exact t_Pa_isUnderWay_26 hS hd σ  (1 : Int32) (.ref x0)
theorem t_Pa_isUnderWay {X : Xt} {S : Sh} (hS : ShOK S) {d : Nat} (hd : 1 ≤ d) (σ : Mm) (x0 : Nat) (h_x0 : tgT x0 = 3) : Rf X S (emI σ) (f_Pa_isUnderWay σ x0) d 37 0 [.ref x0] [] σ := by
  obtain ⟨d1, rfl⟩ : ∃ d1, d = d1 + 1 := ⟨d - 1, by omega⟩
  exact t_Pa_isUnderWay_e hS hd σ x0 h_x0
theorem c_38_0 : cd 38 0 = some (.aload_n 0, 1) := by decide +kernel
theorem c_38_1 : cd 38 1 = some (.getfield 25, 3) := by decide +kernel
theorem c_38_4 : cd 38 4 = some (.istore_n 2, 1) := by decide +kernel
theorem c_38_5 : cd 38 5 = some (.iconst (0), 1) := by decide +kernel
theorem c_38_6 : cd 38 6 = some (.istore_n 3, 1) := by decide +kernel
theorem c_38_7 : cd 38 7 = some (.iload_n 3, 1) := by decide +kernel
theorem c_38_8 : cd 38 8 = some (.iconst (5), 1) := by decide +kernel
theorem c_38_9 : cd 38 9 = some (.if_icmp .ge (31), 3) := by decide +kernel
theorem c_38_12 : cd 38 12 = some (.iload_n 2, 1) := by decide +kernel
theorem c_38_13 : cd 38 13 = some (.ifCond .lt (27), 3) := by decide +kernel
theorem c_38_16 : cd 38 16 = some (.iload_n 2, 1) := by decide +kernel
theorem c_38_17 : cd 38 17 = some (.iconst (5), 1) := by decide +kernel
theorem c_38_18 : cd 38 18 = some (.if_icmp .ge (22), 3) := by decide +kernel
theorem c_38_21 : cd 38 21 = some (.iload_n 2, 1) := by decide +kernel
theorem c_38_22 : cd 38 22 = some (.iload_n 1, 1) := by decide +kernel
theorem c_38_23 : cd 38 23 = some (.if_icmp .ne (5), 3) := by decide +kernel
theorem c_38_26 : cd 38 26 = some (.iconst (1), 1) := by decide +kernel
theorem c_38_27 : cd 38 27 = some (.ireturn, 1) := by decide +kernel
theorem c_38_28 : cd 38 28 = some (.getstatic 63, 3) := by decide +kernel
theorem c_38_31 : cd 38 31 = some (.iload_n 2, 1) := by decide +kernel
theorem c_38_32 : cd 38 32 = some (.iaload, 1) := by decide +kernel
theorem c_38_33 : cd 38 33 = some (.istore_n 2, 1) := by decide +kernel
theorem c_38_34 : cd 38 34 = some (.iinc 3 (1), 3) := by decide +kernel
theorem c_38_37 : cd 38 37 = some (.goto (-30), 3) := by decide +kernel
theorem c_38_40 : cd 38 40 = some (.iconst (0), 1) := by decide +kernel
theorem c_38_41 : cd 38 41 = some (.ireturn, 1) := by decide +kernel
def f_Pa_isOfKind_40 (σ : Mm) : Option Int32 := some (0 : Int32)
set_option maxRecDepth 100000 in
set_option maxHeartbeats 4000000 in
theorem t_Pa_isOfKind_40 {X : Xt} {S : Sh} (hS : ShOK S) {d : Nat} (hd : 0 ≤ d) (σ : Mm) (u0 : Value) (u1 : Value) (u2 : Value) (u3 : Value) : Rf X S (emI σ) (f_Pa_isOfKind_40 σ) d 38 40 [u0, u1, u2, u3] [] σ := by
  unfold f_Pa_isOfKind_40
  refine rf_iconst c_38_40 ki_0 ?_
  exact rf_ret c_38_41 rfl (by decide) rfl rfl
def f_Pa_isOfKind_7 (σ : Mm) : Nat → Int32 → Int32 → Int32 → Option Int32
  | 0, _, _, _ => none
  | n + 1, x1, x2, x3 => (if (5 : Int32) ≤ x3 then (f_Pa_isOfKind_40 σ ) else (if x2 < 0 then (f_Pa_isOfKind_40 σ ) else (if (5 : Int32) ≤ x2 then (f_Pa_isOfKind_40 σ ) else (if ¬ x2 = x1 then (if inbB x2 5 = true then f_Pa_isOfKind_7 σ n x1 (kAbove.getD (ix x2) 0) (x3 + (1 : Int32)) else none) else (some (1 : Int32))))))
set_option maxRecDepth 100000 in
set_option maxHeartbeats 4000000 in
theorem t_Pa_isOfKind_7 {X : Xt} {S : Sh} (hS : ShOK S) {d : Nat} (hd : 0 ≤ d) (σ : Mm) : ∀ (n : Nat) (x1 : Int32) (x2 : Int32) (x3 : Int32) (u0 : Value), Rf X S (emI σ) (f_Pa_isOfKind_7 σ n x1 x2 x3) d 38 7 [u0, .int x1, .int x2, .int x3] [] σ := by
  intro n
  induction n with
  | zero => intro x1 x2 x3 u0; exact rf_none
  | succ n ih =>
    intro x1 x2 x3 u0
    rw [f_Pa_isOfKind_7]
    refine rf_ild (i := 3) (Or.inr ⟨3, rfl, rfl, rfl⟩) c_38_7 rfl ?_
    refine rf_iconst c_38_8 ki_5 ?_
    refine rf_ite (fun hc9 => ?_) (fun hc9 => ?_)
    · refine rf_b2t c_38_9 rfl (decide_eq_true hc9) ?_
      exact t_Pa_isOfKind_40 hS hd σ  (u0) (.int x1) (.int x2) (.int x3)
    · refine rf_b2f c_38_9 rfl (decide_eq_false hc9) ?_
      refine rf_ild (i := 2) (Or.inr ⟨2, rfl, rfl, rfl⟩) c_38_12 rfl ?_
      refine rf_ite (fun hc13 => ?_) (fun hc13 => ?_)
      · refine rf_b1t c_38_13 rfl (decide_eq_true hc13) ?_
        exact t_Pa_isOfKind_40 hS hd σ  (u0) (.int x1) (.int x2) (.int x3)
      · refine rf_b1f c_38_13 rfl (decide_eq_false hc13) ?_
        refine rf_ild (i := 2) (Or.inr ⟨2, rfl, rfl, rfl⟩) c_38_16 rfl ?_
        refine rf_iconst c_38_17 ki_5 ?_
        refine rf_ite (fun hc18 => ?_) (fun hc18 => ?_)
        · refine rf_b2t c_38_18 rfl (decide_eq_true hc18) ?_
          exact t_Pa_isOfKind_40 hS hd σ  (u0) (.int x1) (.int x2) (.int x3)
        · refine rf_b2f c_38_18 rfl (decide_eq_false hc18) ?_
          refine rf_ild (i := 2) (Or.inr ⟨2, rfl, rfl, rfl⟩) c_38_21 rfl ?_
          refine rf_ild (i := 1) (Or.inr ⟨1, rfl, rfl, rfl⟩) c_38_22 rfl ?_
          refine rf_ite (fun hc23 => ?_) (fun hc23 => ?_)
          · refine rf_b2t c_38_23 rfl (decide_eq_true hc23) ?_
            refine rf_gets c_38_28 rfl ?_
            refine rf_ild (i := 2) (Or.inr ⟨2, rfl, rfl, rfl⟩) c_38_31 rfl ?_
            refine rf_ite (fun hb32 => ?_) (fun _ => rf_none)
            refine rf_kald c_38_32 hb32 ?_
            refine rf_ist (i := 2) (Or.inr ⟨2, rfl, rfl, rfl⟩) c_38_33 (Nat.le_of_ble_eq_true rfl) rfl ?_
            refine rf_iinc c_38_34 rfl ki_1 rfl ?_
            refine rf_goto c_38_37 rfl ?_
            exact ih x1 (kAbove.getD (ix x2) 0) (x3 + (1 : Int32)) (u0)
          · refine rf_b2f c_38_23 rfl (decide_eq_false hc23) ?_
            refine rf_iconst c_38_26 ki_1 ?_
            exact rf_ret c_38_27 rfl (by decide) rfl rfl
def f_Pa_isOfKind (σ : Mm) (x0 : Nat) (x1 : Int32) : Option Int32 := f_Pa_isOfKind_7 σ NN x1 (σ x0 0) (0 : Int32)
set_option maxRecDepth 100000 in
set_option maxHeartbeats 4000000 in
theorem t_Pa_isOfKind {X : Xt} {S : Sh} (hS : ShOK S) {d : Nat} (hd : 0 ≤ d) (σ : Mm) (x0 : Nat) (x1 : Int32) (h_x0 : tgT x0 = 3) : Rf X S (emI σ) (f_Pa_isOfKind σ x0 x1) d 38 0 [.ref x0, .int x1, unset0, unset0] [] σ := by
  unfold f_Pa_isOfKind
  refine rf_ald (i := 0) (Or.inr ⟨0, rfl, rfl, rfl⟩) c_38_0 rfl ?_
  refine rf_geti hS c_38_1 rfl fl_3_25 rfl h_x0 ?_
  refine rf_ist (i := 2) (Or.inr ⟨2, rfl, rfl, rfl⟩) c_38_4 (Nat.le_of_ble_eq_true rfl) rfl ?_
  refine rf_iconst c_38_5 ki_0 ?_
  refine rf_ist (i := 3) (Or.inr ⟨3, rfl, rfl, rfl⟩) c_38_6 (Nat.le_of_ble_eq_true rfl) rfl ?_
  exact t_Pa_isOfKind_7 hS hd σ  NN x1 (σ x0 0) (0 : Int32) (.ref x0)
theorem c_39_0 : cd 39 0 = some (.aload_n 0, 1) := by decide +kernel
theorem c_39_1 : cd 39 1 = some (.iload_n 1, 1) := by decide +kernel
theorem c_39_2 : cd 39 2 = some (.putfield 16, 3) := by decide +kernel
theorem c_39_5 : cd 39 5 = some (.aload_n 0, 1) := by decide +kernel
theorem c_39_6 : cd 39 6 = some (.iload_n 2, 1) := by decide +kernel
theorem c_39_7 : cd 39 7 = some (.putfield 19, 3) := by decide +kernel
theorem c_39_10 : cd 39 10 = some (.return_, 1) := by decide +kernel
def f_Pa_arrive (x0 : Nat) (x1 : Int32) (x2 : Int32) (σ : Mm) : Option Mm := nmM (up2 σ x0 9 x1) fun σ2 => nmM (up2 σ2 x0 10 x2) fun σ7 => some σ7
set_option maxRecDepth 100000 in
set_option maxHeartbeats 4000000 in
theorem t_Pa_arrive {X : Xt} {S : Sh} (hS : ShOK S) {d : Nat} (hd : 0 ≤ d) (x0 : Nat) (x1 : Int32) (x2 : Int32) (σ : Mm) (h_x0 : tgT x0 = 3) : Rf X S emV (f_Pa_arrive x0 x1 x2 σ) d 39 0 [.ref x0, .int x1, .int x2] [] σ := by
  unfold f_Pa_arrive
  refine rf_ald (i := 0) (Or.inr ⟨0, rfl, rfl, rfl⟩) c_39_0 rfl ?_
  refine rf_ild (i := 1) (Or.inr ⟨1, rfl, rfl, rfl⟩) c_39_1 rfl ?_
  refine rf_puti hS c_39_2 rfl fl_3_16 rfl rfl rfl rfl h_x0 ?_
  refine rf_nm (fun σ2 => ?_)
  refine rf_ald (i := 0) (Or.inr ⟨0, rfl, rfl, rfl⟩) c_39_5 rfl ?_
  refine rf_ild (i := 2) (Or.inr ⟨2, rfl, rfl, rfl⟩) c_39_6 rfl ?_
  refine rf_puti hS c_39_7 rfl fl_3_19 rfl rfl rfl rfl h_x0 ?_
  refine rf_nm (fun σ7 => ?_)
  exact rf_vret c_39_10 rfl rfl
theorem c_40_0 : cd 40 0 = some (.iconst (1), 1) := by decide +kernel
theorem c_40_1 : cd 40 1 = some (.iload_n 1, 1) := by decide +kernel
theorem c_40_2 : cd 40 2 = some (.ishl, 1) := by decide +kernel
theorem c_40_3 : cd 40 3 = some (.istore_n 3, 1) := by decide +kernel
theorem c_40_4 : cd 40 4 = some (.ldc 9, 2) := by decide +kernel
theorem c_40_6 : cd 40 6 = some (.istore 4, 2) := by decide +kernel
theorem c_40_8 : cd 40 8 = some (.aload_n 0, 1) := by decide +kernel
theorem c_40_9 : cd 40 9 = some (.getfield 44, 3) := by decide +kernel
theorem c_40_12 : cd 40 12 = some (.iload_n 3, 1) := by decide +kernel
theorem c_40_13 : cd 40 13 = some (.iand, 1) := by decide +kernel
theorem c_40_14 : cd 40 14 = some (.ifCond .eq (9), 3) := by decide +kernel
theorem c_40_17 : cd 40 17 = some (.iconst (1), 1) := by decide +kernel
theorem c_40_18 : cd 40 18 = some (.istore 4, 2) := by decide +kernel
theorem c_40_20 : cd 40 20 = some (.goto (15), 3) := by decide +kernel
theorem c_40_23 : cd 40 23 = some (.aload_n 0, 1) := by decide +kernel
theorem c_40_24 : cd 40 24 = some (.getfield 47, 3) := by decide +kernel
theorem c_40_27 : cd 40 27 = some (.iload_n 3, 1) := by decide +kernel
theorem c_40_28 : cd 40 28 = some (.iand, 1) := by decide +kernel
theorem c_40_29 : cd 40 29 = some (.ifCond .eq (6), 3) := by decide +kernel
theorem c_40_32 : cd 40 32 = some (.iconst (0), 1) := by decide +kernel
theorem c_40_33 : cd 40 33 = some (.istore 4, 2) := by decide +kernel
theorem c_40_35 : cd 40 35 = some (.aload_n 0, 1) := by decide +kernel
theorem c_40_36 : cd 40 36 = some (.iload_n 2, 1) := by decide +kernel
theorem c_40_37 : cd 40 37 = some (.ifCond .eq (12), 3) := by decide +kernel
theorem c_40_40 : cd 40 40 = some (.aload_n 0, 1) := by decide +kernel
theorem c_40_41 : cd 40 41 = some (.getfield 44, 3) := by decide +kernel
theorem c_40_44 : cd 40 44 = some (.iload_n 3, 1) := by decide +kernel
theorem c_40_45 : cd 40 45 = some (.ior, 1) := by decide +kernel
theorem c_40_46 : cd 40 46 = some (.goto (11), 3) := by decide +kernel
theorem c_40_49 : cd 40 49 = some (.aload_n 0, 1) := by decide +kernel
theorem c_40_50 : cd 40 50 = some (.getfield 44, 3) := by decide +kernel
theorem c_40_53 : cd 40 53 = some (.iload_n 3, 1) := by decide +kernel
theorem c_40_54 : cd 40 54 = some (.iconst (-1), 1) := by decide +kernel
theorem c_40_55 : cd 40 55 = some (.ixor, 1) := by decide +kernel
theorem c_40_56 : cd 40 56 = some (.iand, 1) := by decide +kernel
theorem c_40_57 : cd 40 57 = some (.putfield 44, 3) := by decide +kernel
theorem c_40_60 : cd 40 60 = some (.aload_n 0, 1) := by decide +kernel
theorem c_40_61 : cd 40 61 = some (.iload_n 2, 1) := by decide +kernel
theorem c_40_62 : cd 40 62 = some (.ifCond .eq (14), 3) := by decide +kernel
theorem c_40_65 : cd 40 65 = some (.aload_n 0, 1) := by decide +kernel
theorem c_40_66 : cd 40 66 = some (.getfield 47, 3) := by decide +kernel
theorem c_40_69 : cd 40 69 = some (.iload_n 3, 1) := by decide +kernel
theorem c_40_70 : cd 40 70 = some (.iconst (-1), 1) := by decide +kernel
theorem c_40_71 : cd 40 71 = some (.ixor, 1) := by decide +kernel
theorem c_40_72 : cd 40 72 = some (.iand, 1) := by decide +kernel
theorem c_40_73 : cd 40 73 = some (.goto (9), 3) := by decide +kernel
theorem c_40_76 : cd 40 76 = some (.aload_n 0, 1) := by decide +kernel
theorem c_40_77 : cd 40 77 = some (.getfield 47, 3) := by decide +kernel
theorem c_40_80 : cd 40 80 = some (.iload_n 3, 1) := by decide +kernel
theorem c_40_81 : cd 40 81 = some (.ior, 1) := by decide +kernel
theorem c_40_82 : cd 40 82 = some (.putfield 47, 3) := by decide +kernel
theorem c_40_85 : cd 40 85 = some (.iload 4, 2) := by decide +kernel
theorem c_40_87 : cd 40 87 = some (.ireturn, 1) := by decide +kernel
def f_Pa_hear_82 (x4 : Int32) (y0 : Nat) (y1 : Int32) (σ : Mm) : Option (Int32 × Mm) := nmM (up2 σ y0 8 y1) fun σ82 => some (x4, σ82)
set_option maxRecDepth 100000 in
set_option maxHeartbeats 4000000 in
theorem t_Pa_hear_82 {X : Xt} {S : Sh} (hS : ShOK S) {d : Nat} (hd : 0 ≤ d) (x4 : Int32) (y0 : Nat) (y1 : Int32) (u0 : Value) (u1 : Value) (u2 : Value) (u3 : Value) (σ : Mm) (h_y0 : tgT y0 = 3) : Rf X S emM (f_Pa_hear_82 x4 y0 y1 σ) d 40 82 [u0, u1, u2, u3, .int x4] [.int y1, .ref y0] σ := by
  unfold f_Pa_hear_82
  refine rf_puti hS c_40_82 rfl fl_3_47 rfl rfl rfl rfl h_y0 ?_
  refine rf_nm (fun σ82 => ?_)
  refine rf_ild (i := 4) (Or.inl ⟨rfl, rfl⟩) c_40_85 rfl ?_
  exact rf_ret c_40_87 rfl rfl rfl rfl
def f_Pa_hear_57 (x0 : Nat) (x2 : Int32) (x3 : Int32) (x4 : Int32) (y0 : Nat) (y1 : Int32) (σ : Mm) : Option (Int32 × Mm) := nmM (up2 σ y0 7 y1) fun σ57 => (if x2 = 0 then (f_Pa_hear_82  x4 x0 ((σ57 x0 8) ||| x3) σ57) else (f_Pa_hear_82  x4 x0 ((σ57 x0 8) &&& (x3 ^^^ (-1 : Int32))) σ57))
set_option maxRecDepth 100000 in
set_option maxHeartbeats 4000000 in
theorem t_Pa_hear_57 {X : Xt} {S : Sh} (hS : ShOK S) {d : Nat} (hd : 0 ≤ d) (x0 : Nat) (x2 : Int32) (x3 : Int32) (x4 : Int32) (y0 : Nat) (y1 : Int32) (u1 : Value) (σ : Mm) (h_x0 : tgT x0 = 3) (h_y0 : tgT y0 = 3) : Rf X S emM (f_Pa_hear_57 x0 x2 x3 x4 y0 y1 σ) d 40 57 [.ref x0, u1, .int x2, .int x3, .int x4] [.int y1, .ref y0] σ := by
  unfold f_Pa_hear_57
  refine rf_puti hS c_40_57 rfl fl_3_44 rfl rfl rfl rfl h_y0 ?_
  refine rf_nm (fun σ57 => ?_)
  refine rf_ald (i := 0) (Or.inr ⟨0, rfl, rfl, rfl⟩) c_40_60 rfl ?_
  refine rf_ild (i := 2) (Or.inr ⟨2, rfl, rfl, rfl⟩) c_40_61 rfl ?_
  refine rf_ite (fun hc62 => ?_) (fun hc62 => ?_)
  · refine rf_b1t c_40_62 rfl (decide_eq_true hc62) ?_
    refine rf_ald (i := 0) (Or.inr ⟨0, rfl, rfl, rfl⟩) c_40_76 rfl ?_
    refine rf_geti hS c_40_77 rfl fl_3_47 rfl h_x0 ?_
    refine rf_ild (i := 3) (Or.inr ⟨3, rfl, rfl, rfl⟩) c_40_80 rfl ?_
    refine rf_ior c_40_81 ?_
    exact t_Pa_hear_82 hS hd  x4 x0 ((σ57 x0 8) ||| x3) (.ref x0) (u1) (.int x2) (.int x3) σ57 h_x0
  · refine rf_b1f c_40_62 rfl (decide_eq_false hc62) ?_
    refine rf_ald (i := 0) (Or.inr ⟨0, rfl, rfl, rfl⟩) c_40_65 rfl ?_
    refine rf_geti hS c_40_66 rfl fl_3_47 rfl h_x0 ?_
    refine rf_ild (i := 3) (Or.inr ⟨3, rfl, rfl, rfl⟩) c_40_69 rfl ?_
    refine rf_iconst c_40_70 ki_m1 ?_
    refine rf_ixor c_40_71 ?_
    refine rf_iand c_40_72 ?_
    refine rf_goto c_40_73 rfl ?_
    exact t_Pa_hear_82 hS hd  x4 x0 ((σ57 x0 8) &&& (x3 ^^^ (-1 : Int32))) (.ref x0) (u1) (.int x2) (.int x3) σ57 h_x0
def f_Pa_hear_35 (x0 : Nat) (x2 : Int32) (x3 : Int32) (x4 : Int32) (σ : Mm) : Option (Int32 × Mm) := (if x2 = 0 then (f_Pa_hear_57  x0 x2 x3 x4 x0 ((σ x0 7) &&& (x3 ^^^ (-1 : Int32))) σ) else (f_Pa_hear_57  x0 x2 x3 x4 x0 ((σ x0 7) ||| x3) σ))
set_option maxRecDepth 100000 in
set_option maxHeartbeats 4000000 in
theorem t_Pa_hear_35 {X : Xt} {S : Sh} (hS : ShOK S) {d : Nat} (hd : 0 ≤ d) (x0 : Nat) (x2 : Int32) (x3 : Int32) (x4 : Int32) (u1 : Value) (σ : Mm) (h_x0 : tgT x0 = 3) : Rf X S emM (f_Pa_hear_35 x0 x2 x3 x4 σ) d 40 35 [.ref x0, u1, .int x2, .int x3, .int x4] [] σ := by
  unfold f_Pa_hear_35
  refine rf_ald (i := 0) (Or.inr ⟨0, rfl, rfl, rfl⟩) c_40_35 rfl ?_
  refine rf_ild (i := 2) (Or.inr ⟨2, rfl, rfl, rfl⟩) c_40_36 rfl ?_
  refine rf_ite (fun hc37 => ?_) (fun hc37 => ?_)
  · refine rf_b1t c_40_37 rfl (decide_eq_true hc37) ?_
    refine rf_ald (i := 0) (Or.inr ⟨0, rfl, rfl, rfl⟩) c_40_49 rfl ?_
    refine rf_geti hS c_40_50 rfl fl_3_44 rfl h_x0 ?_
    refine rf_ild (i := 3) (Or.inr ⟨3, rfl, rfl, rfl⟩) c_40_53 rfl ?_
    refine rf_iconst c_40_54 ki_m1 ?_
    refine rf_ixor c_40_55 ?_
    refine rf_iand c_40_56 ?_
    exact t_Pa_hear_57 hS hd  x0 x2 x3 x4 x0 ((σ x0 7) &&& (x3 ^^^ (-1 : Int32))) (u1) σ h_x0 h_x0
  · refine rf_b1f c_40_37 rfl (decide_eq_false hc37) ?_
    refine rf_ald (i := 0) (Or.inr ⟨0, rfl, rfl, rfl⟩) c_40_40 rfl ?_
    refine rf_geti hS c_40_41 rfl fl_3_44 rfl h_x0 ?_
    refine rf_ild (i := 3) (Or.inr ⟨3, rfl, rfl, rfl⟩) c_40_44 rfl ?_
    refine rf_ior c_40_45 ?_
    refine rf_goto c_40_46 rfl ?_
    exact t_Pa_hear_57 hS hd  x0 x2 x3 x4 x0 ((σ x0 7) ||| x3) (u1) σ h_x0 h_x0
def f_Pa_hear (x0 : Nat) (x1 : Int32) (x2 : Int32) (σ : Mm) : Option (Int32 × Mm) := (if ((σ x0 7) &&& ((1 : Int32) <<< (x1 &&& 31))) = 0 then (if ((σ x0 8) &&& ((1 : Int32) <<< (x1 &&& 31))) = 0 then (f_Pa_hear_35  x0 x2 ((1 : Int32) <<< (x1 &&& 31)) (-1000000005 : Int32) σ) else (f_Pa_hear_35  x0 x2 ((1 : Int32) <<< (x1 &&& 31)) (0 : Int32) σ)) else (f_Pa_hear_35  x0 x2 ((1 : Int32) <<< (x1 &&& 31)) (1 : Int32) σ))
set_option maxRecDepth 100000 in
set_option maxHeartbeats 4000000 in
theorem t_Pa_hear {X : Xt} {S : Sh} (hS : ShOK S) {d : Nat} (hd : 0 ≤ d) (x0 : Nat) (x1 : Int32) (x2 : Int32) (σ : Mm) (h_x0 : tgT x0 = 3) : Rf X S emM (f_Pa_hear x0 x1 x2 σ) d 40 0 [.ref x0, .int x1, .int x2, unset0, unset0] [] σ := by
  unfold f_Pa_hear
  refine rf_iconst c_40_0 ki_1 ?_
  refine rf_ild (i := 1) (Or.inr ⟨1, rfl, rfl, rfl⟩) c_40_1 rfl ?_
  refine rf_ishl c_40_2 ?_
  refine rf_ist (i := 3) (Or.inr ⟨3, rfl, rfl, rfl⟩) c_40_3 (Nat.le_of_ble_eq_true rfl) rfl ?_
  refine rf_ldc (Or.inl ⟨rfl, rfl⟩) c_40_4 rfl kl_3_9 ?_
  refine rf_ist (i := 4) (Or.inl ⟨rfl, rfl⟩) c_40_6 (Nat.le_of_ble_eq_true rfl) rfl ?_
  refine rf_ald (i := 0) (Or.inr ⟨0, rfl, rfl, rfl⟩) c_40_8 rfl ?_
  refine rf_geti hS c_40_9 rfl fl_3_44 rfl h_x0 ?_
  refine rf_ild (i := 3) (Or.inr ⟨3, rfl, rfl, rfl⟩) c_40_12 rfl ?_
  refine rf_iand c_40_13 ?_
  refine rf_ite (fun hc14 => ?_) (fun hc14 => ?_)
  · refine rf_b1t c_40_14 rfl (decide_eq_true hc14) ?_
    refine rf_ald (i := 0) (Or.inr ⟨0, rfl, rfl, rfl⟩) c_40_23 rfl ?_
    refine rf_geti hS c_40_24 rfl fl_3_47 rfl h_x0 ?_
    refine rf_ild (i := 3) (Or.inr ⟨3, rfl, rfl, rfl⟩) c_40_27 rfl ?_
    refine rf_iand c_40_28 ?_
    refine rf_ite (fun hc29 => ?_) (fun hc29 => ?_)
    · refine rf_b1t c_40_29 rfl (decide_eq_true hc29) ?_
      exact t_Pa_hear_35 hS hd  x0 x2 ((1 : Int32) <<< (x1 &&& 31)) (-1000000005 : Int32) (.int x1) σ h_x0
    · refine rf_b1f c_40_29 rfl (decide_eq_false hc29) ?_
      refine rf_iconst c_40_32 ki_0 ?_
      refine rf_ist (i := 4) (Or.inl ⟨rfl, rfl⟩) c_40_33 (Nat.le_of_ble_eq_true rfl) rfl ?_
      exact t_Pa_hear_35 hS hd  x0 x2 ((1 : Int32) <<< (x1 &&& 31)) (0 : Int32) (.int x1) σ h_x0
  · refine rf_b1f c_40_14 rfl (decide_eq_false hc14) ?_
    refine rf_iconst c_40_17 ki_1 ?_
    refine rf_ist (i := 4) (Or.inl ⟨rfl, rfl⟩) c_40_18 (Nat.le_of_ble_eq_true rfl) rfl ?_
    refine rf_goto c_40_20 rfl ?_
    exact t_Pa_hear_35 hS hd  x0 x2 ((1 : Int32) <<< (x1 &&& 31)) (1 : Int32) (.int x1) σ h_x0
theorem c_181_0 : cd 181 0 = some (.iload_n 0, 1) := by decide +kernel
theorem c_181_1 : cd 181 1 = some (.ifCond .eq (7), 3) := by decide +kernel
theorem c_181_4 : cd 181 4 = some (.iconst (1), 1) := by decide +kernel
theorem c_181_5 : cd 181 5 = some (.goto (4), 3) := by decide +kernel
theorem c_181_8 : cd 181 8 = some (.iconst (0), 1) := by decide +kernel
theorem c_181_9 : cd 181 9 = some (.ireturn, 1) := by decide +kernel
def f_Ct_bit_9 (σ : Mm) (y0 : Int32) : Option Int32 := some y0
set_option maxRecDepth 100000 in
set_option maxHeartbeats 4000000 in
theorem t_Ct_bit_9 {X : Xt} {S : Sh} (hS : ShOK S) {d : Nat} (hd : 0 ≤ d) (σ : Mm) (y0 : Int32) (u0 : Value) : Rf X S (emI σ) (f_Ct_bit_9 σ y0) d 181 9 [u0] [.int y0] σ := by
  unfold f_Ct_bit_9
  exact rf_ret c_181_9 rfl rfl rfl rfl
def f_Ct_bit (σ : Mm) (x0 : Int32) : Option Int32 := (if x0 = 0 then (f_Ct_bit_9 σ (0 : Int32)) else (f_Ct_bit_9 σ (1 : Int32)))
set_option maxRecDepth 100000 in
set_option maxHeartbeats 4000000 in
theorem t_Ct_bit {X : Xt} {S : Sh} (hS : ShOK S) {d : Nat} (hd : 0 ≤ d) (σ : Mm) (x0 : Int32) : Rf X S (emI σ) (f_Ct_bit σ x0) d 181 0 [.int x0] [] σ := by
  unfold f_Ct_bit
  refine rf_ild (i := 0) (Or.inr ⟨0, rfl, rfl, rfl⟩) c_181_0 rfl ?_
  refine rf_ite (fun hc1 => ?_) (fun hc1 => ?_)
  · refine rf_b1t c_181_1 rfl (decide_eq_true hc1) ?_
    refine rf_iconst c_181_8 ki_0 ?_
    exact t_Ct_bit_9 hS hd σ  (0 : Int32) (.int x0)
  · refine rf_b1f c_181_1 rfl (decide_eq_false hc1) ?_
    refine rf_iconst c_181_4 ki_1 ?_
    refine rf_goto c_181_5 rfl ?_
    exact t_Ct_bit_9 hS hd σ  (1 : Int32) (.int x0)
theorem c_41_0 : cd 41 0 = some (.iload_n 1, 1) := by decide +kernel
theorem c_41_1 : cd 41 1 = some (.tableswitch (90) (0) (7) #[47, 52, 57, 62, 67, 72, 77, 85], 47) := by decide +kernel
theorem c_41_48 : cd 41 48 = some (.aload_n 0, 1) := by decide +kernel
theorem c_41_49 : cd 41 49 = some (.getfield 25, 3) := by decide +kernel
theorem c_41_52 : cd 41 52 = some (.ireturn, 1) := by decide +kernel
theorem c_41_53 : cd 41 53 = some (.aload_n 0, 1) := by decide +kernel
theorem c_41_54 : cd 41 54 = some (.getfield 28, 3) := by decide +kernel
theorem c_41_57 : cd 41 57 = some (.ireturn, 1) := by decide +kernel
theorem c_41_58 : cd 41 58 = some (.aload_n 0, 1) := by decide +kernel
theorem c_41_59 : cd 41 59 = some (.getfield 31, 3) := by decide +kernel
theorem c_41_62 : cd 41 62 = some (.ireturn, 1) := by decide +kernel
theorem c_41_63 : cd 41 63 = some (.aload_n 0, 1) := by decide +kernel
theorem c_41_64 : cd 41 64 = some (.getfield 34, 3) := by decide +kernel
theorem c_41_67 : cd 41 67 = some (.ireturn, 1) := by decide +kernel
theorem c_41_68 : cd 41 68 = some (.aload_n 0, 1) := by decide +kernel
theorem c_41_69 : cd 41 69 = some (.getfield 37, 3) := by decide +kernel
theorem c_41_72 : cd 41 72 = some (.ireturn, 1) := by decide +kernel
theorem c_41_73 : cd 41 73 = some (.aload_n 0, 1) := by decide +kernel
theorem c_41_74 : cd 41 74 = some (.getfield 10, 3) := by decide +kernel
theorem c_41_77 : cd 41 77 = some (.ireturn, 1) := by decide +kernel
theorem c_41_78 : cd 41 78 = some (.aload_n 0, 1) := by decide +kernel
theorem c_41_79 : cd 41 79 = some (.getfield 40, 3) := by decide +kernel
theorem c_41_82 : cd 41 82 = some (.invokestatic 67, 3) := by decide +kernel
theorem c_41_85 : cd 41 85 = some (.ireturn, 1) := by decide +kernel
theorem c_41_86 : cd 41 86 = some (.aload_n 0, 1) := by decide +kernel
theorem c_41_87 : cd 41 87 = some (.getfield 44, 3) := by decide +kernel
theorem c_41_90 : cd 41 90 = some (.ireturn, 1) := by decide +kernel
theorem c_41_91 : cd 41 91 = some (.aload_n 0, 1) := by decide +kernel
theorem c_41_92 : cd 41 92 = some (.getfield 47, 3) := by decide +kernel
theorem c_41_95 : cd 41 95 = some (.ireturn, 1) := by decide +kernel
def f_Pa_ofItself (σ : Mm) (x0 : Nat) (x1 : Int32) : Option Int32 := (if x1 = (0 : Int32) then (some (σ x0 0)) else (if x1 = (1 : Int32) then (some (σ x0 1)) else (if x1 = (2 : Int32) then (some (σ x0 2)) else (if x1 = (3 : Int32) then (some (σ x0 3)) else (if x1 = (4 : Int32) then (some (σ x0 4)) else (if x1 = (5 : Int32) then (some (σ x0 5)) else (if x1 = (6 : Int32) then ((f_Ct_bit σ (σ x0 6)).bind fun v82 => some v82) else (if x1 = (7 : Int32) then (some (σ x0 7)) else (some (σ x0 8))))))))))
set_option maxRecDepth 100000 in
set_option maxHeartbeats 4000000 in
theorem t_Pa_ofItself_e {X : Xt} {S : Sh} (hS : ShOK S) {d : Nat} (hd : 1 ≤ d + 1) (σ : Mm) (x0 : Nat) (x1 : Int32) (h_x0 : tgT x0 = 3) : Rf X S (emI σ) (f_Pa_ofItself σ x0 x1) (d + 1) 41 0 [.ref x0, .int x1] [] σ := by
  unfold f_Pa_ofItself
  refine rf_ild (i := 1) (Or.inr ⟨1, rfl, rfl, rfl⟩) c_41_0 rfl ?_
  refine rf_ite (fun hs1_0 => ?_) (fun hs1_0 => ?_)
  · refine rf_tsw (o := 47) c_41_1 (by rw [hs1_0]; decide) rfl ?_
    refine rf_ald (i := 0) (Or.inr ⟨0, rfl, rfl, rfl⟩) c_41_48 rfl ?_
    refine rf_geti hS c_41_49 rfl fl_3_25 rfl h_x0 ?_
    exact rf_ret c_41_52 rfl rfl rfl rfl
  · refine rf_ite (fun hs1_1 => ?_) (fun hs1_1 => ?_)
    · refine rf_tsw (o := 52) c_41_1 (by rw [hs1_1]; decide) rfl ?_
      refine rf_ald (i := 0) (Or.inr ⟨0, rfl, rfl, rfl⟩) c_41_53 rfl ?_
      refine rf_geti hS c_41_54 rfl fl_3_28 rfl h_x0 ?_
      exact rf_ret c_41_57 rfl rfl rfl rfl
    · refine rf_ite (fun hs1_2 => ?_) (fun hs1_2 => ?_)
      · refine rf_tsw (o := 57) c_41_1 (by rw [hs1_2]; decide) rfl ?_
        refine rf_ald (i := 0) (Or.inr ⟨0, rfl, rfl, rfl⟩) c_41_58 rfl ?_
        refine rf_geti hS c_41_59 rfl fl_3_31 rfl h_x0 ?_
        exact rf_ret c_41_62 rfl rfl rfl rfl
      · refine rf_ite (fun hs1_3 => ?_) (fun hs1_3 => ?_)
        · refine rf_tsw (o := 62) c_41_1 (by rw [hs1_3]; decide) rfl ?_
          refine rf_ald (i := 0) (Or.inr ⟨0, rfl, rfl, rfl⟩) c_41_63 rfl ?_
          refine rf_geti hS c_41_64 rfl fl_3_34 rfl h_x0 ?_
          exact rf_ret c_41_67 rfl rfl rfl rfl
        · refine rf_ite (fun hs1_4 => ?_) (fun hs1_4 => ?_)
          · refine rf_tsw (o := 67) c_41_1 (by rw [hs1_4]; decide) rfl ?_
            refine rf_ald (i := 0) (Or.inr ⟨0, rfl, rfl, rfl⟩) c_41_68 rfl ?_
            refine rf_geti hS c_41_69 rfl fl_3_37 rfl h_x0 ?_
            exact rf_ret c_41_72 rfl rfl rfl rfl
          · refine rf_ite (fun hs1_5 => ?_) (fun hs1_5 => ?_)
            · refine rf_tsw (o := 72) c_41_1 (by rw [hs1_5]; decide) rfl ?_
              refine rf_ald (i := 0) (Or.inr ⟨0, rfl, rfl, rfl⟩) c_41_73 rfl ?_
              refine rf_geti hS c_41_74 rfl fl_3_10 rfl h_x0 ?_
              exact rf_ret c_41_77 rfl rfl rfl rfl
            · refine rf_ite (fun hs1_6 => ?_) (fun hs1_6 => ?_)
              · refine rf_tsw (o := 77) c_41_1 (by rw [hs1_6]; decide) rfl ?_
                refine rf_ald (i := 0) (Or.inr ⟨0, rfl, rfl, rfl⟩) c_41_78 rfl ?_
                refine rf_geti hS c_41_79 rfl fl_3_40 rfl h_x0 ?_
                refine rf_callI (as := [.int (σ x0 6)]) (kd := 0) c_41_82 rfl (by decide) rfl ml_3_67 (by decide) rfl (rcv_0 rfl) (Nat.zero_le _) rfl rfl (t_Ct_bit hS (by omega) σ (σ x0 6)) (fun v82 => ?_)
                exact rf_ret c_41_85 rfl rfl rfl rfl
              · refine rf_ite (fun hs1_7 => ?_) (fun hs1_7 => ?_)
                · refine rf_tsw (o := 85) c_41_1 (by rw [hs1_7]; decide) rfl ?_
                  refine rf_ald (i := 0) (Or.inr ⟨0, rfl, rfl, rfl⟩) c_41_86 rfl ?_
                  refine rf_geti hS c_41_87 rfl fl_3_44 rfl h_x0 ?_
                  exact rf_ret c_41_90 rfl rfl rfl rfl
                · refine rf_tsw c_41_1 (if_pos (by have e0 := lv_neT hs1_0 (a := 0) (by decide); have e1 := lv_neT hs1_1 (a := 1) (by decide); have e2 := lv_neT hs1_2 (a := 2) (by decide); have e3 := lv_neT hs1_3 (a := 3) (by decide); have e4 := lv_neT hs1_4 (a := 4) (by decide); have e5 := lv_neT hs1_5 (a := 5) (by decide); have e6 := lv_neT hs1_6 (a := 6) (by decide); have e7 := lv_neT hs1_7 (a := 7) (by decide); omega)) rfl ?_
                  refine rf_ald (i := 0) (Or.inr ⟨0, rfl, rfl, rfl⟩) c_41_91 rfl ?_
                  refine rf_geti hS c_41_92 rfl fl_3_47 rfl h_x0 ?_
                  exact rf_ret c_41_95 rfl rfl rfl rfl
theorem t_Pa_ofItself {X : Xt} {S : Sh} (hS : ShOK S) {d : Nat} (hd : 1 ≤ d) (σ : Mm) (x0 : Nat) (x1 : Int32) (h_x0 : tgT x0 = 3) : Rf X S (emI σ) (f_Pa_ofItself σ x0 x1) d 41 0 [.ref x0, .int x1] [] σ := by
  obtain ⟨d1, rfl⟩ : ∃ d1, d = d1 + 1 := ⟨d - 1, by omega⟩
  exact t_Pa_ofItself_e hS hd σ x0 x1 h_x0
theorem c_43_0 : cd 43 0 = some (.iconst (5), 1) := by decide +kernel
theorem c_43_1 : cd 43 1 = some (.aload_n 0, 1) := by decide +kernel
theorem c_43_2 : cd 43 2 = some (.getfield 37, 3) := by decide +kernel
theorem c_43_5 : cd 43 5 = some (.bipush (10), 2) := by decide +kernel
theorem c_43_7 : cd 43 7 = some (.idiv, 1) := by decide +kernel
theorem c_43_8 : cd 43 8 = some (.iadd, 1) := by decide +kernel
theorem c_43_9 : cd 43 9 = some (.istore_n 1, 1) := by decide +kernel
theorem c_43_10 : cd 43 10 = some (.aload_n 0, 1) := by decide +kernel
theorem c_43_11 : cd 43 11 = some (.getfield 25, 3) := by decide +kernel
theorem c_43_14 : cd 43 14 = some (.tableswitch (54) (1) (4) #[30, 34, 38, 44], 30) := by decide +kernel
theorem c_43_44 : cd 43 44 = some (.iload_n 1, 1) := by decide +kernel
theorem c_43_45 : cd 43 45 = some (.iconst (2), 1) := by decide +kernel
theorem c_43_46 : cd 43 46 = some (.isub, 1) := by decide +kernel
theorem c_43_47 : cd 43 47 = some (.ireturn, 1) := by decide +kernel
theorem c_43_48 : cd 43 48 = some (.iload_n 1, 1) := by decide +kernel
theorem c_43_49 : cd 43 49 = some (.iconst (1), 1) := by decide +kernel
theorem c_43_50 : cd 43 50 = some (.iadd, 1) := by decide +kernel
theorem c_43_51 : cd 43 51 = some (.ireturn, 1) := by decide +kernel
theorem c_43_52 : cd 43 52 = some (.iload_n 1, 1) := by decide +kernel
theorem c_43_53 : cd 43 53 = some (.iconst (1), 1) := by decide +kernel
theorem c_43_54 : cd 43 54 = some (.iadd, 1) := by decide +kernel
theorem c_43_55 : cd 43 55 = some (.iconst (2), 1) := by decide +kernel
theorem c_43_56 : cd 43 56 = some (.idiv, 1) := by decide +kernel
theorem c_43_57 : cd 43 57 = some (.ireturn, 1) := by decide +kernel
theorem c_43_58 : cd 43 58 = some (.iconst (0), 1) := by decide +kernel
theorem c_43_59 : cd 43 59 = some (.iload_n 1, 1) := by decide +kernel
theorem c_43_60 : cd 43 60 = some (.iconst (2), 1) := by decide +kernel
theorem c_43_61 : cd 43 61 = some (.isub, 1) := by decide +kernel
theorem c_43_62 : cd 43 62 = some (.iconst (4), 1) := by decide +kernel
theorem c_43_63 : cd 43 63 = some (.isub, 1) := by decide +kernel
theorem c_43_64 : cd 43 64 = some (.invokestatic 84, 3) := by decide +kernel
theorem c_43_67 : cd 43 67 = some (.ireturn, 1) := by decide +kernel
theorem c_43_68 : cd 43 68 = some (.iload_n 1, 1) := by decide +kernel
theorem c_43_69 : cd 43 69 = some (.ireturn, 1) := by decide +kernel
def f_Pa_reach (σ : Mm) (x0 : Nat) : Option Int32 := (if (σ x0 0) = (1 : Int32) then (some (((5 : Int32) + ((σ x0 4) / (10 : Int32))) - (2 : Int32))) else (if (σ x0 0) = (2 : Int32) then (some (((5 : Int32) + ((σ x0 4) / (10 : Int32))) + (1 : Int32))) else (if (σ x0 0) = (3 : Int32) then (some ((((5 : Int32) + ((σ x0 4) / (10 : Int32))) + (1 : Int32)) / (2 : Int32))) else (if (σ x0 0) = (4 : Int32) then (some (if (0 : Int32) < ((((5 : Int32) + ((σ x0 4) / (10 : Int32))) - (2 : Int32)) - (4 : Int32)) then ((((5 : Int32) + ((σ x0 4) / (10 : Int32))) - (2 : Int32)) - (4 : Int32)) else (0 : Int32))) else (some ((5 : Int32) + ((σ x0 4) / (10 : Int32))))))))
set_option maxRecDepth 100000 in
set_option maxHeartbeats 4000000 in
theorem t_Pa_reach {X : Xt} {S : Sh} (hS : ShOK S) {d : Nat} (hd : 6 ≤ d) (σ : Mm) (x0 : Nat) (h_x0 : tgT x0 = 3) : Rf X S (emI σ) (f_Pa_reach σ x0) d 43 0 [.ref x0, unset0] [] σ := by
  unfold f_Pa_reach
  refine rf_iconst c_43_0 ki_5 ?_
  refine rf_ald (i := 0) (Or.inr ⟨0, rfl, rfl, rfl⟩) c_43_1 rfl ?_
  refine rf_geti hS c_43_2 rfl fl_3_37 rfl h_x0 ?_
  refine rf_bipush c_43_5 kb_10 ?_
  refine rf_idiv c_43_7 (by decide) ?_
  refine rf_iadd c_43_8 ?_
  refine rf_ist (i := 1) (Or.inr ⟨1, rfl, rfl, rfl⟩) c_43_9 (Nat.le_of_ble_eq_true rfl) rfl ?_
  refine rf_ald (i := 0) (Or.inr ⟨0, rfl, rfl, rfl⟩) c_43_10 rfl ?_
  refine rf_geti hS c_43_11 rfl fl_3_25 rfl h_x0 ?_
  refine rf_ite (fun hs14_1 => ?_) (fun hs14_1 => ?_)
  · refine rf_tsw (o := 30) c_43_14 (by rw [hs14_1]; decide) rfl ?_
    refine rf_ild (i := 1) (Or.inr ⟨1, rfl, rfl, rfl⟩) c_43_44 rfl ?_
    refine rf_iconst c_43_45 ki_2 ?_
    refine rf_isub c_43_46 ?_
    exact rf_ret c_43_47 rfl rfl rfl rfl
  · refine rf_ite (fun hs14_2 => ?_) (fun hs14_2 => ?_)
    · refine rf_tsw (o := 34) c_43_14 (by rw [hs14_2]; decide) rfl ?_
      refine rf_ild (i := 1) (Or.inr ⟨1, rfl, rfl, rfl⟩) c_43_48 rfl ?_
      refine rf_iconst c_43_49 ki_1 ?_
      refine rf_iadd c_43_50 ?_
      exact rf_ret c_43_51 rfl rfl rfl rfl
    · refine rf_ite (fun hs14_3 => ?_) (fun hs14_3 => ?_)
      · refine rf_tsw (o := 38) c_43_14 (by rw [hs14_3]; decide) rfl ?_
        refine rf_ild (i := 1) (Or.inr ⟨1, rfl, rfl, rfl⟩) c_43_52 rfl ?_
        refine rf_iconst c_43_53 ki_1 ?_
        refine rf_iadd c_43_54 ?_
        refine rf_iconst c_43_55 ki_2 ?_
        refine rf_idiv c_43_56 (by decide) ?_
        exact rf_ret c_43_57 rfl rfl rfl rfl
      · refine rf_ite (fun hs14_4 => ?_) (fun hs14_4 => ?_)
        · refine rf_tsw (o := 44) c_43_14 (by rw [hs14_4]; decide) rfl ?_
          refine rf_iconst c_43_58 ki_0 ?_
          refine rf_ild (i := 1) (Or.inr ⟨1, rfl, rfl, rfl⟩) c_43_59 rfl ?_
          refine rf_iconst c_43_60 ki_2 ?_
          refine rf_isub c_43_61 ?_
          refine rf_iconst c_43_62 ki_4 ?_
          refine rf_isub c_43_63 ?_
          refine rf_max c_43_64 rfl ml_3_84 (by omega) (Nat.zero_le _) ?_
          exact rf_ret c_43_67 rfl rfl rfl rfl
        · refine rf_tsw c_43_14 (if_pos (by have e1 := lv_neT hs14_1 (a := 1) (by decide); have e2 := lv_neT hs14_2 (a := 2) (by decide); have e3 := lv_neT hs14_3 (a := 3) (by decide); have e4 := lv_neT hs14_4 (a := 4) (by decide); omega)) rfl ?_
          refine rf_ild (i := 1) (Or.inr ⟨1, rfl, rfl, rfl⟩) c_43_68 rfl ?_
          exact rf_ret c_43_69 rfl rfl rfl rfl
theorem c_44_0 : cd 44 0 = some (.sipush (300), 3) := by decide +kernel
theorem c_44_3 : cd 44 3 = some (.aload_n 0, 1) := by decide +kernel
theorem c_44_4 : cd 44 4 = some (.getfield 37, 3) := by decide +kernel
theorem c_44_7 : cd 44 7 = some (.isub, 1) := by decide +kernel
theorem c_44_8 : cd 44 8 = some (.istore_n 1, 1) := by decide +kernel
theorem c_44_9 : cd 44 9 = some (.sipush (300), 3) := by decide +kernel
theorem c_44_12 : cd 44 12 = some (.iconst (2), 1) := by decide +kernel
theorem c_44_13 : cd 44 13 = some (.aload_n 0, 1) := by decide +kernel
theorem c_44_14 : cd 44 14 = some (.getfield 37, 3) := by decide +kernel
theorem c_44_17 : cd 44 17 = some (.imul, 1) := by decide +kernel
theorem c_44_18 : cd 44 18 = some (.iadd, 1) := by decide +kernel
theorem c_44_19 : cd 44 19 = some (.istore_n 2, 1) := by decide +kernel
theorem c_44_20 : cd 44 20 = some (.aload_n 0, 1) := by decide +kernel
theorem c_44_21 : cd 44 21 = some (.getfield 25, 3) := by decide +kernel
theorem c_44_24 : cd 44 24 = some (.tableswitch (49) (1) (4) #[32, 34, 36, 45], 32) := by decide +kernel
theorem c_44_56 : cd 44 56 = some (.iload_n 1, 1) := by decide +kernel
theorem c_44_57 : cd 44 57 = some (.ireturn, 1) := by decide +kernel
theorem c_44_58 : cd 44 58 = some (.iload_n 2, 1) := by decide +kernel
theorem c_44_59 : cd 44 59 = some (.ireturn, 1) := by decide +kernel
theorem c_44_60 : cd 44 60 = some (.iconst (2), 1) := by decide +kernel
theorem c_44_61 : cd 44 61 = some (.iload_n 2, 1) := by decide +kernel
theorem c_44_62 : cd 44 62 = some (.imul, 1) := by decide +kernel
theorem c_44_63 : cd 44 63 = some (.aload_n 0, 1) := by decide +kernel
theorem c_44_64 : cd 44 64 = some (.invokevirtual 71, 3) := by decide +kernel
theorem c_44_67 : cd 44 67 = some (.isub, 1) := by decide +kernel
theorem c_44_68 : cd 44 68 = some (.ireturn, 1) := by decide +kernel
theorem c_44_69 : cd 44 69 = some (.iload_n 1, 1) := by decide +kernel
theorem c_44_70 : cd 44 70 = some (.iconst (3), 1) := by decide +kernel
theorem c_44_71 : cd 44 71 = some (.idiv, 1) := by decide +kernel
theorem c_44_72 : cd 44 72 = some (.ireturn, 1) := by decide +kernel
theorem c_44_73 : cd 44 73 = some (.sipush (300), 3) := by decide +kernel
theorem c_44_76 : cd 44 76 = some (.ireturn, 1) := by decide +kernel
def f_Pa_shuts (σ : Mm) (x0 : Nat) : Option Int32 := (if (σ x0 0) = (1 : Int32) then (some ((300 : Int32) - (σ x0 4))) else (if (σ x0 0) = (2 : Int32) then (some ((300 : Int32) + ((2 : Int32) * (σ x0 4)))) else (if (σ x0 0) = (3 : Int32) then ((f_Pa_reach σ x0).bind fun v64 => some (((2 : Int32) * ((300 : Int32) + ((2 : Int32) * (σ x0 4)))) - v64)) else (if (σ x0 0) = (4 : Int32) then (some (((300 : Int32) - (σ x0 4)) / (3 : Int32))) else (some (300 : Int32))))))
set_option maxRecDepth 100000 in
set_option maxHeartbeats 4000000 in
theorem t_Pa_shuts_e {X : Xt} {S : Sh} (hS : ShOK S) {d : Nat} (hd : 7 ≤ d + 1) (σ : Mm) (x0 : Nat) (h_x0 : tgT x0 = 3) : Rf X S (emI σ) (f_Pa_shuts σ x0) (d + 1) 44 0 [.ref x0, unset0, unset0] [] σ := by
  unfold f_Pa_shuts
  refine rf_sipush c_44_0 ks_300 ?_
  refine rf_ald (i := 0) (Or.inr ⟨0, rfl, rfl, rfl⟩) c_44_3 rfl ?_
  refine rf_geti hS c_44_4 rfl fl_3_37 rfl h_x0 ?_
  refine rf_isub c_44_7 ?_
  refine rf_ist (i := 1) (Or.inr ⟨1, rfl, rfl, rfl⟩) c_44_8 (Nat.le_of_ble_eq_true rfl) rfl ?_
  refine rf_sipush c_44_9 ks_300 ?_
  refine rf_iconst c_44_12 ki_2 ?_
  refine rf_ald (i := 0) (Or.inr ⟨0, rfl, rfl, rfl⟩) c_44_13 rfl ?_
  refine rf_geti hS c_44_14 rfl fl_3_37 rfl h_x0 ?_
  refine rf_imul c_44_17 ?_
  refine rf_iadd c_44_18 ?_
  refine rf_ist (i := 2) (Or.inr ⟨2, rfl, rfl, rfl⟩) c_44_19 (Nat.le_of_ble_eq_true rfl) rfl ?_
  refine rf_ald (i := 0) (Or.inr ⟨0, rfl, rfl, rfl⟩) c_44_20 rfl ?_
  refine rf_geti hS c_44_21 rfl fl_3_25 rfl h_x0 ?_
  refine rf_ite (fun hs24_1 => ?_) (fun hs24_1 => ?_)
  · refine rf_tsw (o := 32) c_44_24 (by rw [hs24_1]; decide) rfl ?_
    refine rf_ild (i := 1) (Or.inr ⟨1, rfl, rfl, rfl⟩) c_44_56 rfl ?_
    exact rf_ret c_44_57 rfl rfl rfl rfl
  · refine rf_ite (fun hs24_2 => ?_) (fun hs24_2 => ?_)
    · refine rf_tsw (o := 34) c_44_24 (by rw [hs24_2]; decide) rfl ?_
      refine rf_ild (i := 2) (Or.inr ⟨2, rfl, rfl, rfl⟩) c_44_58 rfl ?_
      exact rf_ret c_44_59 rfl rfl rfl rfl
    · refine rf_ite (fun hs24_3 => ?_) (fun hs24_3 => ?_)
      · refine rf_tsw (o := 36) c_44_24 (by rw [hs24_3]; decide) rfl ?_
        refine rf_iconst c_44_60 ki_2 ?_
        refine rf_ild (i := 2) (Or.inr ⟨2, rfl, rfl, rfl⟩) c_44_61 rfl ?_
        refine rf_imul c_44_62 ?_
        refine rf_ald (i := 0) (Or.inr ⟨0, rfl, rfl, rfl⟩) c_44_63 rfl ?_
        refine rf_callI (as := [.ref x0]) (kd := 1) c_44_64 rfl (by decide) rfl ml_3_71 (by decide) rfl (rcv_1 hS rfl rfl h_x0 (by decide)) (by simp [Value.category]) rfl rfl (t_Pa_reach hS (by omega) σ x0 h_x0) (fun v64 => ?_)
        refine rf_isub c_44_67 ?_
        exact rf_ret c_44_68 rfl rfl rfl rfl
      · refine rf_ite (fun hs24_4 => ?_) (fun hs24_4 => ?_)
        · refine rf_tsw (o := 45) c_44_24 (by rw [hs24_4]; decide) rfl ?_
          refine rf_ild (i := 1) (Or.inr ⟨1, rfl, rfl, rfl⟩) c_44_69 rfl ?_
          refine rf_iconst c_44_70 ki_3 ?_
          refine rf_idiv c_44_71 (by decide) ?_
          exact rf_ret c_44_72 rfl rfl rfl rfl
        · refine rf_tsw c_44_24 (if_pos (by have e1 := lv_neT hs24_1 (a := 1) (by decide); have e2 := lv_neT hs24_2 (a := 2) (by decide); have e3 := lv_neT hs24_3 (a := 3) (by decide); have e4 := lv_neT hs24_4 (a := 4) (by decide); omega)) rfl ?_
          refine rf_sipush c_44_73 ks_300 ?_
          exact rf_ret c_44_76 rfl rfl rfl rfl
theorem t_Pa_shuts {X : Xt} {S : Sh} (hS : ShOK S) {d : Nat} (hd : 7 ≤ d) (σ : Mm) (x0 : Nat) (h_x0 : tgT x0 = 3) : Rf X S (emI σ) (f_Pa_shuts σ x0) d 44 0 [.ref x0, unset0, unset0] [] σ := by
  obtain ⟨d1, rfl⟩ : ∃ d1, d = d1 + 1 := ⟨d - 1, by omega⟩
  exact t_Pa_shuts_e hS hd σ x0 h_x0
theorem c_45_0 : cd 45 0 = some (.aload_n 0, 1) := by decide +kernel
theorem c_45_1 : cd 45 1 = some (.getfield 25, 3) := by decide +kernel
theorem c_45_4 : cd 45 4 = some (.iconst (1), 1) := by decide +kernel
theorem c_45_5 : cd 45 5 = some (.if_icmp .ne (7), 3) := by decide +kernel
theorem c_45_8 : cd 45 8 = some (.iconst (0), 1) := by decide +kernel
theorem c_45_9 : cd 45 9 = some (.goto (4), 3) := by decide +kernel
theorem c_45_12 : cd 45 12 = some (.iconst (1), 1) := by decide +kernel
theorem c_45_13 : cd 45 13 = some (.ireturn, 1) := by decide +kernel
def f_Pa_binds_13 (σ : Mm) (y0 : Int32) : Option Int32 := some y0
set_option maxRecDepth 100000 in
set_option maxHeartbeats 4000000 in
theorem t_Pa_binds_13 {X : Xt} {S : Sh} (hS : ShOK S) {d : Nat} (hd : 0 ≤ d) (σ : Mm) (y0 : Int32) (u0 : Value) : Rf X S (emI σ) (f_Pa_binds_13 σ y0) d 45 13 [u0] [.int y0] σ := by
  unfold f_Pa_binds_13
  exact rf_ret c_45_13 rfl rfl rfl rfl
def f_Pa_binds (σ : Mm) (x0 : Nat) : Option Int32 := (if ¬ (σ x0 0) = (1 : Int32) then (f_Pa_binds_13 σ (1 : Int32)) else (f_Pa_binds_13 σ (0 : Int32)))
set_option maxRecDepth 100000 in
set_option maxHeartbeats 4000000 in
theorem t_Pa_binds {X : Xt} {S : Sh} (hS : ShOK S) {d : Nat} (hd : 0 ≤ d) (σ : Mm) (x0 : Nat) (h_x0 : tgT x0 = 3) : Rf X S (emI σ) (f_Pa_binds σ x0) d 45 0 [.ref x0] [] σ := by
  unfold f_Pa_binds
  refine rf_ald (i := 0) (Or.inr ⟨0, rfl, rfl, rfl⟩) c_45_0 rfl ?_
  refine rf_geti hS c_45_1 rfl fl_3_25 rfl h_x0 ?_
  refine rf_iconst c_45_4 ki_1 ?_
  refine rf_ite (fun hc5 => ?_) (fun hc5 => ?_)
  · refine rf_b2t c_45_5 rfl (decide_eq_true hc5) ?_
    refine rf_iconst c_45_12 ki_1 ?_
    exact t_Pa_binds_13 hS hd σ  (1 : Int32) (.ref x0)
  · refine rf_b2f c_45_5 rfl (decide_eq_false hc5) ?_
    refine rf_iconst c_45_8 ki_0 ?_
    refine rf_goto c_45_9 rfl ?_
    exact t_Pa_binds_13 hS hd σ  (0 : Int32) (.ref x0)
theorem c_46_0 : cd 46 0 = some (.aload_n 0, 1) := by decide +kernel
theorem c_46_1 : cd 46 1 = some (.getfield 34, 3) := by decide +kernel
theorem c_46_4 : cd 46 4 = some (.bipush (100), 2) := by decide +kernel
theorem c_46_6 : cd 46 6 = some (.idiv, 1) := by decide +kernel
theorem c_46_7 : cd 46 7 = some (.aload_n 0, 1) := by decide +kernel
theorem c_46_8 : cd 46 8 = some (.getfield 37, 3) := by decide +kernel
theorem c_46_11 : cd 46 11 = some (.iadd, 1) := by decide +kernel
theorem c_46_12 : cd 46 12 = some (.istore_n 1, 1) := by decide +kernel
theorem c_46_13 : cd 46 13 = some (.aload_n 0, 1) := by decide +kernel
theorem c_46_14 : cd 46 14 = some (.getfield 25, 3) := by decide +kernel
theorem c_46_17 : cd 46 17 = some (.lookupswitch (43) #[(3, 27), (4, 34)], 27) := by decide +kernel
theorem c_46_44 : cd 46 44 = some (.iload_n 1, 1) := by decide +kernel
theorem c_46_45 : cd 46 45 = some (.aload_n 0, 1) := by decide +kernel
theorem c_46_46 : cd 46 46 = some (.invokevirtual 75, 3) := by decide +kernel
theorem c_46_49 : cd 46 49 = some (.iadd, 1) := by decide +kernel
theorem c_46_50 : cd 46 50 = some (.ireturn, 1) := by decide +kernel
theorem c_46_51 : cd 46 51 = some (.iload_n 1, 1) := by decide +kernel
theorem c_46_52 : cd 46 52 = some (.aload_n 0, 1) := by decide +kernel
theorem c_46_53 : cd 46 53 = some (.invokevirtual 71, 3) := by decide +kernel
theorem c_46_56 : cd 46 56 = some (.iconst (2), 1) := by decide +kernel
theorem c_46_57 : cd 46 57 = some (.imul, 1) := by decide +kernel
theorem c_46_58 : cd 46 58 = some (.isub, 1) := by decide +kernel
theorem c_46_59 : cd 46 59 = some (.ireturn, 1) := by decide +kernel
theorem c_46_60 : cd 46 60 = some (.iload_n 1, 1) := by decide +kernel
theorem c_46_61 : cd 46 61 = some (.ireturn, 1) := by decide +kernel
def f_Pa_weighs (σ : Mm) (x0 : Nat) : Option Int32 := (if (σ x0 0) = (3 : Int32) then ((f_Pa_shuts σ x0).bind fun v46 => some ((((σ x0 3) / (100 : Int32)) + (σ x0 4)) + v46)) else (if (σ x0 0) = (4 : Int32) then ((f_Pa_reach σ x0).bind fun v53 => some ((((σ x0 3) / (100 : Int32)) + (σ x0 4)) - (v53 * (2 : Int32)))) else (some (((σ x0 3) / (100 : Int32)) + (σ x0 4)))))
set_option maxRecDepth 100000 in
set_option maxHeartbeats 4000000 in
theorem t_Pa_weighs_e {X : Xt} {S : Sh} (hS : ShOK S) {d : Nat} (hd : 8 ≤ d + 1) (σ : Mm) (x0 : Nat) (h_x0 : tgT x0 = 3) : Rf X S (emI σ) (f_Pa_weighs σ x0) (d + 1) 46 0 [.ref x0, unset0] [] σ := by
  unfold f_Pa_weighs
  refine rf_ald (i := 0) (Or.inr ⟨0, rfl, rfl, rfl⟩) c_46_0 rfl ?_
  refine rf_geti hS c_46_1 rfl fl_3_34 rfl h_x0 ?_
  refine rf_bipush c_46_4 kb_100 ?_
  refine rf_idiv c_46_6 (by decide) ?_
  refine rf_ald (i := 0) (Or.inr ⟨0, rfl, rfl, rfl⟩) c_46_7 rfl ?_
  refine rf_geti hS c_46_8 rfl fl_3_37 rfl h_x0 ?_
  refine rf_iadd c_46_11 ?_
  refine rf_ist (i := 1) (Or.inr ⟨1, rfl, rfl, rfl⟩) c_46_12 (Nat.le_of_ble_eq_true rfl) rfl ?_
  refine rf_ald (i := 0) (Or.inr ⟨0, rfl, rfl, rfl⟩) c_46_13 rfl ?_
  refine rf_geti hS c_46_14 rfl fl_3_25 rfl h_x0 ?_
  refine rf_ite (fun hs17_3 => ?_) (fun hs17_3 => ?_)
  · refine rf_lsw (o := 27) c_46_17 (by decide) (by rw [hs17_3]; decide) rfl ?_
    refine rf_ild (i := 1) (Or.inr ⟨1, rfl, rfl, rfl⟩) c_46_44 rfl ?_
    refine rf_ald (i := 0) (Or.inr ⟨0, rfl, rfl, rfl⟩) c_46_45 rfl ?_
    refine rf_callI (as := [.ref x0]) (kd := 1) c_46_46 rfl (by decide) rfl ml_3_75 (by decide) rfl (rcv_1 hS rfl rfl h_x0 (by decide)) (by simp [Value.category]) rfl rfl (t_Pa_shuts hS (by omega) σ x0 h_x0) (fun v46 => ?_)
    refine rf_iadd c_46_49 ?_
    exact rf_ret c_46_50 rfl rfl rfl rfl
  · refine rf_ite (fun hs17_4 => ?_) (fun hs17_4 => ?_)
    · refine rf_lsw (o := 34) c_46_17 (by decide) (by rw [hs17_4]; decide) rfl ?_
      refine rf_ild (i := 1) (Or.inr ⟨1, rfl, rfl, rfl⟩) c_46_51 rfl ?_
      refine rf_ald (i := 0) (Or.inr ⟨0, rfl, rfl, rfl⟩) c_46_52 rfl ?_
      refine rf_callI (as := [.ref x0]) (kd := 1) c_46_53 rfl (by decide) rfl ml_3_71 (by decide) rfl (rcv_1 hS rfl rfl h_x0 (by decide)) (by simp [Value.category]) rfl rfl (t_Pa_reach hS (by omega) σ x0 h_x0) (fun v53 => ?_)
      refine rf_iconst c_46_56 ki_2 ?_
      refine rf_imul c_46_57 ?_
      refine rf_isub c_46_58 ?_
      exact rf_ret c_46_59 rfl rfl rfl rfl
    · refine rf_lsw c_46_17 (by decide) (by show Op.lookupswitch.offset [(3, 27), (4, 34)] (43) _ = _; rw [lv_osw hs17_3 (by decide), lv_osw hs17_4 (by decide)]; try rfl) rfl ?_
      refine rf_ild (i := 1) (Or.inr ⟨1, rfl, rfl, rfl⟩) c_46_60 rfl ?_
      exact rf_ret c_46_61 rfl rfl rfl rfl
theorem t_Pa_weighs {X : Xt} {S : Sh} (hS : ShOK S) {d : Nat} (hd : 8 ≤ d) (σ : Mm) (x0 : Nat) (h_x0 : tgT x0 = 3) : Rf X S (emI σ) (f_Pa_weighs σ x0) d 46 0 [.ref x0, unset0] [] σ := by
  obtain ⟨d1, rfl⟩ : ∃ d1, d = d1 + 1 := ⟨d - 1, by omega⟩
  exact t_Pa_weighs_e hS hd σ x0 h_x0
theorem c_42_0 : cd 42 0 = some (.iload_n 1, 1) := by decide +kernel
theorem c_42_1 : cd 42 1 = some (.tableswitch (69) (9) (14) #[39, 44, 49, 54, 59, 64], 39) := by decide +kernel
theorem c_42_40 : cd 42 40 = some (.aload_n 0, 1) := by decide +kernel
theorem c_42_41 : cd 42 41 = some (.getfield 16, 3) := by decide +kernel
theorem c_42_44 : cd 42 44 = some (.ireturn, 1) := by decide +kernel
theorem c_42_45 : cd 42 45 = some (.aload_n 0, 1) := by decide +kernel
theorem c_42_46 : cd 42 46 = some (.getfield 19, 3) := by decide +kernel
theorem c_42_49 : cd 42 49 = some (.ireturn, 1) := by decide +kernel
theorem c_42_50 : cd 42 50 = some (.aload_n 0, 1) := by decide +kernel
theorem c_42_51 : cd 42 51 = some (.getfield 22, 3) := by decide +kernel
theorem c_42_54 : cd 42 54 = some (.ireturn, 1) := by decide +kernel
theorem c_42_55 : cd 42 55 = some (.aload_n 0, 1) := by decide +kernel
theorem c_42_56 : cd 42 56 = some (.invokevirtual 71, 3) := by decide +kernel
theorem c_42_59 : cd 42 59 = some (.ireturn, 1) := by decide +kernel
theorem c_42_60 : cd 42 60 = some (.aload_n 0, 1) := by decide +kernel
theorem c_42_61 : cd 42 61 = some (.invokevirtual 75, 3) := by decide +kernel
theorem c_42_64 : cd 42 64 = some (.ireturn, 1) := by decide +kernel
theorem c_42_65 : cd 42 65 = some (.aload_n 0, 1) := by decide +kernel
theorem c_42_66 : cd 42 66 = some (.invokevirtual 78, 3) := by decide +kernel
theorem c_42_69 : cd 42 69 = some (.ireturn, 1) := by decide +kernel
theorem c_42_70 : cd 42 70 = some (.aload_n 0, 1) := by decide +kernel
theorem c_42_71 : cd 42 71 = some (.invokevirtual 81, 3) := by decide +kernel
theorem c_42_74 : cd 42 74 = some (.ireturn, 1) := by decide +kernel
def f_Pa_ofItsCourse (σ : Mm) (x0 : Nat) (x1 : Int32) : Option Int32 := (if x1 = (9 : Int32) then (some (σ x0 9)) else (if x1 = (10 : Int32) then (some (σ x0 10)) else (if x1 = (11 : Int32) then (some (σ x0 11)) else (if x1 = (12 : Int32) then ((f_Pa_reach σ x0).bind fun v56 => some v56) else (if x1 = (13 : Int32) then ((f_Pa_shuts σ x0).bind fun v61 => some v61) else (if x1 = (14 : Int32) then ((f_Pa_binds σ x0).bind fun v66 => some v66) else ((f_Pa_weighs σ x0).bind fun v71 => some v71)))))))
set_option maxRecDepth 100000 in
set_option maxHeartbeats 4000000 in
theorem t_Pa_ofItsCourse_e {X : Xt} {S : Sh} (hS : ShOK S) {d : Nat} (hd : 9 ≤ d + 1) (σ : Mm) (x0 : Nat) (x1 : Int32) (h_x0 : tgT x0 = 3) : Rf X S (emI σ) (f_Pa_ofItsCourse σ x0 x1) (d + 1) 42 0 [.ref x0, .int x1] [] σ := by
  unfold f_Pa_ofItsCourse
  refine rf_ild (i := 1) (Or.inr ⟨1, rfl, rfl, rfl⟩) c_42_0 rfl ?_
  refine rf_ite (fun hs1_9 => ?_) (fun hs1_9 => ?_)
  · refine rf_tsw (o := 39) c_42_1 (by rw [hs1_9]; decide) rfl ?_
    refine rf_ald (i := 0) (Or.inr ⟨0, rfl, rfl, rfl⟩) c_42_40 rfl ?_
    refine rf_geti hS c_42_41 rfl fl_3_16 rfl h_x0 ?_
    exact rf_ret c_42_44 rfl rfl rfl rfl
  · refine rf_ite (fun hs1_10 => ?_) (fun hs1_10 => ?_)
    · refine rf_tsw (o := 44) c_42_1 (by rw [hs1_10]; decide) rfl ?_
      refine rf_ald (i := 0) (Or.inr ⟨0, rfl, rfl, rfl⟩) c_42_45 rfl ?_
      refine rf_geti hS c_42_46 rfl fl_3_19 rfl h_x0 ?_
      exact rf_ret c_42_49 rfl rfl rfl rfl
    · refine rf_ite (fun hs1_11 => ?_) (fun hs1_11 => ?_)
      · refine rf_tsw (o := 49) c_42_1 (by rw [hs1_11]; decide) rfl ?_
        refine rf_ald (i := 0) (Or.inr ⟨0, rfl, rfl, rfl⟩) c_42_50 rfl ?_
        refine rf_geti hS c_42_51 rfl fl_3_22 rfl h_x0 ?_
        exact rf_ret c_42_54 rfl rfl rfl rfl
      · refine rf_ite (fun hs1_12 => ?_) (fun hs1_12 => ?_)
        · refine rf_tsw (o := 54) c_42_1 (by rw [hs1_12]; decide) rfl ?_
          refine rf_ald (i := 0) (Or.inr ⟨0, rfl, rfl, rfl⟩) c_42_55 rfl ?_
          refine rf_callI (as := [.ref x0]) (kd := 1) c_42_56 rfl (by decide) rfl ml_3_71 (by decide) rfl (rcv_1 hS rfl rfl h_x0 (by decide)) (Nat.zero_le _) rfl rfl (t_Pa_reach hS (by omega) σ x0 h_x0) (fun v56 => ?_)
          exact rf_ret c_42_59 rfl rfl rfl rfl
        · refine rf_ite (fun hs1_13 => ?_) (fun hs1_13 => ?_)
          · refine rf_tsw (o := 59) c_42_1 (by rw [hs1_13]; decide) rfl ?_
            refine rf_ald (i := 0) (Or.inr ⟨0, rfl, rfl, rfl⟩) c_42_60 rfl ?_
            refine rf_callI (as := [.ref x0]) (kd := 1) c_42_61 rfl (by decide) rfl ml_3_75 (by decide) rfl (rcv_1 hS rfl rfl h_x0 (by decide)) (Nat.zero_le _) rfl rfl (t_Pa_shuts hS (by omega) σ x0 h_x0) (fun v61 => ?_)
            exact rf_ret c_42_64 rfl rfl rfl rfl
          · refine rf_ite (fun hs1_14 => ?_) (fun hs1_14 => ?_)
            · refine rf_tsw (o := 64) c_42_1 (by rw [hs1_14]; decide) rfl ?_
              refine rf_ald (i := 0) (Or.inr ⟨0, rfl, rfl, rfl⟩) c_42_65 rfl ?_
              refine rf_callI (as := [.ref x0]) (kd := 1) c_42_66 rfl (by decide) rfl ml_3_78 (by decide) rfl (rcv_1 hS rfl rfl h_x0 (by decide)) (Nat.zero_le _) rfl rfl (t_Pa_binds hS (by omega) σ x0 h_x0) (fun v66 => ?_)
              exact rf_ret c_42_69 rfl rfl rfl rfl
            · refine rf_tsw c_42_1 (if_pos (by have e9 := lv_neT hs1_9 (a := 9) (by decide); have e10 := lv_neT hs1_10 (a := 10) (by decide); have e11 := lv_neT hs1_11 (a := 11) (by decide); have e12 := lv_neT hs1_12 (a := 12) (by decide); have e13 := lv_neT hs1_13 (a := 13) (by decide); have e14 := lv_neT hs1_14 (a := 14) (by decide); omega)) rfl ?_
              refine rf_ald (i := 0) (Or.inr ⟨0, rfl, rfl, rfl⟩) c_42_70 rfl ?_
              refine rf_callI (as := [.ref x0]) (kd := 1) c_42_71 rfl (by decide) rfl ml_3_81 (by decide) rfl (rcv_1 hS rfl rfl h_x0 (by decide)) (Nat.zero_le _) rfl rfl (t_Pa_weighs hS (by omega) σ x0 h_x0) (fun v71 => ?_)
              exact rf_ret c_42_74 rfl rfl rfl rfl
theorem t_Pa_ofItsCourse {X : Xt} {S : Sh} (hS : ShOK S) {d : Nat} (hd : 9 ≤ d) (σ : Mm) (x0 : Nat) (x1 : Int32) (h_x0 : tgT x0 = 3) : Rf X S (emI σ) (f_Pa_ofItsCourse σ x0 x1) d 42 0 [.ref x0, .int x1] [] σ := by
  obtain ⟨d1, rfl⟩ : ∃ d1, d = d1 + 1 := ⟨d - 1, by omega⟩
  exact t_Pa_ofItsCourse_e hS hd σ x0 x1 h_x0
theorem c_48_0 : cd 48 0 = some (.aload_n 0, 1) := by decide +kernel
theorem c_48_1 : cd 48 1 = some (.iload_n 1, 1) := by decide +kernel
theorem c_48_2 : cd 48 2 = some (.putfield 15, 3) := by decide +kernel
theorem c_48_5 : cd 48 5 = some (.aload_n 0, 1) := by decide +kernel
theorem c_48_6 : cd 48 6 = some (.iload_n 2, 1) := by decide +kernel
theorem c_48_7 : cd 48 7 = some (.putfield 19, 3) := by decide +kernel
theorem c_48_10 : cd 48 10 = some (.iconst (0), 1) := by decide +kernel
theorem c_48_11 : cd 48 11 = some (.istore_n 3, 1) := by decide +kernel
theorem c_48_12 : cd 48 12 = some (.iload_n 3, 1) := by decide +kernel
theorem c_48_13 : cd 48 13 = some (.bipush (24), 2) := by decide +kernel
theorem c_48_15 : cd 48 15 = some (.if_icmp .ge (16), 3) := by decide +kernel
theorem c_48_18 : cd 48 18 = some (.aload_n 0, 1) := by decide +kernel
theorem c_48_19 : cd 48 19 = some (.getfield 9, 3) := by decide +kernel
theorem c_48_22 : cd 48 22 = some (.iload_n 3, 1) := by decide +kernel
theorem c_48_23 : cd 48 23 = some (.iconst (0), 1) := by decide +kernel
theorem c_48_24 : cd 48 24 = some (.iastore, 1) := by decide +kernel
theorem c_48_25 : cd 48 25 = some (.iinc 3 (1), 3) := by decide +kernel
theorem c_48_28 : cd 48 28 = some (.goto (-16), 3) := by decide +kernel
theorem c_48_31 : cd 48 31 = some (.return_, 1) := by decide +kernel
def f_Rg_begin_12 : Nat → Nat → Int32 → Mm → Option Mm
  | 0, _, _, _ => none
  | n + 1, x0, x3, σ => (if (24 : Int32) ≤ x3 then (some σ) else (if inbB x3 24 = true then nmM (up2 σ (rfT x0 0) (ix x3) (0 : Int32)) fun σ24 => f_Rg_begin_12  n x0 (x3 + (1 : Int32)) σ24 else none))
set_option maxRecDepth 100000 in
set_option maxHeartbeats 4000000 in
theorem t_Rg_begin_12 {X : Xt} {S : Sh} (hS : ShOK S) {d : Nat} (hd : 0 ≤ d) : ∀ (n : Nat) (x0 : Nat) (x3 : Int32) (u1 : Value) (u2 : Value) (σ : Mm) (h_x0 : tgT x0 = 4), Rf X S emV (f_Rg_begin_12 n x0 x3 σ) d 48 12 [.ref x0, u1, u2, .int x3] [] σ := by
  intro n
  induction n with
  | zero => intro x0 x3 u1 u2 σ h_x0; exact rf_none
  | succ n ih =>
    intro x0 x3 u1 u2 σ h_x0
    rw [f_Rg_begin_12]
    refine rf_ild (i := 3) (Or.inr ⟨3, rfl, rfl, rfl⟩) c_48_12 rfl ?_
    refine rf_bipush c_48_13 kb_24 ?_
    refine rf_ite (fun hc15 => ?_) (fun hc15 => ?_)
    · refine rf_b2t c_48_15 rfl (decide_eq_true hc15) ?_
      exact rf_vret c_48_31 rfl rfl
    · refine rf_b2f c_48_15 rfl (decide_eq_false hc15) ?_
      refine rf_ald (i := 0) (Or.inr ⟨0, rfl, rfl, rfl⟩) c_48_18 rfl ?_
      refine rf_getr hS c_48_19 rfl fl_4_9 rfl h_x0 ?_
      refine rf_ild (i := 3) (Or.inr ⟨3, rfl, rfl, rfl⟩) c_48_22 rfl ?_
      refine rf_iconst c_48_23 ki_0 ?_
      refine rf_ite (fun hb24 => ?_) (fun _ => rf_none)
      refine rf_iast hS c_48_24 (tf_4_0 h_x0) (lf_4_0 h_x0) hb24 ?_
      refine rf_nm (fun σ24 => ?_)
      refine rf_iinc c_48_25 rfl ki_1 rfl ?_
      refine rf_goto c_48_28 rfl ?_
      exact ih x0 (x3 + (1 : Int32)) (u1) (u2) σ24 h_x0
def f_Rg_begin (x0 : Nat) (x1 : Int32) (x2 : Int32) (σ : Mm) : Option Mm := nmM (up2 σ x0 1 x1) fun σ2 => nmM (up2 σ2 x0 2 x2) fun σ7 => f_Rg_begin_12  NN x0 (0 : Int32) σ7
set_option maxRecDepth 100000 in
set_option maxHeartbeats 4000000 in
theorem t_Rg_begin {X : Xt} {S : Sh} (hS : ShOK S) {d : Nat} (hd : 0 ≤ d) (x0 : Nat) (x1 : Int32) (x2 : Int32) (σ : Mm) (h_x0 : tgT x0 = 4) : Rf X S emV (f_Rg_begin x0 x1 x2 σ) d 48 0 [.ref x0, .int x1, .int x2, unset0] [] σ := by
  unfold f_Rg_begin
  refine rf_ald (i := 0) (Or.inr ⟨0, rfl, rfl, rfl⟩) c_48_0 rfl ?_
  refine rf_ild (i := 1) (Or.inr ⟨1, rfl, rfl, rfl⟩) c_48_1 rfl ?_
  refine rf_puti hS c_48_2 rfl fl_4_15 rfl rfl rfl rfl h_x0 ?_
  refine rf_nm (fun σ2 => ?_)
  refine rf_ald (i := 0) (Or.inr ⟨0, rfl, rfl, rfl⟩) c_48_5 rfl ?_
  refine rf_ild (i := 2) (Or.inr ⟨2, rfl, rfl, rfl⟩) c_48_6 rfl ?_
  refine rf_puti hS c_48_7 rfl fl_4_19 rfl rfl rfl rfl h_x0 ?_
  refine rf_nm (fun σ7 => ?_)
  refine rf_iconst c_48_10 ki_0 ?_
  refine rf_ist (i := 3) (Or.inr ⟨3, rfl, rfl, rfl⟩) c_48_11 (Nat.le_of_ble_eq_true rfl) rfl ?_
  exact t_Rg_begin_12 hS hd  NN x0 (0 : Int32) (.int x1) (.int x2) σ7 h_x0
theorem c_49_0 : cd 49 0 = some (.aload_n 0, 1) := by decide +kernel
theorem c_49_1 : cd 49 1 = some (.aload_n 1, 1) := by decide +kernel
theorem c_49_2 : cd 49 2 = some (.getfield 15, 3) := by decide +kernel
theorem c_49_5 : cd 49 5 = some (.putfield 15, 3) := by decide +kernel
theorem c_49_8 : cd 49 8 = some (.aload_n 0, 1) := by decide +kernel
theorem c_49_9 : cd 49 9 = some (.aload_n 1, 1) := by decide +kernel
theorem c_49_10 : cd 49 10 = some (.getfield 19, 3) := by decide +kernel
theorem c_49_13 : cd 49 13 = some (.putfield 19, 3) := by decide +kernel
theorem c_49_16 : cd 49 16 = some (.aload_n 1, 1) := by decide +kernel
theorem c_49_17 : cd 49 17 = some (.getfield 9, 3) := by decide +kernel
theorem c_49_20 : cd 49 20 = some (.iconst (0), 1) := by decide +kernel
theorem c_49_21 : cd 49 21 = some (.aload_n 0, 1) := by decide +kernel
theorem c_49_22 : cd 49 22 = some (.getfield 9, 3) := by decide +kernel
theorem c_49_25 : cd 49 25 = some (.iconst (0), 1) := by decide +kernel
theorem c_49_26 : cd 49 26 = some (.bipush (24), 2) := by decide +kernel
theorem c_49_28 : cd 49 28 = some (.invokestatic 22, 3) := by decide +kernel
theorem c_49_31 : cd 49 31 = some (.return_, 1) := by decide +kernel
def f_Rg_become (x0 : Nat) (x1 : Nat) (σ : Mm) : Option Mm := nmM (up2 σ x0 1 (σ x1 1)) fun σ5 => nmM (up2 σ5 x0 2 (σ5 x1 2)) fun σ13 => nmM (cp2 σ13 (rfT x1 0) (ix (0 : Int32)) (rfT x0 0) (ix (0 : Int32)) (ix (24 : Int32))) fun σ28 => some σ28
set_option maxRecDepth 100000 in
set_option maxHeartbeats 4000000 in
theorem t_Rg_become {X : Xt} {S : Sh} (hS : ShOK S) {d : Nat} (hd : 6 ≤ d) (x0 : Nat) (x1 : Nat) (σ : Mm) (h_x0 : tgT x0 = 4) (h_x1 : tgT x1 = 4) : Rf X S emV (f_Rg_become x0 x1 σ) d 49 0 [.ref x0, .ref x1] [] σ := by
  unfold f_Rg_become
  refine rf_ald (i := 0) (Or.inr ⟨0, rfl, rfl, rfl⟩) c_49_0 rfl ?_
  refine rf_ald (i := 1) (Or.inr ⟨1, rfl, rfl, rfl⟩) c_49_1 rfl ?_
  refine rf_geti hS c_49_2 rfl fl_4_15 rfl h_x1 ?_
  refine rf_puti hS c_49_5 rfl fl_4_15 rfl rfl rfl rfl h_x0 ?_
  refine rf_nm (fun σ5 => ?_)
  refine rf_ald (i := 0) (Or.inr ⟨0, rfl, rfl, rfl⟩) c_49_8 rfl ?_
  refine rf_ald (i := 1) (Or.inr ⟨1, rfl, rfl, rfl⟩) c_49_9 rfl ?_
  refine rf_geti hS c_49_10 rfl fl_4_19 rfl h_x1 ?_
  refine rf_puti hS c_49_13 rfl fl_4_19 rfl rfl rfl rfl h_x0 ?_
  refine rf_nm (fun σ13 => ?_)
  refine rf_ald (i := 1) (Or.inr ⟨1, rfl, rfl, rfl⟩) c_49_16 rfl ?_
  refine rf_getr hS c_49_17 rfl fl_4_9 rfl h_x1 ?_
  refine rf_iconst c_49_20 ki_0 ?_
  refine rf_ald (i := 0) (Or.inr ⟨0, rfl, rfl, rfl⟩) c_49_21 rfl ?_
  refine rf_getr hS c_49_22 rfl fl_4_9 rfl h_x0 ?_
  refine rf_iconst c_49_25 ki_0 ?_
  refine rf_bipush c_49_26 kb_24 ?_
  refine rf_copy hS c_49_28 rfl ml_4_22 (by omega) (Nat.zero_le _) (tf_4_0 h_x1) (tf_4_0 h_x0) (lf_4_0 h_x1) (lf_4_0 h_x0) (by decide) ?_
  refine rf_nm (fun σ28 => ?_)
  exact rf_vret c_49_31 rfl rfl
theorem c_50_0 : cd 50 0 = some (.aload_n 0, 1) := by decide +kernel
theorem c_50_1 : cd 50 1 = some (.getfield 15, 3) := by decide +kernel
theorem c_50_4 : cd 50 4 = some (.iconst (-1), 1) := by decide +kernel
theorem c_50_5 : cd 50 5 = some (.if_icmp .ne (7), 3) := by decide +kernel
theorem c_50_8 : cd 50 8 = some (.iconst (1), 1) := by decide +kernel
theorem c_50_9 : cd 50 9 = some (.goto (4), 3) := by decide +kernel
theorem c_50_12 : cd 50 12 = some (.iconst (0), 1) := by decide +kernel
theorem c_50_13 : cd 50 13 = some (.ireturn, 1) := by decide +kernel
def f_Rg_isMissing_13 (σ : Mm) (y0 : Int32) : Option Int32 := if zB y0 = true then some y0 else none
set_option maxRecDepth 100000 in
set_option maxHeartbeats 4000000 in
theorem t_Rg_isMissing_13 {X : Xt} {S : Sh} (hS : ShOK S) {d : Nat} (hd : 0 ≤ d) (σ : Mm) (y0 : Int32) (u0 : Value) : Rf X S (emI σ) (f_Rg_isMissing_13 σ y0) d 50 13 [u0] [.int y0] σ := by
  unfold f_Rg_isMissing_13
  refine rf_ite (fun hq13 => ?_) (fun _ => rf_none)
  exact rf_ret c_50_13 rfl (zB_n hq13) rfl rfl
def f_Rg_isMissing (σ : Mm) (x0 : Nat) : Option Int32 := (if ¬ (σ x0 1) = (-1 : Int32) then (f_Rg_isMissing_13 σ (0 : Int32)) else (f_Rg_isMissing_13 σ (1 : Int32)))
set_option maxRecDepth 100000 in
set_option maxHeartbeats 4000000 in
theorem t_Rg_isMissing {X : Xt} {S : Sh} (hS : ShOK S) {d : Nat} (hd : 0 ≤ d) (σ : Mm) (x0 : Nat) (h_x0 : tgT x0 = 4) : Rf X S (emI σ) (f_Rg_isMissing σ x0) d 50 0 [.ref x0] [] σ := by
  unfold f_Rg_isMissing
  refine rf_ald (i := 0) (Or.inr ⟨0, rfl, rfl, rfl⟩) c_50_0 rfl ?_
  refine rf_geti hS c_50_1 rfl fl_4_15 rfl h_x0 ?_
  refine rf_iconst c_50_4 ki_m1 ?_
  refine rf_ite (fun hc5 => ?_) (fun hc5 => ?_)
  · refine rf_b2t c_50_5 rfl (decide_eq_true hc5) ?_
    refine rf_iconst c_50_12 ki_0 ?_
    exact t_Rg_isMissing_13 hS hd σ  (0 : Int32) (.ref x0)
  · refine rf_b2f c_50_5 rfl (decide_eq_false hc5) ?_
    refine rf_iconst c_50_8 ki_1 ?_
    refine rf_goto c_50_9 rfl ?_
    exact t_Rg_isMissing_13 hS hd σ  (1 : Int32) (.ref x0)
theorem c_51_0 : cd 51 0 = some (.iload_n 1, 1) := by decide +kernel
theorem c_51_1 : cd 51 1 = some (.ifCond .lt (15), 3) := by decide +kernel
theorem c_51_4 : cd 51 4 = some (.iload_n 1, 1) := by decide +kernel
theorem c_51_5 : cd 51 5 = some (.aload_n 0, 1) := by decide +kernel
theorem c_51_6 : cd 51 6 = some (.getfield 19, 3) := by decide +kernel
theorem c_51_9 : cd 51 9 = some (.if_icmp .ge (7), 3) := by decide +kernel
theorem c_51_12 : cd 51 12 = some (.iconst (1), 1) := by decide +kernel
theorem c_51_13 : cd 51 13 = some (.goto (4), 3) := by decide +kernel
theorem c_51_16 : cd 51 16 = some (.iconst (0), 1) := by decide +kernel
theorem c_51_17 : cd 51 17 = some (.ireturn, 1) := by decide +kernel
def f_Rg_hasPlace_17 (σ : Mm) (y0 : Int32) : Option Int32 := if zB y0 = true then some y0 else none
set_option maxRecDepth 100000 in
set_option maxHeartbeats 4000000 in
theorem t_Rg_hasPlace_17 {X : Xt} {S : Sh} (hS : ShOK S) {d : Nat} (hd : 0 ≤ d) (σ : Mm) (y0 : Int32) (u0 : Value) (u1 : Value) : Rf X S (emI σ) (f_Rg_hasPlace_17 σ y0) d 51 17 [u0, u1] [.int y0] σ := by
  unfold f_Rg_hasPlace_17
  refine rf_ite (fun hq17 => ?_) (fun _ => rf_none)
  exact rf_ret c_51_17 rfl (zB_n hq17) rfl rfl
def f_Rg_hasPlace_16 (σ : Mm) : Option Int32 := f_Rg_hasPlace_17 σ (0 : Int32)
set_option maxRecDepth 100000 in
set_option maxHeartbeats 4000000 in
theorem t_Rg_hasPlace_16 {X : Xt} {S : Sh} (hS : ShOK S) {d : Nat} (hd : 0 ≤ d) (σ : Mm) (u0 : Value) (u1 : Value) : Rf X S (emI σ) (f_Rg_hasPlace_16 σ) d 51 16 [u0, u1] [] σ := by
  unfold f_Rg_hasPlace_16
  refine rf_iconst c_51_16 ki_0 ?_
  exact t_Rg_hasPlace_17 hS hd σ  (0 : Int32) (u0) (u1)
def f_Rg_hasPlace (σ : Mm) (x0 : Nat) (x1 : Int32) : Option Int32 := (if x1 < 0 then (f_Rg_hasPlace_16 σ ) else (if (σ x0 2) ≤ x1 then (f_Rg_hasPlace_16 σ ) else (f_Rg_hasPlace_17 σ (1 : Int32))))
set_option maxRecDepth 100000 in
set_option maxHeartbeats 4000000 in
theorem t_Rg_hasPlace {X : Xt} {S : Sh} (hS : ShOK S) {d : Nat} (hd : 0 ≤ d) (σ : Mm) (x0 : Nat) (x1 : Int32) (h_x0 : tgT x0 = 4) : Rf X S (emI σ) (f_Rg_hasPlace σ x0 x1) d 51 0 [.ref x0, .int x1] [] σ := by
  unfold f_Rg_hasPlace
  refine rf_ild (i := 1) (Or.inr ⟨1, rfl, rfl, rfl⟩) c_51_0 rfl ?_
  refine rf_ite (fun hc1 => ?_) (fun hc1 => ?_)
  · refine rf_b1t c_51_1 rfl (decide_eq_true hc1) ?_
    exact t_Rg_hasPlace_16 hS hd σ  (.ref x0) (.int x1)
  · refine rf_b1f c_51_1 rfl (decide_eq_false hc1) ?_
    refine rf_ild (i := 1) (Or.inr ⟨1, rfl, rfl, rfl⟩) c_51_4 rfl ?_
    refine rf_ald (i := 0) (Or.inr ⟨0, rfl, rfl, rfl⟩) c_51_5 rfl ?_
    refine rf_geti hS c_51_6 rfl fl_4_19 rfl h_x0 ?_
    refine rf_ite (fun hc9 => ?_) (fun hc9 => ?_)
    · refine rf_b2t c_51_9 rfl (decide_eq_true hc9) ?_
      exact t_Rg_hasPlace_16 hS hd σ  (.ref x0) (.int x1)
    · refine rf_b2f c_51_9 rfl (decide_eq_false hc9) ?_
      refine rf_iconst c_51_12 ki_1 ?_
      refine rf_goto c_51_13 rfl ?_
      exact t_Rg_hasPlace_17 hS hd σ  (1 : Int32) (.ref x0) (.int x1)
theorem c_52_0 : cd 52 0 = some (.iload_n 1, 1) := by decide +kernel
theorem c_52_1 : cd 52 1 = some (.ifCond .lt (29), 3) := by decide +kernel
theorem c_52_4 : cd 52 4 = some (.iload_n 2, 1) := by decide +kernel
theorem c_52_5 : cd 52 5 = some (.ifCond .lt (25), 3) := by decide +kernel
theorem c_52_8 : cd 52 8 = some (.iload_n 1, 1) := by decide +kernel
theorem c_52_9 : cd 52 9 = some (.aload_n 0, 1) := by decide +kernel
theorem c_52_10 : cd 52 10 = some (.getfield 19, 3) := by decide +kernel
theorem c_52_13 : cd 52 13 = some (.if_icmp .gt (17), 3) := by decide +kernel
theorem c_52_16 : cd 52 16 = some (.iload_n 2, 1) := by decide +kernel
theorem c_52_17 : cd 52 17 = some (.aload_n 0, 1) := by decide +kernel
theorem c_52_18 : cd 52 18 = some (.getfield 19, 3) := by decide +kernel
theorem c_52_21 : cd 52 21 = some (.iload_n 1, 1) := by decide +kernel
theorem c_52_22 : cd 52 22 = some (.isub, 1) := by decide +kernel
theorem c_52_23 : cd 52 23 = some (.if_icmp .gt (7), 3) := by decide +kernel
theorem c_52_26 : cd 52 26 = some (.iconst (1), 1) := by decide +kernel
theorem c_52_27 : cd 52 27 = some (.goto (4), 3) := by decide +kernel
theorem c_52_30 : cd 52 30 = some (.iconst (0), 1) := by decide +kernel
theorem c_52_31 : cd 52 31 = some (.ireturn, 1) := by decide +kernel
def f_Rg_hasPlaces_31 (σ : Mm) (y0 : Int32) : Option Int32 := if zB y0 = true then some y0 else none
set_option maxRecDepth 100000 in
set_option maxHeartbeats 4000000 in
theorem t_Rg_hasPlaces_31 {X : Xt} {S : Sh} (hS : ShOK S) {d : Nat} (hd : 0 ≤ d) (σ : Mm) (y0 : Int32) (u0 : Value) (u1 : Value) (u2 : Value) : Rf X S (emI σ) (f_Rg_hasPlaces_31 σ y0) d 52 31 [u0, u1, u2] [.int y0] σ := by
  unfold f_Rg_hasPlaces_31
  refine rf_ite (fun hq31 => ?_) (fun _ => rf_none)
  exact rf_ret c_52_31 rfl (zB_n hq31) rfl rfl
def f_Rg_hasPlaces_30 (σ : Mm) : Option Int32 := f_Rg_hasPlaces_31 σ (0 : Int32)
set_option maxRecDepth 100000 in
set_option maxHeartbeats 4000000 in
theorem t_Rg_hasPlaces_30 {X : Xt} {S : Sh} (hS : ShOK S) {d : Nat} (hd : 0 ≤ d) (σ : Mm) (u0 : Value) (u1 : Value) (u2 : Value) : Rf X S (emI σ) (f_Rg_hasPlaces_30 σ) d 52 30 [u0, u1, u2] [] σ := by
  unfold f_Rg_hasPlaces_30
  refine rf_iconst c_52_30 ki_0 ?_
  exact t_Rg_hasPlaces_31 hS hd σ  (0 : Int32) (u0) (u1) (u2)
def f_Rg_hasPlaces (σ : Mm) (x0 : Nat) (x1 : Int32) (x2 : Int32) : Option Int32 := (if x1 < 0 then (f_Rg_hasPlaces_30 σ ) else (if x2 < 0 then (f_Rg_hasPlaces_30 σ ) else (if (σ x0 2) < x1 then (f_Rg_hasPlaces_30 σ ) else (if ((σ x0 2) - x1) < x2 then (f_Rg_hasPlaces_30 σ ) else (f_Rg_hasPlaces_31 σ (1 : Int32))))))
set_option maxRecDepth 100000 in
set_option maxHeartbeats 4000000 in
theorem t_Rg_hasPlaces {X : Xt} {S : Sh} (hS : ShOK S) {d : Nat} (hd : 0 ≤ d) (σ : Mm) (x0 : Nat) (x1 : Int32) (x2 : Int32) (h_x0 : tgT x0 = 4) : Rf X S (emI σ) (f_Rg_hasPlaces σ x0 x1 x2) d 52 0 [.ref x0, .int x1, .int x2] [] σ := by
  unfold f_Rg_hasPlaces
  refine rf_ild (i := 1) (Or.inr ⟨1, rfl, rfl, rfl⟩) c_52_0 rfl ?_
  refine rf_ite (fun hc1 => ?_) (fun hc1 => ?_)
  · refine rf_b1t c_52_1 rfl (decide_eq_true hc1) ?_
    exact t_Rg_hasPlaces_30 hS hd σ  (.ref x0) (.int x1) (.int x2)
  · refine rf_b1f c_52_1 rfl (decide_eq_false hc1) ?_
    refine rf_ild (i := 2) (Or.inr ⟨2, rfl, rfl, rfl⟩) c_52_4 rfl ?_
    refine rf_ite (fun hc5 => ?_) (fun hc5 => ?_)
    · refine rf_b1t c_52_5 rfl (decide_eq_true hc5) ?_
      exact t_Rg_hasPlaces_30 hS hd σ  (.ref x0) (.int x1) (.int x2)
    · refine rf_b1f c_52_5 rfl (decide_eq_false hc5) ?_
      refine rf_ild (i := 1) (Or.inr ⟨1, rfl, rfl, rfl⟩) c_52_8 rfl ?_
      refine rf_ald (i := 0) (Or.inr ⟨0, rfl, rfl, rfl⟩) c_52_9 rfl ?_
      refine rf_geti hS c_52_10 rfl fl_4_19 rfl h_x0 ?_
      refine rf_ite (fun hc13 => ?_) (fun hc13 => ?_)
      · refine rf_b2t c_52_13 rfl (decide_eq_true hc13) ?_
        exact t_Rg_hasPlaces_30 hS hd σ  (.ref x0) (.int x1) (.int x2)
      · refine rf_b2f c_52_13 rfl (decide_eq_false hc13) ?_
        refine rf_ild (i := 2) (Or.inr ⟨2, rfl, rfl, rfl⟩) c_52_16 rfl ?_
        refine rf_ald (i := 0) (Or.inr ⟨0, rfl, rfl, rfl⟩) c_52_17 rfl ?_
        refine rf_geti hS c_52_18 rfl fl_4_19 rfl h_x0 ?_
        refine rf_ild (i := 1) (Or.inr ⟨1, rfl, rfl, rfl⟩) c_52_21 rfl ?_
        refine rf_isub c_52_22 ?_
        refine rf_ite (fun hc23 => ?_) (fun hc23 => ?_)
        · refine rf_b2t c_52_23 rfl (decide_eq_true hc23) ?_
          exact t_Rg_hasPlaces_30 hS hd σ  (.ref x0) (.int x1) (.int x2)
        · refine rf_b2f c_52_23 rfl (decide_eq_false hc23) ?_
          refine rf_iconst c_52_26 ki_1 ?_
          refine rf_goto c_52_27 rfl ?_
          exact t_Rg_hasPlaces_31 hS hd σ  (1 : Int32) (.ref x0) (.int x1) (.int x2)
theorem c_53_0 : cd 53 0 = some (.aload_n 0, 1) := by decide +kernel
theorem c_53_1 : cd 53 1 = some (.getfield 9, 3) := by decide +kernel
theorem c_53_4 : cd 53 4 = some (.iload_n 1, 1) := by decide +kernel
theorem c_53_5 : cd 53 5 = some (.iaload, 1) := by decide +kernel
theorem c_53_6 : cd 53 6 = some (.istore_n 3, 1) := by decide +kernel
theorem c_53_7 : cd 53 7 = some (.aload_n 0, 1) := by decide +kernel
theorem c_53_8 : cd 53 8 = some (.getfield 9, 3) := by decide +kernel
theorem c_53_11 : cd 53 11 = some (.iload_n 1, 1) := by decide +kernel
theorem c_53_12 : cd 53 12 = some (.aload_n 0, 1) := by decide +kernel
theorem c_53_13 : cd 53 13 = some (.getfield 15, 3) := by decide +kernel
theorem c_53_16 : cd 53 16 = some (.ifCond .ne (8), 3) := by decide +kernel
theorem c_53_19 : cd 53 19 = some (.iload_n 2, 1) := by decide +kernel
theorem c_53_20 : cd 53 20 = some (.i2b, 1) := by decide +kernel
theorem c_53_21 : cd 53 21 = some (.goto (5), 3) := by decide +kernel
theorem c_53_24 : cd 53 24 = some (.iload_n 2, 1) := by decide +kernel
theorem c_53_25 : cd 53 25 = some (.i2s, 1) := by decide +kernel
theorem c_53_26 : cd 53 26 = some (.iastore, 1) := by decide +kernel
theorem c_53_27 : cd 53 27 = some (.iload_n 3, 1) := by decide +kernel
theorem c_53_28 : cd 53 28 = some (.ireturn, 1) := by decide +kernel
def f_Rg_put_26 (x3 : Int32) (y0 : Nat) (y1 : Int32) (y2 : Int32) (σ : Mm) : Option (Int32 × Mm) := if inbB y1 24 = true then nmM (up2 σ y0 (ix y1) y2) fun σ26 => some (x3, σ26) else none
set_option maxRecDepth 100000 in
set_option maxHeartbeats 4000000 in
theorem t_Rg_put_26 {X : Xt} {S : Sh} (hS : ShOK S) {d : Nat} (hd : 0 ≤ d) (x3 : Int32) (y0 : Nat) (y1 : Int32) (y2 : Int32) (u0 : Value) (u1 : Value) (u2 : Value) (σ : Mm) (h_y0 : tgT y0 = 20) (l_y0 : lnT y0 = 24) : Rf X S emM (f_Rg_put_26 x3 y0 y1 y2 σ) d 53 26 [u0, u1, u2, .int x3] [.int y2, .int y1, .ref y0] σ := by
  unfold f_Rg_put_26
  refine rf_ite (fun hb26 => ?_) (fun _ => rf_none)
  refine rf_iast hS c_53_26 h_y0 l_y0 hb26 ?_
  refine rf_nm (fun σ26 => ?_)
  refine rf_ild (i := 3) (Or.inr ⟨3, rfl, rfl, rfl⟩) c_53_27 rfl ?_
  exact rf_ret c_53_28 rfl rfl rfl rfl
def f_Rg_put (x0 : Nat) (x1 : Int32) (x2 : Int32) (σ : Mm) : Option (Int32 × Mm) := if inbB x1 24 = true then (if ¬ (σ x0 1) = 0 then (f_Rg_put_26  (σ (rfT x0 0) (ix x1)) (rfT x0 0) x1 (x2.toInt16.toInt32) σ) else (f_Rg_put_26  (σ (rfT x0 0) (ix x1)) (rfT x0 0) x1 (x2.toInt8.toInt32) σ)) else none
set_option maxRecDepth 100000 in
set_option maxHeartbeats 4000000 in
theorem t_Rg_put {X : Xt} {S : Sh} (hS : ShOK S) {d : Nat} (hd : 0 ≤ d) (x0 : Nat) (x1 : Int32) (x2 : Int32) (σ : Mm) (h_x0 : tgT x0 = 4) : Rf X S emM (f_Rg_put x0 x1 x2 σ) d 53 0 [.ref x0, .int x1, .int x2, unset0] [] σ := by
  unfold f_Rg_put
  refine rf_ald (i := 0) (Or.inr ⟨0, rfl, rfl, rfl⟩) c_53_0 rfl ?_
  refine rf_getr hS c_53_1 rfl fl_4_9 rfl h_x0 ?_
  refine rf_ild (i := 1) (Or.inr ⟨1, rfl, rfl, rfl⟩) c_53_4 rfl ?_
  refine rf_ite (fun hb5 => ?_) (fun _ => rf_none)
  refine rf_iald hS c_53_5 (tf_4_0 h_x0) (lf_4_0 h_x0) hb5 ?_
  refine rf_ist (i := 3) (Or.inr ⟨3, rfl, rfl, rfl⟩) c_53_6 (Nat.le_of_ble_eq_true rfl) rfl ?_
  refine rf_ald (i := 0) (Or.inr ⟨0, rfl, rfl, rfl⟩) c_53_7 rfl ?_
  refine rf_getr hS c_53_8 rfl fl_4_9 rfl h_x0 ?_
  refine rf_ild (i := 1) (Or.inr ⟨1, rfl, rfl, rfl⟩) c_53_11 rfl ?_
  refine rf_ald (i := 0) (Or.inr ⟨0, rfl, rfl, rfl⟩) c_53_12 rfl ?_
  refine rf_geti hS c_53_13 rfl fl_4_15 rfl h_x0 ?_
  refine rf_ite (fun hc16 => ?_) (fun hc16 => ?_)
  · refine rf_b1t c_53_16 rfl (decide_eq_true hc16) ?_
    refine rf_ild (i := 2) (Or.inr ⟨2, rfl, rfl, rfl⟩) c_53_24 rfl ?_
    refine rf_i2s c_53_25 ?_
    exact t_Rg_put_26 hS hd  (σ (rfT x0 0) (ix x1)) (rfT x0 0) x1 (x2.toInt16.toInt32) (.ref x0) (.int x1) (.int x2) σ (tf_4_0 h_x0) (lf_4_0 h_x0)
  · refine rf_b1f c_53_16 rfl (decide_eq_false hc16) ?_
    refine rf_ild (i := 2) (Or.inr ⟨2, rfl, rfl, rfl⟩) c_53_19 rfl ?_
    refine rf_i2b c_53_20 ?_
    refine rf_goto c_53_21 rfl ?_
    exact t_Rg_put_26 hS hd  (σ (rfT x0 0) (ix x1)) (rfT x0 0) x1 (x2.toInt8.toInt32) (.ref x0) (.int x1) (.int x2) σ (tf_4_0 h_x0) (lf_4_0 h_x0)
theorem c_55_0 : cd 55 0 = some (.aload_n 0, 1) := by decide +kernel
theorem c_55_1 : cd 55 1 = some (.aload_n 1, 1) := by decide +kernel
theorem c_55_2 : cd 55 2 = some (.getfield 15, 3) := by decide +kernel
theorem c_55_5 : cd 55 5 = some (.putfield 15, 3) := by decide +kernel
theorem c_55_8 : cd 55 8 = some (.aload_n 0, 1) := by decide +kernel
theorem c_55_9 : cd 55 9 = some (.aload_n 1, 1) := by decide +kernel
theorem c_55_10 : cd 55 10 = some (.getfield 19, 3) := by decide +kernel
theorem c_55_13 : cd 55 13 = some (.putfield 19, 3) := by decide +kernel
theorem c_55_16 : cd 55 16 = some (.aload_n 0, 1) := by decide +kernel
theorem c_55_17 : cd 55 17 = some (.aload_n 1, 1) := by decide +kernel
theorem c_55_18 : cd 55 18 = some (.getfield 22, 3) := by decide +kernel
theorem c_55_21 : cd 55 21 = some (.putfield 22, 3) := by decide +kernel
theorem c_55_24 : cd 55 24 = some (.aload_n 0, 1) := by decide +kernel
theorem c_55_25 : cd 55 25 = some (.aload_n 1, 1) := by decide +kernel
theorem c_55_26 : cd 55 26 = some (.getfield 25, 3) := by decide +kernel
theorem c_55_29 : cd 55 29 = some (.putfield 25, 3) := by decide +kernel
theorem c_55_32 : cd 55 32 = some (.aload_n 0, 1) := by decide +kernel
theorem c_55_33 : cd 55 33 = some (.aload_n 1, 1) := by decide +kernel
theorem c_55_34 : cd 55 34 = some (.getfield 28, 3) := by decide +kernel
theorem c_55_37 : cd 55 37 = some (.putfield 28, 3) := by decide +kernel
theorem c_55_40 : cd 55 40 = some (.aload_n 0, 1) := by decide +kernel
theorem c_55_41 : cd 55 41 = some (.aload_n 1, 1) := by decide +kernel
theorem c_55_42 : cd 55 42 = some (.getfield 31, 3) := by decide +kernel
theorem c_55_45 : cd 55 45 = some (.putfield 31, 3) := by decide +kernel
theorem c_55_48 : cd 55 48 = some (.aload_n 0, 1) := by decide +kernel
theorem c_55_49 : cd 55 49 = some (.aload_n 1, 1) := by decide +kernel
theorem c_55_50 : cd 55 50 = some (.getfield 34, 3) := by decide +kernel
theorem c_55_53 : cd 55 53 = some (.putfield 34, 3) := by decide +kernel
theorem c_55_56 : cd 55 56 = some (.aload_n 1, 1) := by decide +kernel
theorem c_55_57 : cd 55 57 = some (.getfield 9, 3) := by decide +kernel
theorem c_55_60 : cd 55 60 = some (.iconst (0), 1) := by decide +kernel
theorem c_55_61 : cd 55 61 = some (.aload_n 0, 1) := by decide +kernel
theorem c_55_62 : cd 55 62 = some (.getfield 9, 3) := by decide +kernel
theorem c_55_65 : cd 55 65 = some (.iconst (0), 1) := by decide +kernel
theorem c_55_66 : cd 55 66 = some (.bipush (96), 2) := by decide +kernel
theorem c_55_68 : cd 55 68 = some (.invokestatic 37, 3) := by decide +kernel
theorem c_55_71 : cd 55 71 = some (.return_, 1) := by decide +kernel
def f_Ru_become (x0 : Nat) (x1 : Nat) (σ : Mm) : Option Mm := nmM (up2 σ x0 0 (σ x1 0)) fun σ5 => nmM (up2 σ5 x0 1 (σ5 x1 1)) fun σ13 => nmM (up2 σ13 x0 2 (σ13 x1 2)) fun σ21 => nmM (up2 σ21 x0 3 (σ21 x1 3)) fun σ29 => nmM (up2 σ29 x0 4 (σ29 x1 4)) fun σ37 => nmM (up2 σ37 x0 5 (σ37 x1 5)) fun σ45 => nmM (up2 σ45 x0 6 (σ45 x1 6)) fun σ53 => nmM (cp2 σ53 (rfT x1 7) (ix (0 : Int32)) (rfT x0 7) (ix (0 : Int32)) (ix (96 : Int32))) fun σ68 => some σ68
set_option maxRecDepth 100000 in
set_option maxHeartbeats 4000000 in
theorem t_Ru_become {X : Xt} {S : Sh} (hS : ShOK S) {d : Nat} (hd : 6 ≤ d) (x0 : Nat) (x1 : Nat) (σ : Mm) (h_x0 : tgT x0 = 5) (h_x1 : tgT x1 = 5) : Rf X S emV (f_Ru_become x0 x1 σ) d 55 0 [.ref x0, .ref x1] [] σ := by
  unfold f_Ru_become
  refine rf_ald (i := 0) (Or.inr ⟨0, rfl, rfl, rfl⟩) c_55_0 rfl ?_
  refine rf_ald (i := 1) (Or.inr ⟨1, rfl, rfl, rfl⟩) c_55_1 rfl ?_
  refine rf_geti hS c_55_2 rfl fl_5_15 rfl h_x1 ?_
  refine rf_puti hS c_55_5 rfl fl_5_15 rfl rfl rfl rfl h_x0 ?_
  refine rf_nm (fun σ5 => ?_)
  refine rf_ald (i := 0) (Or.inr ⟨0, rfl, rfl, rfl⟩) c_55_8 rfl ?_
  refine rf_ald (i := 1) (Or.inr ⟨1, rfl, rfl, rfl⟩) c_55_9 rfl ?_
  refine rf_geti hS c_55_10 rfl fl_5_19 rfl h_x1 ?_
  refine rf_puti hS c_55_13 rfl fl_5_19 rfl rfl rfl rfl h_x0 ?_
  refine rf_nm (fun σ13 => ?_)
  refine rf_ald (i := 0) (Or.inr ⟨0, rfl, rfl, rfl⟩) c_55_16 rfl ?_
  refine rf_ald (i := 1) (Or.inr ⟨1, rfl, rfl, rfl⟩) c_55_17 rfl ?_
  refine rf_geti hS c_55_18 rfl fl_5_22 rfl h_x1 ?_
  refine rf_puti hS c_55_21 rfl fl_5_22 rfl rfl rfl rfl h_x0 ?_
  refine rf_nm (fun σ21 => ?_)
  refine rf_ald (i := 0) (Or.inr ⟨0, rfl, rfl, rfl⟩) c_55_24 rfl ?_
  refine rf_ald (i := 1) (Or.inr ⟨1, rfl, rfl, rfl⟩) c_55_25 rfl ?_
  refine rf_geti hS c_55_26 rfl fl_5_25 rfl h_x1 ?_
  refine rf_puti hS c_55_29 rfl fl_5_25 rfl rfl rfl rfl h_x0 ?_
  refine rf_nm (fun σ29 => ?_)
  refine rf_ald (i := 0) (Or.inr ⟨0, rfl, rfl, rfl⟩) c_55_32 rfl ?_
  refine rf_ald (i := 1) (Or.inr ⟨1, rfl, rfl, rfl⟩) c_55_33 rfl ?_
  refine rf_geti hS c_55_34 rfl fl_5_28 rfl h_x1 ?_
  refine rf_puti hS c_55_37 rfl fl_5_28 rfl rfl rfl rfl h_x0 ?_
  refine rf_nm (fun σ37 => ?_)
  refine rf_ald (i := 0) (Or.inr ⟨0, rfl, rfl, rfl⟩) c_55_40 rfl ?_
  refine rf_ald (i := 1) (Or.inr ⟨1, rfl, rfl, rfl⟩) c_55_41 rfl ?_
  refine rf_geti hS c_55_42 rfl fl_5_31 rfl h_x1 ?_
  refine rf_puti hS c_55_45 rfl fl_5_31 rfl rfl rfl rfl h_x0 ?_
  refine rf_nm (fun σ45 => ?_)
  refine rf_ald (i := 0) (Or.inr ⟨0, rfl, rfl, rfl⟩) c_55_48 rfl ?_
  refine rf_ald (i := 1) (Or.inr ⟨1, rfl, rfl, rfl⟩) c_55_49 rfl ?_
  refine rf_geti hS c_55_50 rfl fl_5_34 rfl h_x1 ?_
  refine rf_puti hS c_55_53 rfl fl_5_34 rfl rfl rfl rfl h_x0 ?_
  refine rf_nm (fun σ53 => ?_)
  refine rf_ald (i := 1) (Or.inr ⟨1, rfl, rfl, rfl⟩) c_55_56 rfl ?_
  refine rf_getr hS c_55_57 rfl fl_5_9 rfl h_x1 ?_
  refine rf_iconst c_55_60 ki_0 ?_
  refine rf_ald (i := 0) (Or.inr ⟨0, rfl, rfl, rfl⟩) c_55_61 rfl ?_
  refine rf_getr hS c_55_62 rfl fl_5_9 rfl h_x0 ?_
  refine rf_iconst c_55_65 ki_0 ?_
  refine rf_bipush c_55_66 kb_96 ?_
  refine rf_copy hS c_55_68 rfl ml_5_37 (by omega) (Nat.zero_le _) (tf_5_7 h_x1) (tf_5_7 h_x0) (lf_5_7 h_x1) (lf_5_7 h_x0) (by decide) ?_
  refine rf_nm (fun σ68 => ?_)
  exact rf_vret c_55_71 rfl rfl
theorem c_56_0 : cd 56 0 = some (.aload_n 0, 1) := by decide +kernel
theorem c_56_1 : cd 56 1 = some (.iconst (0), 1) := by decide +kernel
theorem c_56_2 : cd 56 2 = some (.putfield 15, 3) := by decide +kernel
theorem c_56_5 : cd 56 5 = some (.aload_n 0, 1) := by decide +kernel
theorem c_56_6 : cd 56 6 = some (.iconst (0), 1) := by decide +kernel
theorem c_56_7 : cd 56 7 = some (.putfield 19, 3) := by decide +kernel
theorem c_56_10 : cd 56 10 = some (.aload_n 0, 1) := by decide +kernel
theorem c_56_11 : cd 56 11 = some (.ldc 43, 2) := by decide +kernel
theorem c_56_13 : cd 56 13 = some (.putfield 22, 3) := by decide +kernel
theorem c_56_16 : cd 56 16 = some (.aload_n 0, 1) := by decide +kernel
theorem c_56_17 : cd 56 17 = some (.iconst (0), 1) := by decide +kernel
theorem c_56_18 : cd 56 18 = some (.putfield 25, 3) := by decide +kernel
theorem c_56_21 : cd 56 21 = some (.aload_n 0, 1) := by decide +kernel
theorem c_56_22 : cd 56 22 = some (.iconst (0), 1) := by decide +kernel
theorem c_56_23 : cd 56 23 = some (.putfield 28, 3) := by decide +kernel
theorem c_56_26 : cd 56 26 = some (.aload_n 0, 1) := by decide +kernel
theorem c_56_27 : cd 56 27 = some (.iconst (0), 1) := by decide +kernel
theorem c_56_28 : cd 56 28 = some (.putfield 31, 3) := by decide +kernel
theorem c_56_31 : cd 56 31 = some (.aload_n 0, 1) := by decide +kernel
theorem c_56_32 : cd 56 32 = some (.iconst (0), 1) := by decide +kernel
theorem c_56_33 : cd 56 33 = some (.putfield 34, 3) := by decide +kernel
theorem c_56_36 : cd 56 36 = some (.return_, 1) := by decide +kernel
def f_Ru_clear (x0 : Nat) (σ : Mm) : Option Mm := nmM (up2 σ x0 0 (0 : Int32)) fun σ2 => nmM (up2 σ2 x0 1 (0 : Int32)) fun σ7 => nmM (up2 σ7 x0 2 (-1000000005 : Int32)) fun σ13 => nmM (up2 σ13 x0 3 (0 : Int32)) fun σ18 => nmM (up2 σ18 x0 4 (0 : Int32)) fun σ23 => nmM (up2 σ23 x0 5 (0 : Int32)) fun σ28 => nmM (up2 σ28 x0 6 (0 : Int32)) fun σ33 => some σ33
set_option maxRecDepth 100000 in
set_option maxHeartbeats 4000000 in
theorem t_Ru_clear {X : Xt} {S : Sh} (hS : ShOK S) {d : Nat} (hd : 0 ≤ d) (x0 : Nat) (σ : Mm) (h_x0 : tgT x0 = 5) : Rf X S emV (f_Ru_clear x0 σ) d 56 0 [.ref x0] [] σ := by
  unfold f_Ru_clear
  refine rf_ald (i := 0) (Or.inr ⟨0, rfl, rfl, rfl⟩) c_56_0 rfl ?_
  refine rf_iconst c_56_1 ki_0 ?_
  refine rf_puti hS c_56_2 rfl fl_5_15 rfl rfl rfl rfl h_x0 ?_
  refine rf_nm (fun σ2 => ?_)
  refine rf_ald (i := 0) (Or.inr ⟨0, rfl, rfl, rfl⟩) c_56_5 rfl ?_
  refine rf_iconst c_56_6 ki_0 ?_
  refine rf_puti hS c_56_7 rfl fl_5_19 rfl rfl rfl rfl h_x0 ?_
  refine rf_nm (fun σ7 => ?_)
  refine rf_ald (i := 0) (Or.inr ⟨0, rfl, rfl, rfl⟩) c_56_10 rfl ?_
  refine rf_ldc (Or.inl ⟨rfl, rfl⟩) c_56_11 rfl kl_5_43 ?_
  refine rf_puti hS c_56_13 rfl fl_5_22 rfl rfl rfl rfl h_x0 ?_
  refine rf_nm (fun σ13 => ?_)
  refine rf_ald (i := 0) (Or.inr ⟨0, rfl, rfl, rfl⟩) c_56_16 rfl ?_
  refine rf_iconst c_56_17 ki_0 ?_
  refine rf_puti hS c_56_18 rfl fl_5_25 rfl rfl rfl rfl h_x0 ?_
  refine rf_nm (fun σ18 => ?_)
  refine rf_ald (i := 0) (Or.inr ⟨0, rfl, rfl, rfl⟩) c_56_21 rfl ?_
  refine rf_iconst c_56_22 ki_0 ?_
  refine rf_puti hS c_56_23 rfl fl_5_28 rfl rfl rfl rfl h_x0 ?_
  refine rf_nm (fun σ23 => ?_)
  refine rf_ald (i := 0) (Or.inr ⟨0, rfl, rfl, rfl⟩) c_56_26 rfl ?_
  refine rf_iconst c_56_27 ki_0 ?_
  refine rf_puti hS c_56_28 rfl fl_5_31 rfl rfl rfl rfl h_x0 ?_
  refine rf_nm (fun σ28 => ?_)
  refine rf_ald (i := 0) (Or.inr ⟨0, rfl, rfl, rfl⟩) c_56_31 rfl ?_
  refine rf_iconst c_56_32 ki_0 ?_
  refine rf_puti hS c_56_33 rfl fl_5_34 rfl rfl rfl rfl h_x0 ?_
  refine rf_nm (fun σ33 => ?_)
  exact rf_vret c_56_36 rfl rfl
theorem c_57_0 : cd 57 0 = some (.aload_n 0, 1) := by decide +kernel
theorem c_57_1 : cd 57 1 = some (.getfield 34, 3) := by decide +kernel
theorem c_57_4 : cd 57 4 = some (.bipush (96), 2) := by decide +kernel
theorem c_57_6 : cd 57 6 = some (.if_icmp .ge (44), 3) := by decide +kernel
theorem c_57_9 : cd 57 9 = some (.aload_n 0, 1) := by decide +kernel
theorem c_57_10 : cd 57 10 = some (.getfield 9, 3) := by decide +kernel
theorem c_57_13 : cd 57 13 = some (.aload_n 0, 1) := by decide +kernel
theorem c_57_14 : cd 57 14 = some (.getfield 34, 3) := by decide +kernel
theorem c_57_17 : cd 57 17 = some (.iload_n 1, 1) := by decide +kernel
theorem c_57_18 : cd 57 18 = some (.ldc 44, 2) := by decide +kernel
theorem c_57_20 : cd 57 20 = some (.imul, 1) := by decide +kernel
theorem c_57_21 : cd 57 21 = some (.iload_n 2, 1) := by decide +kernel
theorem c_57_22 : cd 57 22 = some (.iadd, 1) := by decide +kernel
theorem c_57_23 : cd 57 23 = some (.iastore, 1) := by decide +kernel
theorem c_57_24 : cd 57 24 = some (.aload_n 0, 1) := by decide +kernel
theorem c_57_25 : cd 57 25 = some (.dup, 1) := by decide +kernel
theorem c_57_26 : cd 57 26 = some (.getfield 34, 3) := by decide +kernel
theorem c_57_29 : cd 57 29 = some (.iconst (1), 1) := by decide +kernel
theorem c_57_30 : cd 57 30 = some (.iadd, 1) := by decide +kernel
theorem c_57_31 : cd 57 31 = some (.putfield 34, 3) := by decide +kernel
theorem c_57_34 : cd 57 34 = some (.iload_n 1, 1) := by decide +kernel
theorem c_57_35 : cd 57 35 = some (.bipush (9), 2) := by decide +kernel
theorem c_57_37 : cd 57 37 = some (.if_icmp .ge (13), 3) := by decide +kernel
theorem c_57_40 : cd 57 40 = some (.aload_n 0, 1) := by decide +kernel
theorem c_57_41 : cd 57 41 = some (.dup, 1) := by decide +kernel
theorem c_57_42 : cd 57 42 = some (.getfield 28, 3) := by decide +kernel
theorem c_57_45 : cd 57 45 = some (.iconst (1), 1) := by decide +kernel
theorem c_57_46 : cd 57 46 = some (.iadd, 1) := by decide +kernel
theorem c_57_47 : cd 57 47 = some (.putfield 28, 3) := by decide +kernel
theorem c_57_50 : cd 57 50 = some (.return_, 1) := by decide +kernel
def f_Ru_addStep_50 (σ : Mm) : Option Mm := some σ
set_option maxRecDepth 100000 in
set_option maxHeartbeats 4000000 in
theorem t_Ru_addStep_50 {X : Xt} {S : Sh} (hS : ShOK S) {d : Nat} (hd : 0 ≤ d) (u0 : Value) (u1 : Value) (u2 : Value) (σ : Mm) : Rf X S emV (f_Ru_addStep_50 σ) d 57 50 [u0, u1, u2] [] σ := by
  unfold f_Ru_addStep_50
  exact rf_vret c_57_50 rfl rfl
def f_Ru_addStep (x0 : Nat) (x1 : Int32) (x2 : Int32) (σ : Mm) : Option Mm := (if (96 : Int32) ≤ (σ x0 6) then (f_Ru_addStep_50  σ) else (if inbB (σ x0 6) 96 = true then nmM (up2 σ (rfT x0 7) (ix (σ x0 6)) ((x1 * (100000 : Int32)) + x2)) fun σ23 => nmM (up2 σ23 x0 6 ((σ23 x0 6) + (1 : Int32))) fun σ31 => (if (9 : Int32) ≤ x1 then (f_Ru_addStep_50  σ31) else (nmM (up2 σ31 x0 4 ((σ31 x0 4) + (1 : Int32))) fun σ47 => f_Ru_addStep_50  σ47)) else none))
set_option maxRecDepth 100000 in
set_option maxHeartbeats 4000000 in
theorem t_Ru_addStep {X : Xt} {S : Sh} (hS : ShOK S) {d : Nat} (hd : 0 ≤ d) (x0 : Nat) (x1 : Int32) (x2 : Int32) (σ : Mm) (h_x0 : tgT x0 = 5) : Rf X S emV (f_Ru_addStep x0 x1 x2 σ) d 57 0 [.ref x0, .int x1, .int x2] [] σ := by
  unfold f_Ru_addStep
  refine rf_ald (i := 0) (Or.inr ⟨0, rfl, rfl, rfl⟩) c_57_0 rfl ?_
  refine rf_geti hS c_57_1 rfl fl_5_34 rfl h_x0 ?_
  refine rf_bipush c_57_4 kb_96 ?_
  refine rf_ite (fun hc6 => ?_) (fun hc6 => ?_)
  · refine rf_b2t c_57_6 rfl (decide_eq_true hc6) ?_
    exact t_Ru_addStep_50 hS hd  (.ref x0) (.int x1) (.int x2) σ
  · refine rf_b2f c_57_6 rfl (decide_eq_false hc6) ?_
    refine rf_ald (i := 0) (Or.inr ⟨0, rfl, rfl, rfl⟩) c_57_9 rfl ?_
    refine rf_getr hS c_57_10 rfl fl_5_9 rfl h_x0 ?_
    refine rf_ald (i := 0) (Or.inr ⟨0, rfl, rfl, rfl⟩) c_57_13 rfl ?_
    refine rf_geti hS c_57_14 rfl fl_5_34 rfl h_x0 ?_
    refine rf_ild (i := 1) (Or.inr ⟨1, rfl, rfl, rfl⟩) c_57_17 rfl ?_
    refine rf_ldc (Or.inl ⟨rfl, rfl⟩) c_57_18 rfl kl_5_44 ?_
    refine rf_imul c_57_20 ?_
    refine rf_ild (i := 2) (Or.inr ⟨2, rfl, rfl, rfl⟩) c_57_21 rfl ?_
    refine rf_iadd c_57_22 ?_
    refine rf_ite (fun hb23 => ?_) (fun _ => rf_none)
    refine rf_iast hS c_57_23 (tf_5_7 h_x0) (lf_5_7 h_x0) hb23 ?_
    refine rf_nm (fun σ23 => ?_)
    refine rf_ald (i := 0) (Or.inr ⟨0, rfl, rfl, rfl⟩) c_57_24 rfl ?_
    refine rf_dup c_57_25 rfl ?_
    refine rf_geti hS c_57_26 rfl fl_5_34 rfl h_x0 ?_
    refine rf_iconst c_57_29 ki_1 ?_
    refine rf_iadd c_57_30 ?_
    refine rf_puti hS c_57_31 rfl fl_5_34 rfl rfl rfl rfl h_x0 ?_
    refine rf_nm (fun σ31 => ?_)
    refine rf_ild (i := 1) (Or.inr ⟨1, rfl, rfl, rfl⟩) c_57_34 rfl ?_
    refine rf_bipush c_57_35 kb_9 ?_
    refine rf_ite (fun hc37 => ?_) (fun hc37 => ?_)
    · refine rf_b2t c_57_37 rfl (decide_eq_true hc37) ?_
      exact t_Ru_addStep_50 hS hd  (.ref x0) (.int x1) (.int x2) σ31
    · refine rf_b2f c_57_37 rfl (decide_eq_false hc37) ?_
      refine rf_ald (i := 0) (Or.inr ⟨0, rfl, rfl, rfl⟩) c_57_40 rfl ?_
      refine rf_dup c_57_41 rfl ?_
      refine rf_geti hS c_57_42 rfl fl_5_28 rfl h_x0 ?_
      refine rf_iconst c_57_45 ki_1 ?_
      refine rf_iadd c_57_46 ?_
      refine rf_puti hS c_57_47 rfl fl_5_28 rfl rfl rfl rfl h_x0 ?_
      refine rf_nm (fun σ47 => ?_)
      exact t_Ru_addStep_50 hS hd  (.ref x0) (.int x1) (.int x2) σ47
theorem c_58_0 : cd 58 0 = some (.iload_n 1, 1) := by decide +kernel
theorem c_58_1 : cd 58 1 = some (.tableswitch (51) (0) (3) #[31, 36, 41, 46], 31) := by decide +kernel
theorem c_58_32 : cd 58 32 = some (.aload_n 0, 1) := by decide +kernel
theorem c_58_33 : cd 58 33 = some (.getfield 15, 3) := by decide +kernel
theorem c_58_36 : cd 58 36 = some (.ireturn, 1) := by decide +kernel
theorem c_58_37 : cd 58 37 = some (.aload_n 0, 1) := by decide +kernel
theorem c_58_38 : cd 58 38 = some (.getfield 19, 3) := by decide +kernel
theorem c_58_41 : cd 58 41 = some (.ireturn, 1) := by decide +kernel
theorem c_58_42 : cd 58 42 = some (.aload_n 0, 1) := by decide +kernel
theorem c_58_43 : cd 58 43 = some (.getfield 22, 3) := by decide +kernel
theorem c_58_46 : cd 58 46 = some (.ireturn, 1) := by decide +kernel
theorem c_58_47 : cd 58 47 = some (.aload_n 0, 1) := by decide +kernel
theorem c_58_48 : cd 58 48 = some (.getfield 25, 3) := by decide +kernel
theorem c_58_51 : cd 58 51 = some (.ireturn, 1) := by decide +kernel
theorem c_58_52 : cd 58 52 = some (.aload_n 0, 1) := by decide +kernel
theorem c_58_53 : cd 58 53 = some (.getfield 28, 3) := by decide +kernel
theorem c_58_56 : cd 58 56 = some (.ireturn, 1) := by decide +kernel
def f_Ru_part (σ : Mm) (x0 : Nat) (x1 : Int32) : Option Int32 := (if x1 = (0 : Int32) then (some (σ x0 0)) else (if x1 = (1 : Int32) then (some (σ x0 1)) else (if x1 = (2 : Int32) then (some (σ x0 2)) else (if x1 = (3 : Int32) then (some (σ x0 3)) else (some (σ x0 4))))))
set_option maxRecDepth 100000 in
set_option maxHeartbeats 4000000 in
theorem t_Ru_part {X : Xt} {S : Sh} (hS : ShOK S) {d : Nat} (hd : 0 ≤ d) (σ : Mm) (x0 : Nat) (x1 : Int32) (h_x0 : tgT x0 = 5) : Rf X S (emI σ) (f_Ru_part σ x0 x1) d 58 0 [.ref x0, .int x1] [] σ := by
  unfold f_Ru_part
  refine rf_ild (i := 1) (Or.inr ⟨1, rfl, rfl, rfl⟩) c_58_0 rfl ?_
  refine rf_ite (fun hs1_0 => ?_) (fun hs1_0 => ?_)
  · refine rf_tsw (o := 31) c_58_1 (by rw [hs1_0]; decide) rfl ?_
    refine rf_ald (i := 0) (Or.inr ⟨0, rfl, rfl, rfl⟩) c_58_32 rfl ?_
    refine rf_geti hS c_58_33 rfl fl_5_15 rfl h_x0 ?_
    exact rf_ret c_58_36 rfl rfl rfl rfl
  · refine rf_ite (fun hs1_1 => ?_) (fun hs1_1 => ?_)
    · refine rf_tsw (o := 36) c_58_1 (by rw [hs1_1]; decide) rfl ?_
      refine rf_ald (i := 0) (Or.inr ⟨0, rfl, rfl, rfl⟩) c_58_37 rfl ?_
      refine rf_geti hS c_58_38 rfl fl_5_19 rfl h_x0 ?_
      exact rf_ret c_58_41 rfl rfl rfl rfl
    · refine rf_ite (fun hs1_2 => ?_) (fun hs1_2 => ?_)
      · refine rf_tsw (o := 41) c_58_1 (by rw [hs1_2]; decide) rfl ?_
        refine rf_ald (i := 0) (Or.inr ⟨0, rfl, rfl, rfl⟩) c_58_42 rfl ?_
        refine rf_geti hS c_58_43 rfl fl_5_22 rfl h_x0 ?_
        exact rf_ret c_58_46 rfl rfl rfl rfl
      · refine rf_ite (fun hs1_3 => ?_) (fun hs1_3 => ?_)
        · refine rf_tsw (o := 46) c_58_1 (by rw [hs1_3]; decide) rfl ?_
          refine rf_ald (i := 0) (Or.inr ⟨0, rfl, rfl, rfl⟩) c_58_47 rfl ?_
          refine rf_geti hS c_58_48 rfl fl_5_25 rfl h_x0 ?_
          exact rf_ret c_58_51 rfl rfl rfl rfl
        · refine rf_tsw c_58_1 (if_pos (by have e0 := lv_neT hs1_0 (a := 0) (by decide); have e1 := lv_neT hs1_1 (a := 1) (by decide); have e2 := lv_neT hs1_2 (a := 2) (by decide); have e3 := lv_neT hs1_3 (a := 3) (by decide); omega)) rfl ?_
          refine rf_ald (i := 0) (Or.inr ⟨0, rfl, rfl, rfl⟩) c_58_52 rfl ?_
          refine rf_geti hS c_58_53 rfl fl_5_28 rfl h_x0 ?_
          exact rf_ret c_58_56 rfl rfl rfl rfl
theorem c_59_0 : cd 59 0 = some (.aload_n 0, 1) := by decide +kernel
theorem c_59_1 : cd 59 1 = some (.getfield 15, 3) := by decide +kernel
theorem c_59_4 : cd 59 4 = some (.iconst (5), 1) := by decide +kernel
theorem c_59_5 : cd 59 5 = some (.if_icmp .ne (14), 3) := by decide +kernel
theorem c_59_8 : cd 59 8 = some (.aload_n 0, 1) := by decide +kernel
theorem c_59_9 : cd 59 9 = some (.getfield 19, 3) := by decide +kernel
theorem c_59_12 : cd 59 12 = some (.iload_n 3, 1) := by decide +kernel
theorem c_59_13 : cd 59 13 = some (.if_icmp .lt (16), 3) := by decide +kernel
theorem c_59_16 : cd 59 16 = some (.goto (11), 3) := by decide +kernel
theorem c_59_19 : cd 59 19 = some (.aload_n 0, 1) := by decide +kernel
theorem c_59_20 : cd 59 20 = some (.getfield 19, 3) := by decide +kernel
theorem c_59_23 : cd 59 23 = some (.iconst (5), 1) := by decide +kernel
theorem c_59_24 : cd 59 24 = some (.if_icmp .lt (5), 3) := by decide +kernel
theorem c_59_27 : cd 59 27 = some (.iconst (1), 1) := by decide +kernel
theorem c_59_28 : cd 59 28 = some (.ireturn, 1) := by decide +kernel
theorem c_59_29 : cd 59 29 = some (.iconst (0), 1) := by decide +kernel
theorem c_59_30 : cd 59 30 = some (.istore 4, 2) := by decide +kernel
theorem c_59_32 : cd 59 32 = some (.iload 4, 2) := by decide +kernel
theorem c_59_34 : cd 59 34 = some (.aload_n 0, 1) := by decide +kernel
theorem c_59_35 : cd 59 35 = some (.getfield 34, 3) := by decide +kernel
theorem c_59_38 : cd 59 38 = some (.if_icmp .ge (51), 3) := by decide +kernel
theorem c_59_41 : cd 59 41 = some (.aload_n 0, 1) := by decide +kernel
theorem c_59_42 : cd 59 42 = some (.getfield 9, 3) := by decide +kernel
theorem c_59_45 : cd 59 45 = some (.iload 4, 2) := by decide +kernel
theorem c_59_47 : cd 59 47 = some (.iaload, 1) := by decide +kernel
theorem c_59_48 : cd 59 48 = some (.ldc 44, 2) := by decide +kernel
theorem c_59_50 : cd 59 50 = some (.idiv, 1) := by decide +kernel
theorem c_59_51 : cd 59 51 = some (.istore 5, 2) := by decide +kernel
theorem c_59_53 : cd 59 53 = some (.iload 5, 2) := by decide +kernel
theorem c_59_55 : cd 59 55 = some (.bipush (6), 2) := by decide +kernel
theorem c_59_57 : cd 59 57 = some (.if_icmp .eq (10), 3) := by decide +kernel
theorem c_59_60 : cd 59 60 = some (.iload 5, 2) := by decide +kernel
theorem c_59_62 : cd 59 62 = some (.bipush (8), 2) := by decide +kernel
theorem c_59_64 : cd 59 64 = some (.if_icmp .ne (19), 3) := by decide +kernel
theorem c_59_67 : cd 59 67 = some (.aload_n 0, 1) := by decide +kernel
theorem c_59_68 : cd 59 68 = some (.getfield 9, 3) := by decide +kernel
theorem c_59_71 : cd 59 71 = some (.iload 4, 2) := by decide +kernel
theorem c_59_73 : cd 59 73 = some (.iaload, 1) := by decide +kernel
theorem c_59_74 : cd 59 74 = some (.ldc 44, 2) := by decide +kernel
theorem c_59_76 : cd 59 76 = some (.irem, 1) := by decide +kernel
theorem c_59_77 : cd 59 77 = some (.iload_n 1, 1) := by decide +kernel
theorem c_59_78 : cd 59 78 = some (.if_icmp .lt (5), 3) := by decide +kernel
theorem c_59_81 : cd 59 81 = some (.iconst (1), 1) := by decide +kernel
theorem c_59_82 : cd 59 82 = some (.ireturn, 1) := by decide +kernel
theorem c_59_83 : cd 59 83 = some (.iinc 4 (1), 3) := by decide +kernel
theorem c_59_86 : cd 59 86 = some (.goto (-54), 3) := by decide +kernel
theorem c_59_89 : cd 59 89 = some (.aload_n 0, 1) := by decide +kernel
theorem c_59_90 : cd 59 90 = some (.getfield 15, 3) := by decide +kernel
theorem c_59_93 : cd 59 93 = some (.tableswitch (85) (0) (5) #[39, 85, 53, 85, 67, 83], 39) := by decide +kernel
theorem c_59_132 : cd 59 132 = some (.aload_n 0, 1) := by decide +kernel
theorem c_59_133 : cd 59 133 = some (.getfield 22, 3) := by decide +kernel
theorem c_59_136 : cd 59 136 = some (.iload_n 2, 1) := by decide +kernel
theorem c_59_137 : cd 59 137 = some (.if_icmp .lt (7), 3) := by decide +kernel
theorem c_59_140 : cd 59 140 = some (.iconst (1), 1) := by decide +kernel
theorem c_59_141 : cd 59 141 = some (.goto (4), 3) := by decide +kernel
theorem c_59_144 : cd 59 144 = some (.iconst (0), 1) := by decide +kernel
theorem c_59_145 : cd 59 145 = some (.ireturn, 1) := by decide +kernel
theorem c_59_146 : cd 59 146 = some (.aload_n 0, 1) := by decide +kernel
theorem c_59_147 : cd 59 147 = some (.getfield 22, 3) := by decide +kernel
theorem c_59_150 : cd 59 150 = some (.iload_n 1, 1) := by decide +kernel
theorem c_59_151 : cd 59 151 = some (.if_icmp .lt (7), 3) := by decide +kernel
theorem c_59_154 : cd 59 154 = some (.iconst (1), 1) := by decide +kernel
theorem c_59_155 : cd 59 155 = some (.goto (4), 3) := by decide +kernel
theorem c_59_158 : cd 59 158 = some (.iconst (0), 1) := by decide +kernel
theorem c_59_159 : cd 59 159 = some (.ireturn, 1) := by decide +kernel
theorem c_59_160 : cd 59 160 = some (.aload_n 0, 1) := by decide +kernel
theorem c_59_161 : cd 59 161 = some (.getfield 22, 3) := by decide +kernel
theorem c_59_164 : cd 59 164 = some (.sipush (999), 3) := by decide +kernel
theorem c_59_167 : cd 59 167 = some (.if_icmp .le (7), 3) := by decide +kernel
theorem c_59_170 : cd 59 170 = some (.iconst (1), 1) := by decide +kernel
theorem c_59_171 : cd 59 171 = some (.goto (4), 3) := by decide +kernel
theorem c_59_174 : cd 59 174 = some (.iconst (0), 1) := by decide +kernel
theorem c_59_175 : cd 59 175 = some (.ireturn, 1) := by decide +kernel
theorem c_59_176 : cd 59 176 = some (.iconst (0), 1) := by decide +kernel
theorem c_59_177 : cd 59 177 = some (.ireturn, 1) := by decide +kernel
theorem c_59_178 : cd 59 178 = some (.aload_n 0, 1) := by decide +kernel
theorem c_59_179 : cd 59 179 = some (.getfield 22, 3) := by decide +kernel
theorem c_59_182 : cd 59 182 = some (.bipush (99), 2) := by decide +kernel
theorem c_59_184 : cd 59 184 = some (.if_icmp .le (7), 3) := by decide +kernel
theorem c_59_187 : cd 59 187 = some (.iconst (1), 1) := by decide +kernel
theorem c_59_188 : cd 59 188 = some (.goto (4), 3) := by decide +kernel
theorem c_59_191 : cd 59 191 = some (.iconst (0), 1) := by decide +kernel
theorem c_59_192 : cd 59 192 = some (.ireturn, 1) := by decide +kernel
def f_Ru_isWrong_27 (σ : Mm) : Option Int32 := some (1 : Int32)
set_option maxRecDepth 100000 in
set_option maxHeartbeats 4000000 in
theorem t_Ru_isWrong_27 {X : Xt} {S : Sh} (hS : ShOK S) {d : Nat} (hd : 0 ≤ d) (σ : Mm) (u0 : Value) (u1 : Value) (u2 : Value) (u3 : Value) (u4 : Value) (u5 : Value) : Rf X S (emI σ) (f_Ru_isWrong_27 σ) d 59 27 [u0, u1, u2, u3, u4, u5] [] σ := by
  unfold f_Ru_isWrong_27
  refine rf_iconst c_59_27 ki_1 ?_
  exact rf_ret c_59_28 rfl (by decide) rfl rfl
def f_Ru_isWrong_83 (σ : Mm) (k32 : Nat → Int32 → Int32 → Int32 → Option (Int32)) (x0 : Nat) (x1 : Int32) (x2 : Int32) (x4 : Int32) : Option Int32 := k32 x0 x1 x2 (x4 + (1 : Int32))
set_option maxRecDepth 100000 in
set_option maxHeartbeats 4000000 in
theorem t_Ru_isWrong_83 {X : Xt} {S : Sh} (hS : ShOK S) {d : Nat} (hd : 0 ≤ d) (σ : Mm) {k32 : Nat → Int32 → Int32 → Int32 → Option (Int32)} (hk32 : ∀ (x0 : Nat) (x1 : Int32) (x2 : Int32) (x4 : Int32) (u3 : Value) (u5 : Value) (h_x0 : tgT x0 = 5), Rf X S (emI σ) (k32 x0 x1 x2 x4) d 59 32 [.ref x0, .int x1, .int x2, u3, .int x4, u5] [] σ) (x0 : Nat) (x1 : Int32) (x2 : Int32) (x4 : Int32) (u3 : Value) (u5 : Value) (h_x0 : tgT x0 = 5) : Rf X S (emI σ) (f_Ru_isWrong_83 σ k32 x0 x1 x2 x4) d 59 83 [.ref x0, .int x1, .int x2, u3, .int x4, u5] [] σ := by
  unfold f_Ru_isWrong_83
  refine rf_iinc c_59_83 rfl ki_1 rfl ?_
  refine rf_goto c_59_86 rfl ?_
  exact hk32 x0 x1 x2 (x4 + (1 : Int32)) (u3) (u5) h_x0
def f_Ru_isWrong_67 (σ : Mm) (k32 : Nat → Int32 → Int32 → Int32 → Option (Int32)) (x0 : Nat) (x1 : Int32) (x2 : Int32) (x4 : Int32) : Option Int32 := if inbB x4 96 = true then (if (irm (σ (rfT x0 7) (ix x4)) (100000 : Int32)) < x1 then (f_Ru_isWrong_83 σ k32 x0 x1 x2 x4) else (some (1 : Int32))) else none
set_option maxRecDepth 100000 in
set_option maxHeartbeats 4000000 in
theorem t_Ru_isWrong_67 {X : Xt} {S : Sh} (hS : ShOK S) {d : Nat} (hd : 0 ≤ d) (σ : Mm) {k32 : Nat → Int32 → Int32 → Int32 → Option (Int32)} (hk32 : ∀ (x0 : Nat) (x1 : Int32) (x2 : Int32) (x4 : Int32) (u3 : Value) (u5 : Value) (h_x0 : tgT x0 = 5), Rf X S (emI σ) (k32 x0 x1 x2 x4) d 59 32 [.ref x0, .int x1, .int x2, u3, .int x4, u5] [] σ) (x0 : Nat) (x1 : Int32) (x2 : Int32) (x4 : Int32) (u3 : Value) (u5 : Value) (h_x0 : tgT x0 = 5) : Rf X S (emI σ) (f_Ru_isWrong_67 σ k32 x0 x1 x2 x4) d 59 67 [.ref x0, .int x1, .int x2, u3, .int x4, u5] [] σ := by
  unfold f_Ru_isWrong_67
  refine rf_ald (i := 0) (Or.inr ⟨0, rfl, rfl, rfl⟩) c_59_67 rfl ?_
  refine rf_getr hS c_59_68 rfl fl_5_9 rfl h_x0 ?_
  refine rf_ild (i := 4) (Or.inl ⟨rfl, rfl⟩) c_59_71 rfl ?_
  refine rf_ite (fun hb73 => ?_) (fun _ => rf_none)
  refine rf_iald hS c_59_73 (tf_5_7 h_x0) (lf_5_7 h_x0) hb73 ?_
  refine rf_ldc (Or.inl ⟨rfl, rfl⟩) c_59_74 rfl kl_5_44 ?_
  refine rf_irem c_59_76 (by decide) ?_
  refine rf_ild (i := 1) (Or.inr ⟨1, rfl, rfl, rfl⟩) c_59_77 rfl ?_
  refine rf_ite (fun hc78 => ?_) (fun hc78 => ?_)
  · refine rf_b2t c_59_78 rfl (decide_eq_true hc78) ?_
    exact t_Ru_isWrong_83 hS hd σ hk32 x0 x1 x2 x4 (u3) (u5) h_x0
  · refine rf_b2f c_59_78 rfl (decide_eq_false hc78) ?_
    refine rf_iconst c_59_81 ki_1 ?_
    exact rf_ret c_59_82 rfl (by decide) rfl rfl
def f_Ru_isWrong_145 (σ : Mm) (y0 : Int32) : Option Int32 := if zB y0 = true then some y0 else none
set_option maxRecDepth 100000 in
set_option maxHeartbeats 4000000 in
theorem t_Ru_isWrong_145 {X : Xt} {S : Sh} (hS : ShOK S) {d : Nat} (hd : 0 ≤ d) (σ : Mm) (y0 : Int32) (u0 : Value) (u1 : Value) (u2 : Value) (u3 : Value) (u4 : Value) (u5 : Value) : Rf X S (emI σ) (f_Ru_isWrong_145 σ y0) d 59 145 [u0, u1, u2, u3, u4, u5] [.int y0] σ := by
  unfold f_Ru_isWrong_145
  refine rf_ite (fun hq145 => ?_) (fun _ => rf_none)
  exact rf_ret c_59_145 rfl (zB_n hq145) rfl rfl
def f_Ru_isWrong_159 (σ : Mm) (y0 : Int32) : Option Int32 := if zB y0 = true then some y0 else none
set_option maxRecDepth 100000 in
set_option maxHeartbeats 4000000 in
theorem t_Ru_isWrong_159 {X : Xt} {S : Sh} (hS : ShOK S) {d : Nat} (hd : 0 ≤ d) (σ : Mm) (y0 : Int32) (u0 : Value) (u1 : Value) (u2 : Value) (u3 : Value) (u4 : Value) (u5 : Value) : Rf X S (emI σ) (f_Ru_isWrong_159 σ y0) d 59 159 [u0, u1, u2, u3, u4, u5] [.int y0] σ := by
  unfold f_Ru_isWrong_159
  refine rf_ite (fun hq159 => ?_) (fun _ => rf_none)
  exact rf_ret c_59_159 rfl (zB_n hq159) rfl rfl
def f_Ru_isWrong_175 (σ : Mm) (y0 : Int32) : Option Int32 := if zB y0 = true then some y0 else none
set_option maxRecDepth 100000 in
set_option maxHeartbeats 4000000 in
theorem t_Ru_isWrong_175 {X : Xt} {S : Sh} (hS : ShOK S) {d : Nat} (hd : 0 ≤ d) (σ : Mm) (y0 : Int32) (u0 : Value) (u1 : Value) (u2 : Value) (u3 : Value) (u4 : Value) (u5 : Value) : Rf X S (emI σ) (f_Ru_isWrong_175 σ y0) d 59 175 [u0, u1, u2, u3, u4, u5] [.int y0] σ := by
  unfold f_Ru_isWrong_175
  refine rf_ite (fun hq175 => ?_) (fun _ => rf_none)
  exact rf_ret c_59_175 rfl (zB_n hq175) rfl rfl
def f_Ru_isWrong_192 (σ : Mm) (y0 : Int32) : Option Int32 := if zB y0 = true then some y0 else none
set_option maxRecDepth 100000 in
set_option maxHeartbeats 4000000 in
theorem t_Ru_isWrong_192 {X : Xt} {S : Sh} (hS : ShOK S) {d : Nat} (hd : 0 ≤ d) (σ : Mm) (y0 : Int32) (u0 : Value) (u1 : Value) (u2 : Value) (u3 : Value) (u4 : Value) (u5 : Value) : Rf X S (emI σ) (f_Ru_isWrong_192 σ y0) d 59 192 [u0, u1, u2, u3, u4, u5] [.int y0] σ := by
  unfold f_Ru_isWrong_192
  refine rf_ite (fun hq192 => ?_) (fun _ => rf_none)
  exact rf_ret c_59_192 rfl (zB_n hq192) rfl rfl
def f_Ru_isWrong_32 (σ : Mm) : Nat → Nat → Int32 → Int32 → Int32 → Option Int32
  | 0, _, _, _, _ => none
  | n + 1, x0, x1, x2, x4 => (if (σ x0 6) ≤ x4 then (if (σ x0 0) = (0 : Int32) then (if (σ x0 2) < x2 then (f_Ru_isWrong_145 σ (0 : Int32)) else (f_Ru_isWrong_145 σ (1 : Int32))) else (if (σ x0 0) = (1 : Int32) then (if (σ x0 2) ≤ (99 : Int32) then (f_Ru_isWrong_192 σ (0 : Int32)) else (f_Ru_isWrong_192 σ (1 : Int32))) else (if (σ x0 0) = (2 : Int32) then (if (σ x0 2) < x1 then (f_Ru_isWrong_159 σ (0 : Int32)) else (f_Ru_isWrong_159 σ (1 : Int32))) else (if (σ x0 0) = (3 : Int32) then (if (σ x0 2) ≤ (99 : Int32) then (f_Ru_isWrong_192 σ (0 : Int32)) else (f_Ru_isWrong_192 σ (1 : Int32))) else (if (σ x0 0) = (4 : Int32) then (if (σ x0 2) ≤ (999 : Int32) then (f_Ru_isWrong_175 σ (0 : Int32)) else (f_Ru_isWrong_175 σ (1 : Int32))) else (if (σ x0 0) = (5 : Int32) then (some (0 : Int32)) else (if (σ x0 2) ≤ (99 : Int32) then (f_Ru_isWrong_192 σ (0 : Int32)) else (f_Ru_isWrong_192 σ (1 : Int32))))))))) else (if inbB x4 96 = true then (if ((σ (rfT x0 7) (ix x4)) / (100000 : Int32)) = (6 : Int32) then (f_Ru_isWrong_67 σ (f_Ru_isWrong_32 σ n) x0 x1 x2 x4) else (if ¬ ((σ (rfT x0 7) (ix x4)) / (100000 : Int32)) = (8 : Int32) then (f_Ru_isWrong_83 σ (f_Ru_isWrong_32 σ n) x0 x1 x2 x4) else (f_Ru_isWrong_67 σ (f_Ru_isWrong_32 σ n) x0 x1 x2 x4))) else none))
set_option maxRecDepth 100000 in
set_option maxHeartbeats 4000000 in
theorem t_Ru_isWrong_32 {X : Xt} {S : Sh} (hS : ShOK S) {d : Nat} (hd : 0 ≤ d) (σ : Mm) : ∀ (n : Nat) (x0 : Nat) (x1 : Int32) (x2 : Int32) (x4 : Int32) (u3 : Value) (u5 : Value) (h_x0 : tgT x0 = 5), Rf X S (emI σ) (f_Ru_isWrong_32 σ n x0 x1 x2 x4) d 59 32 [.ref x0, .int x1, .int x2, u3, .int x4, u5] [] σ := by
  intro n
  induction n with
  | zero => intro x0 x1 x2 x4 u3 u5 h_x0; exact rf_none
  | succ n ih =>
    intro x0 x1 x2 x4 u3 u5 h_x0
    rw [f_Ru_isWrong_32]
    refine rf_ild (i := 4) (Or.inl ⟨rfl, rfl⟩) c_59_32 rfl ?_
    refine rf_ald (i := 0) (Or.inr ⟨0, rfl, rfl, rfl⟩) c_59_34 rfl ?_
    refine rf_geti hS c_59_35 rfl fl_5_34 rfl h_x0 ?_
    refine rf_ite (fun hc38 => ?_) (fun hc38 => ?_)
    · refine rf_b2t c_59_38 rfl (decide_eq_true hc38) ?_
      refine rf_ald (i := 0) (Or.inr ⟨0, rfl, rfl, rfl⟩) c_59_89 rfl ?_
      refine rf_geti hS c_59_90 rfl fl_5_15 rfl h_x0 ?_
      refine rf_ite (fun hs93_0 => ?_) (fun hs93_0 => ?_)
      · refine rf_tsw (o := 39) c_59_93 (by rw [hs93_0]; decide) rfl ?_
        refine rf_ald (i := 0) (Or.inr ⟨0, rfl, rfl, rfl⟩) c_59_132 rfl ?_
        refine rf_geti hS c_59_133 rfl fl_5_22 rfl h_x0 ?_
        refine rf_ild (i := 2) (Or.inr ⟨2, rfl, rfl, rfl⟩) c_59_136 rfl ?_
        refine rf_ite (fun hc137 => ?_) (fun hc137 => ?_)
        · refine rf_b2t c_59_137 rfl (decide_eq_true hc137) ?_
          refine rf_iconst c_59_144 ki_0 ?_
          exact t_Ru_isWrong_145 hS hd σ  (0 : Int32) (.ref x0) (.int x1) (.int x2) (u3) (.int x4) (u5)
        · refine rf_b2f c_59_137 rfl (decide_eq_false hc137) ?_
          refine rf_iconst c_59_140 ki_1 ?_
          refine rf_goto c_59_141 rfl ?_
          exact t_Ru_isWrong_145 hS hd σ  (1 : Int32) (.ref x0) (.int x1) (.int x2) (u3) (.int x4) (u5)
      · refine rf_ite (fun hs93_1 => ?_) (fun hs93_1 => ?_)
        · refine rf_tsw (o := 85) c_59_93 (by rw [hs93_1]; decide) rfl ?_
          refine rf_ald (i := 0) (Or.inr ⟨0, rfl, rfl, rfl⟩) c_59_178 rfl ?_
          refine rf_geti hS c_59_179 rfl fl_5_22 rfl h_x0 ?_
          refine rf_bipush c_59_182 kb_99 ?_
          refine rf_ite (fun hc184 => ?_) (fun hc184 => ?_)
          · refine rf_b2t c_59_184 rfl (decide_eq_true hc184) ?_
            refine rf_iconst c_59_191 ki_0 ?_
            exact t_Ru_isWrong_192 hS hd σ  (0 : Int32) (.ref x0) (.int x1) (.int x2) (u3) (.int x4) (u5)
          · refine rf_b2f c_59_184 rfl (decide_eq_false hc184) ?_
            refine rf_iconst c_59_187 ki_1 ?_
            refine rf_goto c_59_188 rfl ?_
            exact t_Ru_isWrong_192 hS hd σ  (1 : Int32) (.ref x0) (.int x1) (.int x2) (u3) (.int x4) (u5)
        · refine rf_ite (fun hs93_2 => ?_) (fun hs93_2 => ?_)
          · refine rf_tsw (o := 53) c_59_93 (by rw [hs93_2]; decide) rfl ?_
            refine rf_ald (i := 0) (Or.inr ⟨0, rfl, rfl, rfl⟩) c_59_146 rfl ?_
            refine rf_geti hS c_59_147 rfl fl_5_22 rfl h_x0 ?_
            refine rf_ild (i := 1) (Or.inr ⟨1, rfl, rfl, rfl⟩) c_59_150 rfl ?_
            refine rf_ite (fun hc151 => ?_) (fun hc151 => ?_)
            · refine rf_b2t c_59_151 rfl (decide_eq_true hc151) ?_
              refine rf_iconst c_59_158 ki_0 ?_
              exact t_Ru_isWrong_159 hS hd σ  (0 : Int32) (.ref x0) (.int x1) (.int x2) (u3) (.int x4) (u5)
            · refine rf_b2f c_59_151 rfl (decide_eq_false hc151) ?_
              refine rf_iconst c_59_154 ki_1 ?_
              refine rf_goto c_59_155 rfl ?_
              exact t_Ru_isWrong_159 hS hd σ  (1 : Int32) (.ref x0) (.int x1) (.int x2) (u3) (.int x4) (u5)
          · refine rf_ite (fun hs93_3 => ?_) (fun hs93_3 => ?_)
            · refine rf_tsw (o := 85) c_59_93 (by rw [hs93_3]; decide) rfl ?_
              refine rf_ald (i := 0) (Or.inr ⟨0, rfl, rfl, rfl⟩) c_59_178 rfl ?_
              refine rf_geti hS c_59_179 rfl fl_5_22 rfl h_x0 ?_
              refine rf_bipush c_59_182 kb_99 ?_
              refine rf_ite (fun hc184 => ?_) (fun hc184 => ?_)
              · refine rf_b2t c_59_184 rfl (decide_eq_true hc184) ?_
                refine rf_iconst c_59_191 ki_0 ?_
                exact t_Ru_isWrong_192 hS hd σ  (0 : Int32) (.ref x0) (.int x1) (.int x2) (u3) (.int x4) (u5)
              · refine rf_b2f c_59_184 rfl (decide_eq_false hc184) ?_
                refine rf_iconst c_59_187 ki_1 ?_
                refine rf_goto c_59_188 rfl ?_
                exact t_Ru_isWrong_192 hS hd σ  (1 : Int32) (.ref x0) (.int x1) (.int x2) (u3) (.int x4) (u5)
            · refine rf_ite (fun hs93_4 => ?_) (fun hs93_4 => ?_)
              · refine rf_tsw (o := 67) c_59_93 (by rw [hs93_4]; decide) rfl ?_
                refine rf_ald (i := 0) (Or.inr ⟨0, rfl, rfl, rfl⟩) c_59_160 rfl ?_
                refine rf_geti hS c_59_161 rfl fl_5_22 rfl h_x0 ?_
                refine rf_sipush c_59_164 ks_999 ?_
                refine rf_ite (fun hc167 => ?_) (fun hc167 => ?_)
                · refine rf_b2t c_59_167 rfl (decide_eq_true hc167) ?_
                  refine rf_iconst c_59_174 ki_0 ?_
                  exact t_Ru_isWrong_175 hS hd σ  (0 : Int32) (.ref x0) (.int x1) (.int x2) (u3) (.int x4) (u5)
                · refine rf_b2f c_59_167 rfl (decide_eq_false hc167) ?_
                  refine rf_iconst c_59_170 ki_1 ?_
                  refine rf_goto c_59_171 rfl ?_
                  exact t_Ru_isWrong_175 hS hd σ  (1 : Int32) (.ref x0) (.int x1) (.int x2) (u3) (.int x4) (u5)
              · refine rf_ite (fun hs93_5 => ?_) (fun hs93_5 => ?_)
                · refine rf_tsw (o := 83) c_59_93 (by rw [hs93_5]; decide) rfl ?_
                  refine rf_iconst c_59_176 ki_0 ?_
                  exact rf_ret c_59_177 rfl (by decide) rfl rfl
                · refine rf_tsw c_59_93 (if_pos (by have e0 := lv_neT hs93_0 (a := 0) (by decide); have e1 := lv_neT hs93_1 (a := 1) (by decide); have e2 := lv_neT hs93_2 (a := 2) (by decide); have e3 := lv_neT hs93_3 (a := 3) (by decide); have e4 := lv_neT hs93_4 (a := 4) (by decide); have e5 := lv_neT hs93_5 (a := 5) (by decide); omega)) rfl ?_
                  refine rf_ald (i := 0) (Or.inr ⟨0, rfl, rfl, rfl⟩) c_59_178 rfl ?_
                  refine rf_geti hS c_59_179 rfl fl_5_22 rfl h_x0 ?_
                  refine rf_bipush c_59_182 kb_99 ?_
                  refine rf_ite (fun hc184 => ?_) (fun hc184 => ?_)
                  · refine rf_b2t c_59_184 rfl (decide_eq_true hc184) ?_
                    refine rf_iconst c_59_191 ki_0 ?_
                    exact t_Ru_isWrong_192 hS hd σ  (0 : Int32) (.ref x0) (.int x1) (.int x2) (u3) (.int x4) (u5)
                  · refine rf_b2f c_59_184 rfl (decide_eq_false hc184) ?_
                    refine rf_iconst c_59_187 ki_1 ?_
                    refine rf_goto c_59_188 rfl ?_
                    exact t_Ru_isWrong_192 hS hd σ  (1 : Int32) (.ref x0) (.int x1) (.int x2) (u3) (.int x4) (u5)
    · refine rf_b2f c_59_38 rfl (decide_eq_false hc38) ?_
      refine rf_ald (i := 0) (Or.inr ⟨0, rfl, rfl, rfl⟩) c_59_41 rfl ?_
      refine rf_getr hS c_59_42 rfl fl_5_9 rfl h_x0 ?_
      refine rf_ild (i := 4) (Or.inl ⟨rfl, rfl⟩) c_59_45 rfl ?_
      refine rf_ite (fun hb47 => ?_) (fun _ => rf_none)
      refine rf_iald hS c_59_47 (tf_5_7 h_x0) (lf_5_7 h_x0) hb47 ?_
      refine rf_ldc (Or.inl ⟨rfl, rfl⟩) c_59_48 rfl kl_5_44 ?_
      refine rf_idiv c_59_50 (by decide) ?_
      refine rf_ist (i := 5) (Or.inl ⟨rfl, rfl⟩) c_59_51 (Nat.le_of_ble_eq_true rfl) rfl ?_
      refine rf_ild (i := 5) (Or.inl ⟨rfl, rfl⟩) c_59_53 rfl ?_
      refine rf_bipush c_59_55 kb_6 ?_
      refine rf_ite (fun hc57 => ?_) (fun hc57 => ?_)
      · refine rf_b2t c_59_57 rfl (decide_eq_true hc57) ?_
        exact t_Ru_isWrong_67 hS hd σ ih x0 x1 x2 x4 (u3) (.int ((σ (rfT x0 7) (ix x4)) / (100000 : Int32))) h_x0
      · refine rf_b2f c_59_57 rfl (decide_eq_false hc57) ?_
        refine rf_ild (i := 5) (Or.inl ⟨rfl, rfl⟩) c_59_60 rfl ?_
        refine rf_bipush c_59_62 kb_8 ?_
        refine rf_ite (fun hc64 => ?_) (fun hc64 => ?_)
        · refine rf_b2t c_59_64 rfl (decide_eq_true hc64) ?_
          exact t_Ru_isWrong_83 hS hd σ ih x0 x1 x2 x4 (u3) (.int ((σ (rfT x0 7) (ix x4)) / (100000 : Int32))) h_x0
        · refine rf_b2f c_59_64 rfl (decide_eq_false hc64) ?_
          exact t_Ru_isWrong_67 hS hd σ ih x0 x1 x2 x4 (u3) (.int ((σ (rfT x0 7) (ix x4)) / (100000 : Int32))) h_x0
def f_Ru_isWrong_29 (σ : Mm) (x0 : Nat) (x1 : Int32) (x2 : Int32) : Option Int32 := f_Ru_isWrong_32 σ NN x0 x1 x2 (0 : Int32)
set_option maxRecDepth 100000 in
set_option maxHeartbeats 4000000 in
theorem t_Ru_isWrong_29 {X : Xt} {S : Sh} (hS : ShOK S) {d : Nat} (hd : 0 ≤ d) (σ : Mm) (x0 : Nat) (x1 : Int32) (x2 : Int32) (u3 : Value) (u4 : Value) (u5 : Value) (h_x0 : tgT x0 = 5) : Rf X S (emI σ) (f_Ru_isWrong_29 σ x0 x1 x2) d 59 29 [.ref x0, .int x1, .int x2, u3, u4, u5] [] σ := by
  unfold f_Ru_isWrong_29
  refine rf_iconst c_59_29 ki_0 ?_
  refine rf_ist (i := 4) (Or.inl ⟨rfl, rfl⟩) c_59_30 (Nat.le_of_ble_eq_true rfl) rfl ?_
  exact t_Ru_isWrong_32 hS hd σ  NN x0 x1 x2 (0 : Int32) (u3) (u5) h_x0
def f_Ru_isWrong (σ : Mm) (x0 : Nat) (x1 : Int32) (x2 : Int32) (x3 : Int32) : Option Int32 := (if ¬ (σ x0 0) = (5 : Int32) then (if (σ x0 1) < (5 : Int32) then (f_Ru_isWrong_29 σ x0 x1 x2) else (f_Ru_isWrong_27 σ )) else (if (σ x0 1) < x3 then (f_Ru_isWrong_29 σ x0 x1 x2) else (f_Ru_isWrong_27 σ )))
set_option maxRecDepth 100000 in
set_option maxHeartbeats 4000000 in
theorem t_Ru_isWrong {X : Xt} {S : Sh} (hS : ShOK S) {d : Nat} (hd : 0 ≤ d) (σ : Mm) (x0 : Nat) (x1 : Int32) (x2 : Int32) (x3 : Int32) (h_x0 : tgT x0 = 5) : Rf X S (emI σ) (f_Ru_isWrong σ x0 x1 x2 x3) d 59 0 [.ref x0, .int x1, .int x2, .int x3, unset0, unset0] [] σ := by
  unfold f_Ru_isWrong
  refine rf_ald (i := 0) (Or.inr ⟨0, rfl, rfl, rfl⟩) c_59_0 rfl ?_
  refine rf_geti hS c_59_1 rfl fl_5_15 rfl h_x0 ?_
  refine rf_iconst c_59_4 ki_5 ?_
  refine rf_ite (fun hc5 => ?_) (fun hc5 => ?_)
  · refine rf_b2t c_59_5 rfl (decide_eq_true hc5) ?_
    refine rf_ald (i := 0) (Or.inr ⟨0, rfl, rfl, rfl⟩) c_59_19 rfl ?_
    refine rf_geti hS c_59_20 rfl fl_5_19 rfl h_x0 ?_
    refine rf_iconst c_59_23 ki_5 ?_
    refine rf_ite (fun hc24 => ?_) (fun hc24 => ?_)
    · refine rf_b2t c_59_24 rfl (decide_eq_true hc24) ?_
      exact t_Ru_isWrong_29 hS hd σ  x0 x1 x2 (.int x3) (unset0) (unset0) h_x0
    · refine rf_b2f c_59_24 rfl (decide_eq_false hc24) ?_
      exact t_Ru_isWrong_27 hS hd σ  (.ref x0) (.int x1) (.int x2) (.int x3) (unset0) (unset0)
  · refine rf_b2f c_59_5 rfl (decide_eq_false hc5) ?_
    refine rf_ald (i := 0) (Or.inr ⟨0, rfl, rfl, rfl⟩) c_59_8 rfl ?_
    refine rf_geti hS c_59_9 rfl fl_5_19 rfl h_x0 ?_
    refine rf_ild (i := 3) (Or.inr ⟨3, rfl, rfl, rfl⟩) c_59_12 rfl ?_
    refine rf_ite (fun hc13 => ?_) (fun hc13 => ?_)
    · refine rf_b2t c_59_13 rfl (decide_eq_true hc13) ?_
      exact t_Ru_isWrong_29 hS hd σ  x0 x1 x2 (.int x3) (unset0) (unset0) h_x0
    · refine rf_b2f c_59_13 rfl (decide_eq_false hc13) ?_
      refine rf_goto c_59_16 rfl ?_
      exact t_Ru_isWrong_27 hS hd σ  (.ref x0) (.int x1) (.int x2) (.int x3) (unset0) (unset0)
theorem c_62_0 : cd 62 0 = some (.iload_n 0, 1) := by decide +kernel
theorem c_62_1 : cd 62 1 = some (.ldc 44, 2) := by decide +kernel
theorem c_62_3 : cd 62 3 = some (.irem, 1) := by decide +kernel
theorem c_62_4 : cd 62 4 = some (.istore 4, 2) := by decide +kernel
theorem c_62_6 : cd 62 6 = some (.iload_n 0, 1) := by decide +kernel
theorem c_62_7 : cd 62 7 = some (.ldc 44, 2) := by decide +kernel
theorem c_62_9 : cd 62 9 = some (.idiv, 1) := by decide +kernel
theorem c_62_10 : cd 62 10 = some (.tableswitch (154) (0) (7) #[46, 61, 76, 88, 100, 112, 124, 139], 46) := by decide +kernel
theorem c_62_56 : cd 62 56 = some (.aload_n 1, 1) := by decide +kernel
theorem c_62_57 : cd 62 57 = some (.getfield 59, 3) := by decide +kernel
theorem c_62_60 : cd 62 60 = some (.iload 4, 2) := by decide +kernel
theorem c_62_62 : cd 62 62 = some (.if_icmp .ge (7), 3) := by decide +kernel
theorem c_62_65 : cd 62 65 = some (.iconst (1), 1) := by decide +kernel
theorem c_62_66 : cd 62 66 = some (.goto (4), 3) := by decide +kernel
theorem c_62_69 : cd 62 69 = some (.iconst (0), 1) := by decide +kernel
theorem c_62_70 : cd 62 70 = some (.ireturn, 1) := by decide +kernel
theorem c_62_71 : cd 62 71 = some (.aload_n 1, 1) := by decide +kernel
theorem c_62_72 : cd 62 72 = some (.getfield 59, 3) := by decide +kernel
theorem c_62_75 : cd 62 75 = some (.iload 4, 2) := by decide +kernel
theorem c_62_77 : cd 62 77 = some (.if_icmp .le (7), 3) := by decide +kernel
theorem c_62_80 : cd 62 80 = some (.iconst (1), 1) := by decide +kernel
theorem c_62_81 : cd 62 81 = some (.goto (4), 3) := by decide +kernel
theorem c_62_84 : cd 62 84 = some (.iconst (0), 1) := by decide +kernel
theorem c_62_85 : cd 62 85 = some (.ireturn, 1) := by decide +kernel
theorem c_62_86 : cd 62 86 = some (.iload_n 2, 1) := by decide +kernel
theorem c_62_87 : cd 62 87 = some (.iload 4, 2) := by decide +kernel
theorem c_62_89 : cd 62 89 = some (.if_icmp .ge (7), 3) := by decide +kernel
theorem c_62_92 : cd 62 92 = some (.iconst (1), 1) := by decide +kernel
theorem c_62_93 : cd 62 93 = some (.goto (4), 3) := by decide +kernel
theorem c_62_96 : cd 62 96 = some (.iconst (0), 1) := by decide +kernel
theorem c_62_97 : cd 62 97 = some (.ireturn, 1) := by decide +kernel
theorem c_62_98 : cd 62 98 = some (.iload_n 2, 1) := by decide +kernel
theorem c_62_99 : cd 62 99 = some (.iload 4, 2) := by decide +kernel
theorem c_62_101 : cd 62 101 = some (.if_icmp .le (7), 3) := by decide +kernel
theorem c_62_104 : cd 62 104 = some (.iconst (1), 1) := by decide +kernel
theorem c_62_105 : cd 62 105 = some (.goto (4), 3) := by decide +kernel
theorem c_62_108 : cd 62 108 = some (.iconst (0), 1) := by decide +kernel
theorem c_62_109 : cd 62 109 = some (.ireturn, 1) := by decide +kernel
theorem c_62_110 : cd 62 110 = some (.iload_n 3, 1) := by decide +kernel
theorem c_62_111 : cd 62 111 = some (.iload 4, 2) := by decide +kernel
theorem c_62_113 : cd 62 113 = some (.if_icmp .ge (7), 3) := by decide +kernel
theorem c_62_116 : cd 62 116 = some (.iconst (1), 1) := by decide +kernel
theorem c_62_117 : cd 62 117 = some (.goto (4), 3) := by decide +kernel
theorem c_62_120 : cd 62 120 = some (.iconst (0), 1) := by decide +kernel
theorem c_62_121 : cd 62 121 = some (.ireturn, 1) := by decide +kernel
theorem c_62_122 : cd 62 122 = some (.iload_n 3, 1) := by decide +kernel
theorem c_62_123 : cd 62 123 = some (.iload 4, 2) := by decide +kernel
theorem c_62_125 : cd 62 125 = some (.if_icmp .le (7), 3) := by decide +kernel
theorem c_62_128 : cd 62 128 = some (.iconst (1), 1) := by decide +kernel
theorem c_62_129 : cd 62 129 = some (.goto (4), 3) := by decide +kernel
theorem c_62_132 : cd 62 132 = some (.iconst (0), 1) := by decide +kernel
theorem c_62_133 : cd 62 133 = some (.ireturn, 1) := by decide +kernel
theorem c_62_134 : cd 62 134 = some (.aload_n 1, 1) := by decide +kernel
theorem c_62_135 : cd 62 135 = some (.getfield 62, 3) := by decide +kernel
theorem c_62_138 : cd 62 138 = some (.iload 4, 2) := by decide +kernel
theorem c_62_140 : cd 62 140 = some (.if_icmp .ne (7), 3) := by decide +kernel
theorem c_62_143 : cd 62 143 = some (.iconst (1), 1) := by decide +kernel
theorem c_62_144 : cd 62 144 = some (.goto (4), 3) := by decide +kernel
theorem c_62_147 : cd 62 147 = some (.iconst (0), 1) := by decide +kernel
theorem c_62_148 : cd 62 148 = some (.ireturn, 1) := by decide +kernel
theorem c_62_149 : cd 62 149 = some (.aload_n 1, 1) := by decide +kernel
theorem c_62_150 : cd 62 150 = some (.getfield 65, 3) := by decide +kernel
theorem c_62_153 : cd 62 153 = some (.iload 4, 2) := by decide +kernel
theorem c_62_155 : cd 62 155 = some (.if_icmp .ne (7), 3) := by decide +kernel
theorem c_62_158 : cd 62 158 = some (.iconst (1), 1) := by decide +kernel
theorem c_62_159 : cd 62 159 = some (.goto (4), 3) := by decide +kernel
theorem c_62_162 : cd 62 162 = some (.iconst (0), 1) := by decide +kernel
theorem c_62_163 : cd 62 163 = some (.ireturn, 1) := by decide +kernel
theorem c_62_164 : cd 62 164 = some (.iload 4, 2) := by decide +kernel
theorem c_62_166 : cd 62 166 = some (.bipush (8), 2) := by decide +kernel
theorem c_62_168 : cd 62 168 = some (.if_icmp .ge (20), 3) := by decide +kernel
theorem c_62_171 : cd 62 171 = some (.aload_n 1, 1) := by decide +kernel
theorem c_62_172 : cd 62 172 = some (.getfield 68, 3) := by decide +kernel
theorem c_62_175 : cd 62 175 = some (.iload 4, 2) := by decide +kernel
theorem c_62_177 : cd 62 177 = some (.ishr, 1) := by decide +kernel
theorem c_62_178 : cd 62 178 = some (.iconst (1), 1) := by decide +kernel
theorem c_62_179 : cd 62 179 = some (.iand, 1) := by decide +kernel
theorem c_62_180 : cd 62 180 = some (.iconst (1), 1) := by decide +kernel
theorem c_62_181 : cd 62 181 = some (.if_icmp .ne (7), 3) := by decide +kernel
theorem c_62_184 : cd 62 184 = some (.iconst (1), 1) := by decide +kernel
theorem c_62_185 : cd 62 185 = some (.goto (4), 3) := by decide +kernel
theorem c_62_188 : cd 62 188 = some (.iconst (0), 1) := by decide +kernel
theorem c_62_189 : cd 62 189 = some (.ireturn, 1) := by decide +kernel
def f_Ru_isAtomSo_70 (σ : Mm) (y0 : Int32) : Option Int32 := if zB y0 = true then some y0 else none
set_option maxRecDepth 100000 in
set_option maxHeartbeats 4000000 in
theorem t_Ru_isAtomSo_70 {X : Xt} {S : Sh} (hS : ShOK S) {d : Nat} (hd : 0 ≤ d) (σ : Mm) (y0 : Int32) (u0 : Value) (u1 : Value) (u2 : Value) (u3 : Value) (u4 : Value) : Rf X S (emI σ) (f_Ru_isAtomSo_70 σ y0) d 62 70 [u0, u1, u2, u3, u4] [.int y0] σ := by
  unfold f_Ru_isAtomSo_70
  refine rf_ite (fun hq70 => ?_) (fun _ => rf_none)
  exact rf_ret c_62_70 rfl (zB_n hq70) rfl rfl
def f_Ru_isAtomSo_85 (σ : Mm) (y0 : Int32) : Option Int32 := if zB y0 = true then some y0 else none
set_option maxRecDepth 100000 in
set_option maxHeartbeats 4000000 in
theorem t_Ru_isAtomSo_85 {X : Xt} {S : Sh} (hS : ShOK S) {d : Nat} (hd : 0 ≤ d) (σ : Mm) (y0 : Int32) (u0 : Value) (u1 : Value) (u2 : Value) (u3 : Value) (u4 : Value) : Rf X S (emI σ) (f_Ru_isAtomSo_85 σ y0) d 62 85 [u0, u1, u2, u3, u4] [.int y0] σ := by
  unfold f_Ru_isAtomSo_85
  refine rf_ite (fun hq85 => ?_) (fun _ => rf_none)
  exact rf_ret c_62_85 rfl (zB_n hq85) rfl rfl
def f_Ru_isAtomSo_97 (σ : Mm) (y0 : Int32) : Option Int32 := if zB y0 = true then some y0 else none
set_option maxRecDepth 100000 in
set_option maxHeartbeats 4000000 in
theorem t_Ru_isAtomSo_97 {X : Xt} {S : Sh} (hS : ShOK S) {d : Nat} (hd : 0 ≤ d) (σ : Mm) (y0 : Int32) (u0 : Value) (u1 : Value) (u2 : Value) (u3 : Value) (u4 : Value) : Rf X S (emI σ) (f_Ru_isAtomSo_97 σ y0) d 62 97 [u0, u1, u2, u3, u4] [.int y0] σ := by
  unfold f_Ru_isAtomSo_97
  refine rf_ite (fun hq97 => ?_) (fun _ => rf_none)
  exact rf_ret c_62_97 rfl (zB_n hq97) rfl rfl
def f_Ru_isAtomSo_109 (σ : Mm) (y0 : Int32) : Option Int32 := if zB y0 = true then some y0 else none
set_option maxRecDepth 100000 in
set_option maxHeartbeats 4000000 in
theorem t_Ru_isAtomSo_109 {X : Xt} {S : Sh} (hS : ShOK S) {d : Nat} (hd : 0 ≤ d) (σ : Mm) (y0 : Int32) (u0 : Value) (u1 : Value) (u2 : Value) (u3 : Value) (u4 : Value) : Rf X S (emI σ) (f_Ru_isAtomSo_109 σ y0) d 62 109 [u0, u1, u2, u3, u4] [.int y0] σ := by
  unfold f_Ru_isAtomSo_109
  refine rf_ite (fun hq109 => ?_) (fun _ => rf_none)
  exact rf_ret c_62_109 rfl (zB_n hq109) rfl rfl
def f_Ru_isAtomSo_121 (σ : Mm) (y0 : Int32) : Option Int32 := if zB y0 = true then some y0 else none
set_option maxRecDepth 100000 in
set_option maxHeartbeats 4000000 in
theorem t_Ru_isAtomSo_121 {X : Xt} {S : Sh} (hS : ShOK S) {d : Nat} (hd : 0 ≤ d) (σ : Mm) (y0 : Int32) (u0 : Value) (u1 : Value) (u2 : Value) (u3 : Value) (u4 : Value) : Rf X S (emI σ) (f_Ru_isAtomSo_121 σ y0) d 62 121 [u0, u1, u2, u3, u4] [.int y0] σ := by
  unfold f_Ru_isAtomSo_121
  refine rf_ite (fun hq121 => ?_) (fun _ => rf_none)
  exact rf_ret c_62_121 rfl (zB_n hq121) rfl rfl
def f_Ru_isAtomSo_133 (σ : Mm) (y0 : Int32) : Option Int32 := if zB y0 = true then some y0 else none
set_option maxRecDepth 100000 in
set_option maxHeartbeats 4000000 in
theorem t_Ru_isAtomSo_133 {X : Xt} {S : Sh} (hS : ShOK S) {d : Nat} (hd : 0 ≤ d) (σ : Mm) (y0 : Int32) (u0 : Value) (u1 : Value) (u2 : Value) (u3 : Value) (u4 : Value) : Rf X S (emI σ) (f_Ru_isAtomSo_133 σ y0) d 62 133 [u0, u1, u2, u3, u4] [.int y0] σ := by
  unfold f_Ru_isAtomSo_133
  refine rf_ite (fun hq133 => ?_) (fun _ => rf_none)
  exact rf_ret c_62_133 rfl (zB_n hq133) rfl rfl
def f_Ru_isAtomSo_148 (σ : Mm) (y0 : Int32) : Option Int32 := if zB y0 = true then some y0 else none
set_option maxRecDepth 100000 in
set_option maxHeartbeats 4000000 in
theorem t_Ru_isAtomSo_148 {X : Xt} {S : Sh} (hS : ShOK S) {d : Nat} (hd : 0 ≤ d) (σ : Mm) (y0 : Int32) (u0 : Value) (u1 : Value) (u2 : Value) (u3 : Value) (u4 : Value) : Rf X S (emI σ) (f_Ru_isAtomSo_148 σ y0) d 62 148 [u0, u1, u2, u3, u4] [.int y0] σ := by
  unfold f_Ru_isAtomSo_148
  refine rf_ite (fun hq148 => ?_) (fun _ => rf_none)
  exact rf_ret c_62_148 rfl (zB_n hq148) rfl rfl
def f_Ru_isAtomSo_163 (σ : Mm) (y0 : Int32) : Option Int32 := if zB y0 = true then some y0 else none
set_option maxRecDepth 100000 in
set_option maxHeartbeats 4000000 in
theorem t_Ru_isAtomSo_163 {X : Xt} {S : Sh} (hS : ShOK S) {d : Nat} (hd : 0 ≤ d) (σ : Mm) (y0 : Int32) (u0 : Value) (u1 : Value) (u2 : Value) (u3 : Value) (u4 : Value) : Rf X S (emI σ) (f_Ru_isAtomSo_163 σ y0) d 62 163 [u0, u1, u2, u3, u4] [.int y0] σ := by
  unfold f_Ru_isAtomSo_163
  refine rf_ite (fun hq163 => ?_) (fun _ => rf_none)
  exact rf_ret c_62_163 rfl (zB_n hq163) rfl rfl
def f_Ru_isAtomSo_189 (σ : Mm) (y0 : Int32) : Option Int32 := if zB y0 = true then some y0 else none
set_option maxRecDepth 100000 in
set_option maxHeartbeats 4000000 in
theorem t_Ru_isAtomSo_189 {X : Xt} {S : Sh} (hS : ShOK S) {d : Nat} (hd : 0 ≤ d) (σ : Mm) (y0 : Int32) (u0 : Value) (u1 : Value) (u2 : Value) (u3 : Value) (u4 : Value) : Rf X S (emI σ) (f_Ru_isAtomSo_189 σ y0) d 62 189 [u0, u1, u2, u3, u4] [.int y0] σ := by
  unfold f_Ru_isAtomSo_189
  refine rf_ite (fun hq189 => ?_) (fun _ => rf_none)
  exact rf_ret c_62_189 rfl (zB_n hq189) rfl rfl
def f_Ru_isAtomSo_188 (σ : Mm) : Option Int32 := f_Ru_isAtomSo_189 σ (0 : Int32)
set_option maxRecDepth 100000 in
set_option maxHeartbeats 4000000 in
theorem t_Ru_isAtomSo_188 {X : Xt} {S : Sh} (hS : ShOK S) {d : Nat} (hd : 0 ≤ d) (σ : Mm) (u0 : Value) (u1 : Value) (u2 : Value) (u3 : Value) (u4 : Value) : Rf X S (emI σ) (f_Ru_isAtomSo_188 σ) d 62 188 [u0, u1, u2, u3, u4] [] σ := by
  unfold f_Ru_isAtomSo_188
  refine rf_iconst c_62_188 ki_0 ?_
  exact t_Ru_isAtomSo_189 hS hd σ  (0 : Int32) (u0) (u1) (u2) (u3) (u4)
def f_Ru_isAtomSo (σ : Mm) (x0 : Int32) (x1 : Nat) (x2 : Int32) (x3 : Int32) : Option Int32 := (if (x0 / (100000 : Int32)) = (0 : Int32) then (if (irm x0 (100000 : Int32)) ≤ (σ x1 3) then (f_Ru_isAtomSo_70 σ (0 : Int32)) else (f_Ru_isAtomSo_70 σ (1 : Int32))) else (if (x0 / (100000 : Int32)) = (1 : Int32) then (if (σ x1 3) ≤ (irm x0 (100000 : Int32)) then (f_Ru_isAtomSo_85 σ (0 : Int32)) else (f_Ru_isAtomSo_85 σ (1 : Int32))) else (if (x0 / (100000 : Int32)) = (2 : Int32) then (if (irm x0 (100000 : Int32)) ≤ x2 then (f_Ru_isAtomSo_97 σ (0 : Int32)) else (f_Ru_isAtomSo_97 σ (1 : Int32))) else (if (x0 / (100000 : Int32)) = (3 : Int32) then (if x2 ≤ (irm x0 (100000 : Int32)) then (f_Ru_isAtomSo_109 σ (0 : Int32)) else (f_Ru_isAtomSo_109 σ (1 : Int32))) else (if (x0 / (100000 : Int32)) = (4 : Int32) then (if (irm x0 (100000 : Int32)) ≤ x3 then (f_Ru_isAtomSo_121 σ (0 : Int32)) else (f_Ru_isAtomSo_121 σ (1 : Int32))) else (if (x0 / (100000 : Int32)) = (5 : Int32) then (if x3 ≤ (irm x0 (100000 : Int32)) then (f_Ru_isAtomSo_133 σ (0 : Int32)) else (f_Ru_isAtomSo_133 σ (1 : Int32))) else (if (x0 / (100000 : Int32)) = (6 : Int32) then (if ¬ (σ x1 1) = (irm x0 (100000 : Int32)) then (f_Ru_isAtomSo_148 σ (0 : Int32)) else (f_Ru_isAtomSo_148 σ (1 : Int32))) else (if (x0 / (100000 : Int32)) = (7 : Int32) then (if ¬ (σ x1 2) = (irm x0 (100000 : Int32)) then (f_Ru_isAtomSo_163 σ (0 : Int32)) else (f_Ru_isAtomSo_163 σ (1 : Int32))) else (if (8 : Int32) ≤ (irm x0 (100000 : Int32)) then (f_Ru_isAtomSo_188 σ ) else (if ¬ (((σ x1 7) >>> ((irm x0 (100000 : Int32)) &&& 31)) &&& (1 : Int32)) = (1 : Int32) then (f_Ru_isAtomSo_188 σ ) else (f_Ru_isAtomSo_189 σ (1 : Int32))))))))))))
set_option maxRecDepth 100000 in
set_option maxHeartbeats 4000000 in
theorem t_Ru_isAtomSo {X : Xt} {S : Sh} (hS : ShOK S) {d : Nat} (hd : 0 ≤ d) (σ : Mm) (x0 : Int32) (x1 : Nat) (x2 : Int32) (x3 : Int32) (h_x1 : tgT x1 = 3) : Rf X S (emI σ) (f_Ru_isAtomSo σ x0 x1 x2 x3) d 62 0 [.int x0, .ref x1, .int x2, .int x3, unset0] [] σ := by
  unfold f_Ru_isAtomSo
  refine rf_ild (i := 0) (Or.inr ⟨0, rfl, rfl, rfl⟩) c_62_0 rfl ?_
  refine rf_ldc (Or.inl ⟨rfl, rfl⟩) c_62_1 rfl kl_5_44 ?_
  refine rf_irem c_62_3 (by decide) ?_
  refine rf_ist (i := 4) (Or.inl ⟨rfl, rfl⟩) c_62_4 (Nat.le_of_ble_eq_true rfl) rfl ?_
  refine rf_ild (i := 0) (Or.inr ⟨0, rfl, rfl, rfl⟩) c_62_6 rfl ?_
  refine rf_ldc (Or.inl ⟨rfl, rfl⟩) c_62_7 rfl kl_5_44 ?_
  refine rf_idiv c_62_9 (by decide) ?_
  refine rf_ite (fun hs10_0 => ?_) (fun hs10_0 => ?_)
  · refine rf_tsw (o := 46) c_62_10 (by rw [hs10_0]; decide) rfl ?_
    refine rf_ald (i := 1) (Or.inr ⟨1, rfl, rfl, rfl⟩) c_62_56 rfl ?_
    refine rf_geti hS c_62_57 rfl fl_5_59 rfl h_x1 ?_
    refine rf_ild (i := 4) (Or.inl ⟨rfl, rfl⟩) c_62_60 rfl ?_
    refine rf_ite (fun hc62 => ?_) (fun hc62 => ?_)
    · refine rf_b2t c_62_62 rfl (decide_eq_true hc62) ?_
      refine rf_iconst c_62_69 ki_0 ?_
      exact t_Ru_isAtomSo_70 hS hd σ  (0 : Int32) (.int x0) (.ref x1) (.int x2) (.int x3) (.int (irm x0 (100000 : Int32)))
    · refine rf_b2f c_62_62 rfl (decide_eq_false hc62) ?_
      refine rf_iconst c_62_65 ki_1 ?_
      refine rf_goto c_62_66 rfl ?_
      exact t_Ru_isAtomSo_70 hS hd σ  (1 : Int32) (.int x0) (.ref x1) (.int x2) (.int x3) (.int (irm x0 (100000 : Int32)))
  · refine rf_ite (fun hs10_1 => ?_) (fun hs10_1 => ?_)
    · refine rf_tsw (o := 61) c_62_10 (by rw [hs10_1]; decide) rfl ?_
      refine rf_ald (i := 1) (Or.inr ⟨1, rfl, rfl, rfl⟩) c_62_71 rfl ?_
      refine rf_geti hS c_62_72 rfl fl_5_59 rfl h_x1 ?_
      refine rf_ild (i := 4) (Or.inl ⟨rfl, rfl⟩) c_62_75 rfl ?_
      refine rf_ite (fun hc77 => ?_) (fun hc77 => ?_)
      · refine rf_b2t c_62_77 rfl (decide_eq_true hc77) ?_
        refine rf_iconst c_62_84 ki_0 ?_
        exact t_Ru_isAtomSo_85 hS hd σ  (0 : Int32) (.int x0) (.ref x1) (.int x2) (.int x3) (.int (irm x0 (100000 : Int32)))
      · refine rf_b2f c_62_77 rfl (decide_eq_false hc77) ?_
        refine rf_iconst c_62_80 ki_1 ?_
        refine rf_goto c_62_81 rfl ?_
        exact t_Ru_isAtomSo_85 hS hd σ  (1 : Int32) (.int x0) (.ref x1) (.int x2) (.int x3) (.int (irm x0 (100000 : Int32)))
    · refine rf_ite (fun hs10_2 => ?_) (fun hs10_2 => ?_)
      · refine rf_tsw (o := 76) c_62_10 (by rw [hs10_2]; decide) rfl ?_
        refine rf_ild (i := 2) (Or.inr ⟨2, rfl, rfl, rfl⟩) c_62_86 rfl ?_
        refine rf_ild (i := 4) (Or.inl ⟨rfl, rfl⟩) c_62_87 rfl ?_
        refine rf_ite (fun hc89 => ?_) (fun hc89 => ?_)
        · refine rf_b2t c_62_89 rfl (decide_eq_true hc89) ?_
          refine rf_iconst c_62_96 ki_0 ?_
          exact t_Ru_isAtomSo_97 hS hd σ  (0 : Int32) (.int x0) (.ref x1) (.int x2) (.int x3) (.int (irm x0 (100000 : Int32)))
        · refine rf_b2f c_62_89 rfl (decide_eq_false hc89) ?_
          refine rf_iconst c_62_92 ki_1 ?_
          refine rf_goto c_62_93 rfl ?_
          exact t_Ru_isAtomSo_97 hS hd σ  (1 : Int32) (.int x0) (.ref x1) (.int x2) (.int x3) (.int (irm x0 (100000 : Int32)))
      · refine rf_ite (fun hs10_3 => ?_) (fun hs10_3 => ?_)
        · refine rf_tsw (o := 88) c_62_10 (by rw [hs10_3]; decide) rfl ?_
          refine rf_ild (i := 2) (Or.inr ⟨2, rfl, rfl, rfl⟩) c_62_98 rfl ?_
          refine rf_ild (i := 4) (Or.inl ⟨rfl, rfl⟩) c_62_99 rfl ?_
          refine rf_ite (fun hc101 => ?_) (fun hc101 => ?_)
          · refine rf_b2t c_62_101 rfl (decide_eq_true hc101) ?_
            refine rf_iconst c_62_108 ki_0 ?_
            exact t_Ru_isAtomSo_109 hS hd σ  (0 : Int32) (.int x0) (.ref x1) (.int x2) (.int x3) (.int (irm x0 (100000 : Int32)))
          · refine rf_b2f c_62_101 rfl (decide_eq_false hc101) ?_
            refine rf_iconst c_62_104 ki_1 ?_
            refine rf_goto c_62_105 rfl ?_
            exact t_Ru_isAtomSo_109 hS hd σ  (1 : Int32) (.int x0) (.ref x1) (.int x2) (.int x3) (.int (irm x0 (100000 : Int32)))
        · refine rf_ite (fun hs10_4 => ?_) (fun hs10_4 => ?_)
          · refine rf_tsw (o := 100) c_62_10 (by rw [hs10_4]; decide) rfl ?_
            refine rf_ild (i := 3) (Or.inr ⟨3, rfl, rfl, rfl⟩) c_62_110 rfl ?_
            refine rf_ild (i := 4) (Or.inl ⟨rfl, rfl⟩) c_62_111 rfl ?_
            refine rf_ite (fun hc113 => ?_) (fun hc113 => ?_)
            · refine rf_b2t c_62_113 rfl (decide_eq_true hc113) ?_
              refine rf_iconst c_62_120 ki_0 ?_
              exact t_Ru_isAtomSo_121 hS hd σ  (0 : Int32) (.int x0) (.ref x1) (.int x2) (.int x3) (.int (irm x0 (100000 : Int32)))
            · refine rf_b2f c_62_113 rfl (decide_eq_false hc113) ?_
              refine rf_iconst c_62_116 ki_1 ?_
              refine rf_goto c_62_117 rfl ?_
              exact t_Ru_isAtomSo_121 hS hd σ  (1 : Int32) (.int x0) (.ref x1) (.int x2) (.int x3) (.int (irm x0 (100000 : Int32)))
          · refine rf_ite (fun hs10_5 => ?_) (fun hs10_5 => ?_)
            · refine rf_tsw (o := 112) c_62_10 (by rw [hs10_5]; decide) rfl ?_
              refine rf_ild (i := 3) (Or.inr ⟨3, rfl, rfl, rfl⟩) c_62_122 rfl ?_
              refine rf_ild (i := 4) (Or.inl ⟨rfl, rfl⟩) c_62_123 rfl ?_
              refine rf_ite (fun hc125 => ?_) (fun hc125 => ?_)
              · refine rf_b2t c_62_125 rfl (decide_eq_true hc125) ?_
                refine rf_iconst c_62_132 ki_0 ?_
                exact t_Ru_isAtomSo_133 hS hd σ  (0 : Int32) (.int x0) (.ref x1) (.int x2) (.int x3) (.int (irm x0 (100000 : Int32)))
              · refine rf_b2f c_62_125 rfl (decide_eq_false hc125) ?_
                refine rf_iconst c_62_128 ki_1 ?_
                refine rf_goto c_62_129 rfl ?_
                exact t_Ru_isAtomSo_133 hS hd σ  (1 : Int32) (.int x0) (.ref x1) (.int x2) (.int x3) (.int (irm x0 (100000 : Int32)))
            · refine rf_ite (fun hs10_6 => ?_) (fun hs10_6 => ?_)
              · refine rf_tsw (o := 124) c_62_10 (by rw [hs10_6]; decide) rfl ?_
                refine rf_ald (i := 1) (Or.inr ⟨1, rfl, rfl, rfl⟩) c_62_134 rfl ?_
                refine rf_geti hS c_62_135 rfl fl_5_62 rfl h_x1 ?_
                refine rf_ild (i := 4) (Or.inl ⟨rfl, rfl⟩) c_62_138 rfl ?_
                refine rf_ite (fun hc140 => ?_) (fun hc140 => ?_)
                · refine rf_b2t c_62_140 rfl (decide_eq_true hc140) ?_
                  refine rf_iconst c_62_147 ki_0 ?_
                  exact t_Ru_isAtomSo_148 hS hd σ  (0 : Int32) (.int x0) (.ref x1) (.int x2) (.int x3) (.int (irm x0 (100000 : Int32)))
                · refine rf_b2f c_62_140 rfl (decide_eq_false hc140) ?_
                  refine rf_iconst c_62_143 ki_1 ?_
                  refine rf_goto c_62_144 rfl ?_
                  exact t_Ru_isAtomSo_148 hS hd σ  (1 : Int32) (.int x0) (.ref x1) (.int x2) (.int x3) (.int (irm x0 (100000 : Int32)))
              · refine rf_ite (fun hs10_7 => ?_) (fun hs10_7 => ?_)
                · refine rf_tsw (o := 139) c_62_10 (by rw [hs10_7]; decide) rfl ?_
                  refine rf_ald (i := 1) (Or.inr ⟨1, rfl, rfl, rfl⟩) c_62_149 rfl ?_
                  refine rf_geti hS c_62_150 rfl fl_5_65 rfl h_x1 ?_
                  refine rf_ild (i := 4) (Or.inl ⟨rfl, rfl⟩) c_62_153 rfl ?_
                  refine rf_ite (fun hc155 => ?_) (fun hc155 => ?_)
                  · refine rf_b2t c_62_155 rfl (decide_eq_true hc155) ?_
                    refine rf_iconst c_62_162 ki_0 ?_
                    exact t_Ru_isAtomSo_163 hS hd σ  (0 : Int32) (.int x0) (.ref x1) (.int x2) (.int x3) (.int (irm x0 (100000 : Int32)))
                  · refine rf_b2f c_62_155 rfl (decide_eq_false hc155) ?_
                    refine rf_iconst c_62_158 ki_1 ?_
                    refine rf_goto c_62_159 rfl ?_
                    exact t_Ru_isAtomSo_163 hS hd σ  (1 : Int32) (.int x0) (.ref x1) (.int x2) (.int x3) (.int (irm x0 (100000 : Int32)))
                · refine rf_tsw c_62_10 (if_pos (by have e0 := lv_neT hs10_0 (a := 0) (by decide); have e1 := lv_neT hs10_1 (a := 1) (by decide); have e2 := lv_neT hs10_2 (a := 2) (by decide); have e3 := lv_neT hs10_3 (a := 3) (by decide); have e4 := lv_neT hs10_4 (a := 4) (by decide); have e5 := lv_neT hs10_5 (a := 5) (by decide); have e6 := lv_neT hs10_6 (a := 6) (by decide); have e7 := lv_neT hs10_7 (a := 7) (by decide); omega)) rfl ?_
                  refine rf_ild (i := 4) (Or.inl ⟨rfl, rfl⟩) c_62_164 rfl ?_
                  refine rf_bipush c_62_166 kb_8 ?_
                  refine rf_ite (fun hc168 => ?_) (fun hc168 => ?_)
                  · refine rf_b2t c_62_168 rfl (decide_eq_true hc168) ?_
                    exact t_Ru_isAtomSo_188 hS hd σ  (.int x0) (.ref x1) (.int x2) (.int x3) (.int (irm x0 (100000 : Int32)))
                  · refine rf_b2f c_62_168 rfl (decide_eq_false hc168) ?_
                    refine rf_ald (i := 1) (Or.inr ⟨1, rfl, rfl, rfl⟩) c_62_171 rfl ?_
                    refine rf_geti hS c_62_172 rfl fl_5_68 rfl h_x1 ?_
                    refine rf_ild (i := 4) (Or.inl ⟨rfl, rfl⟩) c_62_175 rfl ?_
                    refine rf_ishr c_62_177 ?_
                    refine rf_iconst c_62_178 ki_1 ?_
                    refine rf_iand c_62_179 ?_
                    refine rf_iconst c_62_180 ki_1 ?_
                    refine rf_ite (fun hc181 => ?_) (fun hc181 => ?_)
                    · refine rf_b2t c_62_181 rfl (decide_eq_true hc181) ?_
                      exact t_Ru_isAtomSo_188 hS hd σ  (.int x0) (.ref x1) (.int x2) (.int x3) (.int (irm x0 (100000 : Int32)))
                    · refine rf_b2f c_62_181 rfl (decide_eq_false hc181) ?_
                      refine rf_iconst c_62_184 ki_1 ?_
                      refine rf_goto c_62_185 rfl ?_
                      exact t_Ru_isAtomSo_189 hS hd σ  (1 : Int32) (.int x0) (.ref x1) (.int x2) (.int x3) (.int (irm x0 (100000 : Int32)))
theorem c_61_0 : cd 61 0 = some (.iconst (0), 1) := by decide +kernel
theorem c_61_1 : cd 61 1 = some (.istore 6, 2) := by decide +kernel
theorem c_61_3 : cd 61 3 = some (.iload_n 1, 1) := by decide +kernel
theorem c_61_4 : cd 61 4 = some (.istore 7, 2) := by decide +kernel
theorem c_61_6 : cd 61 6 = some (.iload 7, 2) := by decide +kernel
theorem c_61_8 : cd 61 8 = some (.iload_n 2, 1) := by decide +kernel
theorem c_61_9 : cd 61 9 = some (.if_icmp .ge (131), 3) := by decide +kernel
theorem c_61_12 : cd 61 12 = some (.iload 7, 2) := by decide +kernel
theorem c_61_14 : cd 61 14 = some (.bipush (96), 2) := by decide +kernel
theorem c_61_16 : cd 61 16 = some (.if_icmp .ge (124), 3) := by decide +kernel
theorem c_61_19 : cd 61 19 = some (.aload_n 0, 1) := by decide +kernel
theorem c_61_20 : cd 61 20 = some (.getfield 9, 3) := by decide +kernel
theorem c_61_23 : cd 61 23 = some (.iload 7, 2) := by decide +kernel
theorem c_61_25 : cd 61 25 = some (.iaload, 1) := by decide +kernel
theorem c_61_26 : cd 61 26 = some (.ldc 44, 2) := by decide +kernel
theorem c_61_28 : cd 61 28 = some (.idiv, 1) := by decide +kernel
theorem c_61_29 : cd 61 29 = some (.istore 8, 2) := by decide +kernel
theorem c_61_31 : cd 61 31 = some (.iload 6, 2) := by decide +kernel
theorem c_61_33 : cd 61 33 = some (.iconst (1), 1) := by decide +kernel
theorem c_61_34 : cd 61 34 = some (.iand, 1) := by decide +kernel
theorem c_61_35 : cd 61 35 = some (.istore 9, 2) := by decide +kernel
theorem c_61_37 : cd 61 37 = some (.iload 6, 2) := by decide +kernel
theorem c_61_39 : cd 61 39 = some (.iconst (1), 1) := by decide +kernel
theorem c_61_40 : cd 61 40 = some (.iushr, 1) := by decide +kernel
theorem c_61_41 : cd 61 41 = some (.istore 10, 2) := by decide +kernel
theorem c_61_43 : cd 61 43 = some (.iload 8, 2) := by decide +kernel
theorem c_61_45 : cd 61 45 = some (.bipush (9), 2) := by decide +kernel
theorem c_61_47 : cd 61 47 = some (.if_icmp .ne (12), 3) := by decide +kernel
theorem c_61_50 : cd 61 50 = some (.iload 6, 2) := by decide +kernel
theorem c_61_52 : cd 61 52 = some (.iconst (1), 1) := by decide +kernel
theorem c_61_53 : cd 61 53 = some (.ixor, 1) := by decide +kernel
theorem c_61_54 : cd 61 54 = some (.istore 6, 2) := by decide +kernel
theorem c_61_56 : cd 61 56 = some (.goto (78), 3) := by decide +kernel
theorem c_61_59 : cd 61 59 = some (.iload 8, 2) := by decide +kernel
theorem c_61_61 : cd 61 61 = some (.bipush (10), 2) := by decide +kernel
theorem c_61_63 : cd 61 63 = some (.if_icmp .ne (24), 3) := by decide +kernel
theorem c_61_66 : cd 61 66 = some (.iload 9, 2) := by decide +kernel
theorem c_61_68 : cd 61 68 = some (.iconst (1), 1) := by decide +kernel
theorem c_61_69 : cd 61 69 = some (.if_icmp .ne (8), 3) := by decide +kernel
theorem c_61_72 : cd 61 72 = some (.iload 10, 2) := by decide +kernel
theorem c_61_74 : cd 61 74 = some (.goto (8), 3) := by decide +kernel
theorem c_61_77 : cd 61 77 = some (.iload 10, 2) := by decide +kernel
theorem c_61_79 : cd 61 79 = some (.bipush (-2), 2) := by decide +kernel
theorem c_61_81 : cd 61 81 = some (.iand, 1) := by decide +kernel
theorem c_61_82 : cd 61 82 = some (.istore 6, 2) := by decide +kernel
theorem c_61_84 : cd 61 84 = some (.goto (50), 3) := by decide +kernel
theorem c_61_87 : cd 61 87 = some (.iload 8, 2) := by decide +kernel
theorem c_61_89 : cd 61 89 = some (.bipush (11), 2) := by decide +kernel
theorem c_61_91 : cd 61 91 = some (.if_icmp .ne (13), 3) := by decide +kernel
theorem c_61_94 : cd 61 94 = some (.iload 10, 2) := by decide +kernel
theorem c_61_96 : cd 61 96 = some (.iload 9, 2) := by decide +kernel
theorem c_61_98 : cd 61 98 = some (.ior, 1) := by decide +kernel
theorem c_61_99 : cd 61 99 = some (.istore 6, 2) := by decide +kernel
theorem c_61_101 : cd 61 101 = some (.goto (33), 3) := by decide +kernel
theorem c_61_104 : cd 61 104 = some (.iload 6, 2) := by decide +kernel
theorem c_61_106 : cd 61 106 = some (.iconst (1), 1) := by decide +kernel
theorem c_61_107 : cd 61 107 = some (.ishl, 1) := by decide +kernel
theorem c_61_108 : cd 61 108 = some (.aload_n 0, 1) := by decide +kernel
theorem c_61_109 : cd 61 109 = some (.getfield 9, 3) := by decide +kernel
theorem c_61_112 : cd 61 112 = some (.iload 7, 2) := by decide +kernel
theorem c_61_114 : cd 61 114 = some (.iaload, 1) := by decide +kernel
theorem c_61_115 : cd 61 115 = some (.aload_n 3, 1) := by decide +kernel
theorem c_61_116 : cd 61 116 = some (.iload 4, 2) := by decide +kernel
theorem c_61_118 : cd 61 118 = some (.iload 5, 2) := by decide +kernel
theorem c_61_120 : cd 61 120 = some (.invokestatic 55, 3) := by decide +kernel
theorem c_61_123 : cd 61 123 = some (.ifCond .eq (7), 3) := by decide +kernel
theorem c_61_126 : cd 61 126 = some (.iconst (1), 1) := by decide +kernel
theorem c_61_127 : cd 61 127 = some (.goto (4), 3) := by decide +kernel
theorem c_61_130 : cd 61 130 = some (.iconst (0), 1) := by decide +kernel
theorem c_61_131 : cd 61 131 = some (.ior, 1) := by decide +kernel
theorem c_61_132 : cd 61 132 = some (.istore 6, 2) := by decide +kernel
theorem c_61_134 : cd 61 134 = some (.iinc 7 (1), 3) := by decide +kernel
theorem c_61_137 : cd 61 137 = some (.goto (-131), 3) := by decide +kernel
theorem c_61_140 : cd 61 140 = some (.iload 6, 2) := by decide +kernel
theorem c_61_142 : cd 61 142 = some (.iconst (1), 1) := by decide +kernel
theorem c_61_143 : cd 61 143 = some (.iand, 1) := by decide +kernel
theorem c_61_144 : cd 61 144 = some (.iconst (1), 1) := by decide +kernel
theorem c_61_145 : cd 61 145 = some (.if_icmp .ne (7), 3) := by decide +kernel
theorem c_61_148 : cd 61 148 = some (.iconst (1), 1) := by decide +kernel
theorem c_61_149 : cd 61 149 = some (.goto (4), 3) := by decide +kernel
theorem c_61_152 : cd 61 152 = some (.iconst (0), 1) := by decide +kernel
theorem c_61_153 : cd 61 153 = some (.ireturn, 1) := by decide +kernel
def f_Ru_isSo_134 (σ : Mm) (k6 : Nat → Int32 → Nat → Int32 → Int32 → Int32 → Int32 → Option (Int32)) (x0 : Nat) (x2 : Int32) (x3 : Nat) (x4 : Int32) (x5 : Int32) (x6 : Int32) (x7 : Int32) : Option Int32 := k6 x0 x2 x3 x4 x5 x6 (x7 + (1 : Int32))
set_option maxRecDepth 100000 in
set_option maxHeartbeats 4000000 in
theorem t_Ru_isSo_134 {X : Xt} {S : Sh} (hS : ShOK S) {d : Nat} (hd : 1 ≤ d + 1) (σ : Mm) {k6 : Nat → Int32 → Nat → Int32 → Int32 → Int32 → Int32 → Option (Int32)} (hk6 : ∀ (x0 : Nat) (x2 : Int32) (x3 : Nat) (x4 : Int32) (x5 : Int32) (x6 : Int32) (x7 : Int32) (u1 : Value) (u8 : Value) (u9 : Value) (u10 : Value) (h_x0 : tgT x0 = 5) (h_x3 : tgT x3 = 3), Rf X S (emI σ) (k6 x0 x2 x3 x4 x5 x6 x7) (d + 1) 61 6 [.ref x0, u1, .int x2, .ref x3, .int x4, .int x5, .int x6, .int x7, u8, u9, u10] [] σ) (x0 : Nat) (x2 : Int32) (x3 : Nat) (x4 : Int32) (x5 : Int32) (x6 : Int32) (x7 : Int32) (u1 : Value) (u8 : Value) (u9 : Value) (u10 : Value) (h_x0 : tgT x0 = 5) (h_x3 : tgT x3 = 3) : Rf X S (emI σ) (f_Ru_isSo_134 σ k6 x0 x2 x3 x4 x5 x6 x7) (d + 1) 61 134 [.ref x0, u1, .int x2, .ref x3, .int x4, .int x5, .int x6, .int x7, u8, u9, u10] [] σ := by
  unfold f_Ru_isSo_134
  refine rf_iinc c_61_134 rfl ki_1 rfl ?_
  refine rf_goto c_61_137 rfl ?_
  exact hk6 x0 x2 x3 x4 x5 x6 (x7 + (1 : Int32)) (u1) (u8) (u9) (u10) h_x0 h_x3
def f_Ru_isSo_82 (σ : Mm) (k6 : Nat → Int32 → Nat → Int32 → Int32 → Int32 → Int32 → Option (Int32)) (x0 : Nat) (x2 : Int32) (x3 : Nat) (x4 : Int32) (x5 : Int32) (x7 : Int32) (y0 : Int32) : Option Int32 := f_Ru_isSo_134 σ k6 x0 x2 x3 x4 x5 y0 x7
set_option maxRecDepth 100000 in
set_option maxHeartbeats 4000000 in
theorem t_Ru_isSo_82 {X : Xt} {S : Sh} (hS : ShOK S) {d : Nat} (hd : 1 ≤ d + 1) (σ : Mm) {k6 : Nat → Int32 → Nat → Int32 → Int32 → Int32 → Int32 → Option (Int32)} (hk6 : ∀ (x0 : Nat) (x2 : Int32) (x3 : Nat) (x4 : Int32) (x5 : Int32) (x6 : Int32) (x7 : Int32) (u1 : Value) (u8 : Value) (u9 : Value) (u10 : Value) (h_x0 : tgT x0 = 5) (h_x3 : tgT x3 = 3), Rf X S (emI σ) (k6 x0 x2 x3 x4 x5 x6 x7) (d + 1) 61 6 [.ref x0, u1, .int x2, .ref x3, .int x4, .int x5, .int x6, .int x7, u8, u9, u10] [] σ) (x0 : Nat) (x2 : Int32) (x3 : Nat) (x4 : Int32) (x5 : Int32) (x7 : Int32) (y0 : Int32) (u1 : Value) (u6 : Value) (u8 : Value) (u9 : Value) (u10 : Value) (h_x0 : tgT x0 = 5) (h_x3 : tgT x3 = 3) : Rf X S (emI σ) (f_Ru_isSo_82 σ k6 x0 x2 x3 x4 x5 x7 y0) (d + 1) 61 82 [.ref x0, u1, .int x2, .ref x3, .int x4, .int x5, u6, .int x7, u8, u9, u10] [.int y0] σ := by
  unfold f_Ru_isSo_82
  refine rf_ist (i := 6) (Or.inl ⟨rfl, rfl⟩) c_61_82 (Nat.le_of_ble_eq_true rfl) rfl ?_
  refine rf_goto c_61_84 rfl ?_
  exact t_Ru_isSo_134 hS hd σ hk6 x0 x2 x3 x4 x5 y0 x7 (u1) (u8) (u9) (u10) h_x0 h_x3
def f_Ru_isSo_131 (σ : Mm) (k6 : Nat → Int32 → Nat → Int32 → Int32 → Int32 → Int32 → Option (Int32)) (x0 : Nat) (x2 : Int32) (x3 : Nat) (x4 : Int32) (x5 : Int32) (x7 : Int32) (y0 : Int32) (y1 : Int32) : Option Int32 := f_Ru_isSo_134 σ k6 x0 x2 x3 x4 x5 (y0 ||| y1) x7
set_option maxRecDepth 100000 in
set_option maxHeartbeats 4000000 in
theorem t_Ru_isSo_131 {X : Xt} {S : Sh} (hS : ShOK S) {d : Nat} (hd : 1 ≤ d + 1) (σ : Mm) {k6 : Nat → Int32 → Nat → Int32 → Int32 → Int32 → Int32 → Option (Int32)} (hk6 : ∀ (x0 : Nat) (x2 : Int32) (x3 : Nat) (x4 : Int32) (x5 : Int32) (x6 : Int32) (x7 : Int32) (u1 : Value) (u8 : Value) (u9 : Value) (u10 : Value) (h_x0 : tgT x0 = 5) (h_x3 : tgT x3 = 3), Rf X S (emI σ) (k6 x0 x2 x3 x4 x5 x6 x7) (d + 1) 61 6 [.ref x0, u1, .int x2, .ref x3, .int x4, .int x5, .int x6, .int x7, u8, u9, u10] [] σ) (x0 : Nat) (x2 : Int32) (x3 : Nat) (x4 : Int32) (x5 : Int32) (x7 : Int32) (y0 : Int32) (y1 : Int32) (u1 : Value) (u6 : Value) (u8 : Value) (u9 : Value) (u10 : Value) (h_x0 : tgT x0 = 5) (h_x3 : tgT x3 = 3) : Rf X S (emI σ) (f_Ru_isSo_131 σ k6 x0 x2 x3 x4 x5 x7 y0 y1) (d + 1) 61 131 [.ref x0, u1, .int x2, .ref x3, .int x4, .int x5, u6, .int x7, u8, u9, u10] [.int y1, .int y0] σ := by
  unfold f_Ru_isSo_131
  refine rf_ior c_61_131 ?_
  refine rf_ist (i := 6) (Or.inl ⟨rfl, rfl⟩) c_61_132 (Nat.le_of_ble_eq_true rfl) rfl ?_
  exact t_Ru_isSo_134 hS hd σ hk6 x0 x2 x3 x4 x5 (y0 ||| y1) x7 (u1) (u8) (u9) (u10) h_x0 h_x3
def f_Ru_isSo_153 (σ : Mm) (y0 : Int32) : Option Int32 := if zB y0 = true then some y0 else none
set_option maxRecDepth 100000 in
set_option maxHeartbeats 4000000 in
theorem t_Ru_isSo_153 {X : Xt} {S : Sh} (hS : ShOK S) {d : Nat} (hd : 1 ≤ d + 1) (σ : Mm) (y0 : Int32) (u0 : Value) (u1 : Value) (u2 : Value) (u3 : Value) (u4 : Value) (u5 : Value) (u6 : Value) (u7 : Value) (u8 : Value) (u9 : Value) (u10 : Value) : Rf X S (emI σ) (f_Ru_isSo_153 σ y0) (d + 1) 61 153 [u0, u1, u2, u3, u4, u5, u6, u7, u8, u9, u10] [.int y0] σ := by
  unfold f_Ru_isSo_153
  refine rf_ite (fun hq153 => ?_) (fun _ => rf_none)
  exact rf_ret c_61_153 rfl (zB_n hq153) rfl rfl
def f_Ru_isSo_140 (σ : Mm) (x6 : Int32) : Option Int32 := (if ¬ (x6 &&& (1 : Int32)) = (1 : Int32) then (f_Ru_isSo_153 σ (0 : Int32)) else (f_Ru_isSo_153 σ (1 : Int32)))
set_option maxRecDepth 100000 in
set_option maxHeartbeats 4000000 in
theorem t_Ru_isSo_140 {X : Xt} {S : Sh} (hS : ShOK S) {d : Nat} (hd : 1 ≤ d + 1) (σ : Mm) (x6 : Int32) (u0 : Value) (u1 : Value) (u2 : Value) (u3 : Value) (u4 : Value) (u5 : Value) (u7 : Value) (u8 : Value) (u9 : Value) (u10 : Value) : Rf X S (emI σ) (f_Ru_isSo_140 σ x6) (d + 1) 61 140 [u0, u1, u2, u3, u4, u5, .int x6, u7, u8, u9, u10] [] σ := by
  unfold f_Ru_isSo_140
  refine rf_ild (i := 6) (Or.inl ⟨rfl, rfl⟩) c_61_140 rfl ?_
  refine rf_iconst c_61_142 ki_1 ?_
  refine rf_iand c_61_143 ?_
  refine rf_iconst c_61_144 ki_1 ?_
  refine rf_ite (fun hc145 => ?_) (fun hc145 => ?_)
  · refine rf_b2t c_61_145 rfl (decide_eq_true hc145) ?_
    refine rf_iconst c_61_152 ki_0 ?_
    exact t_Ru_isSo_153 hS hd σ  (0 : Int32) (u0) (u1) (u2) (u3) (u4) (u5) (.int x6) (u7) (u8) (u9) (u10)
  · refine rf_b2f c_61_145 rfl (decide_eq_false hc145) ?_
    refine rf_iconst c_61_148 ki_1 ?_
    refine rf_goto c_61_149 rfl ?_
    exact t_Ru_isSo_153 hS hd σ  (1 : Int32) (u0) (u1) (u2) (u3) (u4) (u5) (.int x6) (u7) (u8) (u9) (u10)
def f_Ru_isSo_6 (σ : Mm) : Nat → Nat → Int32 → Nat → Int32 → Int32 → Int32 → Int32 → Option Int32
  | 0, _, _, _, _, _, _, _ => none
  | n + 1, x0, x2, x3, x4, x5, x6, x7 => (if x2 ≤ x7 then (f_Ru_isSo_140 σ x6) else (if (96 : Int32) ≤ x7 then (f_Ru_isSo_140 σ x6) else (if inbB x7 96 = true then (if ¬ ((σ (rfT x0 7) (ix x7)) / (100000 : Int32)) = (9 : Int32) then (if ¬ ((σ (rfT x0 7) (ix x7)) / (100000 : Int32)) = (10 : Int32) then (if ¬ ((σ (rfT x0 7) (ix x7)) / (100000 : Int32)) = (11 : Int32) then (if inbB x7 96 = true then (f_Ru_isAtomSo σ (σ (rfT x0 7) (ix x7)) x3 x4 x5).bind fun v120 => (if v120 = 0 then (f_Ru_isSo_131 σ (f_Ru_isSo_6 σ n) x0 x2 x3 x4 x5 x7 (x6 <<< ((1 : Int32) &&& 31)) (0 : Int32)) else (f_Ru_isSo_131 σ (f_Ru_isSo_6 σ n) x0 x2 x3 x4 x5 x7 (x6 <<< ((1 : Int32) &&& 31)) (1 : Int32))) else none) else (f_Ru_isSo_134 σ (f_Ru_isSo_6 σ n) x0 x2 x3 x4 x5 ((ush x6 (1 : Int32)) ||| (x6 &&& (1 : Int32))) x7)) else (if ¬ (x6 &&& (1 : Int32)) = (1 : Int32) then (f_Ru_isSo_82 σ (f_Ru_isSo_6 σ n) x0 x2 x3 x4 x5 x7 ((ush x6 (1 : Int32)) &&& (-2 : Int32))) else (f_Ru_isSo_82 σ (f_Ru_isSo_6 σ n) x0 x2 x3 x4 x5 x7 (ush x6 (1 : Int32))))) else (f_Ru_isSo_134 σ (f_Ru_isSo_6 σ n) x0 x2 x3 x4 x5 (x6 ^^^ (1 : Int32)) x7)) else none)))
set_option maxRecDepth 100000 in
set_option maxHeartbeats 4000000 in
theorem t_Ru_isSo_6 {X : Xt} {S : Sh} (hS : ShOK S) {d : Nat} (hd : 1 ≤ d + 1) (σ : Mm) : ∀ (n : Nat) (x0 : Nat) (x2 : Int32) (x3 : Nat) (x4 : Int32) (x5 : Int32) (x6 : Int32) (x7 : Int32) (u1 : Value) (u8 : Value) (u9 : Value) (u10 : Value) (h_x0 : tgT x0 = 5) (h_x3 : tgT x3 = 3), Rf X S (emI σ) (f_Ru_isSo_6 σ n x0 x2 x3 x4 x5 x6 x7) (d + 1) 61 6 [.ref x0, u1, .int x2, .ref x3, .int x4, .int x5, .int x6, .int x7, u8, u9, u10] [] σ := by
  intro n
  induction n with
  | zero => intro x0 x2 x3 x4 x5 x6 x7 u1 u8 u9 u10 h_x0 h_x3; exact rf_none
  | succ n ih =>
    intro x0 x2 x3 x4 x5 x6 x7 u1 u8 u9 u10 h_x0 h_x3
    rw [f_Ru_isSo_6]
    refine rf_ild (i := 7) (Or.inl ⟨rfl, rfl⟩) c_61_6 rfl ?_
    refine rf_ild (i := 2) (Or.inr ⟨2, rfl, rfl, rfl⟩) c_61_8 rfl ?_
    refine rf_ite (fun hc9 => ?_) (fun hc9 => ?_)
    · refine rf_b2t c_61_9 rfl (decide_eq_true hc9) ?_
      exact t_Ru_isSo_140 hS hd σ  x6 (.ref x0) (u1) (.int x2) (.ref x3) (.int x4) (.int x5) (.int x7) (u8) (u9) (u10)
    · refine rf_b2f c_61_9 rfl (decide_eq_false hc9) ?_
      refine rf_ild (i := 7) (Or.inl ⟨rfl, rfl⟩) c_61_12 rfl ?_
      refine rf_bipush c_61_14 kb_96 ?_
      refine rf_ite (fun hc16 => ?_) (fun hc16 => ?_)
      · refine rf_b2t c_61_16 rfl (decide_eq_true hc16) ?_
        exact t_Ru_isSo_140 hS hd σ  x6 (.ref x0) (u1) (.int x2) (.ref x3) (.int x4) (.int x5) (.int x7) (u8) (u9) (u10)
      · refine rf_b2f c_61_16 rfl (decide_eq_false hc16) ?_
        refine rf_ald (i := 0) (Or.inr ⟨0, rfl, rfl, rfl⟩) c_61_19 rfl ?_
        refine rf_getr hS c_61_20 rfl fl_5_9 rfl h_x0 ?_
        refine rf_ild (i := 7) (Or.inl ⟨rfl, rfl⟩) c_61_23 rfl ?_
        refine rf_ite (fun hb25 => ?_) (fun _ => rf_none)
        refine rf_iald hS c_61_25 (tf_5_7 h_x0) (lf_5_7 h_x0) hb25 ?_
        refine rf_ldc (Or.inl ⟨rfl, rfl⟩) c_61_26 rfl kl_5_44 ?_
        refine rf_idiv c_61_28 (by decide) ?_
        refine rf_ist (i := 8) (Or.inl ⟨rfl, rfl⟩) c_61_29 (Nat.le_of_ble_eq_true rfl) rfl ?_
        refine rf_ild (i := 6) (Or.inl ⟨rfl, rfl⟩) c_61_31 rfl ?_
        refine rf_iconst c_61_33 ki_1 ?_
        refine rf_iand c_61_34 ?_
        refine rf_ist (i := 9) (Or.inl ⟨rfl, rfl⟩) c_61_35 (Nat.le_of_ble_eq_true rfl) rfl ?_
        refine rf_ild (i := 6) (Or.inl ⟨rfl, rfl⟩) c_61_37 rfl ?_
        refine rf_iconst c_61_39 ki_1 ?_
        refine rf_iushr c_61_40 ?_
        refine rf_ist (i := 10) (Or.inl ⟨rfl, rfl⟩) c_61_41 (Nat.le_of_ble_eq_true rfl) rfl ?_
        refine rf_ild (i := 8) (Or.inl ⟨rfl, rfl⟩) c_61_43 rfl ?_
        refine rf_bipush c_61_45 kb_9 ?_
        refine rf_ite (fun hc47 => ?_) (fun hc47 => ?_)
        · refine rf_b2t c_61_47 rfl (decide_eq_true hc47) ?_
          refine rf_ild (i := 8) (Or.inl ⟨rfl, rfl⟩) c_61_59 rfl ?_
          refine rf_bipush c_61_61 kb_10 ?_
          refine rf_ite (fun hc63 => ?_) (fun hc63 => ?_)
          · refine rf_b2t c_61_63 rfl (decide_eq_true hc63) ?_
            refine rf_ild (i := 8) (Or.inl ⟨rfl, rfl⟩) c_61_87 rfl ?_
            refine rf_bipush c_61_89 kb_11 ?_
            refine rf_ite (fun hc91 => ?_) (fun hc91 => ?_)
            · refine rf_b2t c_61_91 rfl (decide_eq_true hc91) ?_
              refine rf_ild (i := 6) (Or.inl ⟨rfl, rfl⟩) c_61_104 rfl ?_
              refine rf_iconst c_61_106 ki_1 ?_
              refine rf_ishl c_61_107 ?_
              refine rf_ald (i := 0) (Or.inr ⟨0, rfl, rfl, rfl⟩) c_61_108 rfl ?_
              refine rf_getr hS c_61_109 rfl fl_5_9 rfl h_x0 ?_
              refine rf_ild (i := 7) (Or.inl ⟨rfl, rfl⟩) c_61_112 rfl ?_
              refine rf_ite (fun hb114 => ?_) (fun _ => rf_none)
              refine rf_iald hS c_61_114 (tf_5_7 h_x0) (lf_5_7 h_x0) hb114 ?_
              refine rf_ald (i := 3) (Or.inr ⟨3, rfl, rfl, rfl⟩) c_61_115 rfl ?_
              refine rf_ild (i := 4) (Or.inl ⟨rfl, rfl⟩) c_61_116 rfl ?_
              refine rf_ild (i := 5) (Or.inl ⟨rfl, rfl⟩) c_61_118 rfl ?_
              refine rf_callI (as := [.int (σ (rfT x0 7) (ix x7)), .ref x3, .int x4, .int x5]) (kd := 0) c_61_120 rfl (by decide) rfl ml_5_55 (by decide) rfl (rcv_0 rfl) (by simp [Value.category]) rfl rfl (t_Ru_isAtomSo hS (by omega) σ (σ (rfT x0 7) (ix x7)) x3 x4 x5 h_x3) (fun v120 => ?_)
              refine rf_ite (fun hc123 => ?_) (fun hc123 => ?_)
              · refine rf_b1t c_61_123 rfl (decide_eq_true hc123) ?_
                refine rf_iconst c_61_130 ki_0 ?_
                exact t_Ru_isSo_131 hS hd σ ih x0 x2 x3 x4 x5 x7 (x6 <<< ((1 : Int32) &&& 31)) (0 : Int32) (u1) (.int x6) (.int ((σ (rfT x0 7) (ix x7)) / (100000 : Int32))) (.int (x6 &&& (1 : Int32))) (.int (ush x6 (1 : Int32))) h_x0 h_x3
              · refine rf_b1f c_61_123 rfl (decide_eq_false hc123) ?_
                refine rf_iconst c_61_126 ki_1 ?_
                refine rf_goto c_61_127 rfl ?_
                exact t_Ru_isSo_131 hS hd σ ih x0 x2 x3 x4 x5 x7 (x6 <<< ((1 : Int32) &&& 31)) (1 : Int32) (u1) (.int x6) (.int ((σ (rfT x0 7) (ix x7)) / (100000 : Int32))) (.int (x6 &&& (1 : Int32))) (.int (ush x6 (1 : Int32))) h_x0 h_x3
            · refine rf_b2f c_61_91 rfl (decide_eq_false hc91) ?_
              refine rf_ild (i := 10) (Or.inl ⟨rfl, rfl⟩) c_61_94 rfl ?_
              refine rf_ild (i := 9) (Or.inl ⟨rfl, rfl⟩) c_61_96 rfl ?_
              refine rf_ior c_61_98 ?_
              refine rf_ist (i := 6) (Or.inl ⟨rfl, rfl⟩) c_61_99 (Nat.le_of_ble_eq_true rfl) rfl ?_
              refine rf_goto c_61_101 rfl ?_
              exact t_Ru_isSo_134 hS hd σ ih x0 x2 x3 x4 x5 ((ush x6 (1 : Int32)) ||| (x6 &&& (1 : Int32))) x7 (u1) (.int ((σ (rfT x0 7) (ix x7)) / (100000 : Int32))) (.int (x6 &&& (1 : Int32))) (.int (ush x6 (1 : Int32))) h_x0 h_x3
          · refine rf_b2f c_61_63 rfl (decide_eq_false hc63) ?_
            refine rf_ild (i := 9) (Or.inl ⟨rfl, rfl⟩) c_61_66 rfl ?_
            refine rf_iconst c_61_68 ki_1 ?_
            refine rf_ite (fun hc69 => ?_) (fun hc69 => ?_)
            · refine rf_b2t c_61_69 rfl (decide_eq_true hc69) ?_
              refine rf_ild (i := 10) (Or.inl ⟨rfl, rfl⟩) c_61_77 rfl ?_
              refine rf_bipush c_61_79 kb_m2 ?_
              refine rf_iand c_61_81 ?_
              exact t_Ru_isSo_82 hS hd σ ih x0 x2 x3 x4 x5 x7 ((ush x6 (1 : Int32)) &&& (-2 : Int32)) (u1) (.int x6) (.int ((σ (rfT x0 7) (ix x7)) / (100000 : Int32))) (.int (x6 &&& (1 : Int32))) (.int (ush x6 (1 : Int32))) h_x0 h_x3
            · refine rf_b2f c_61_69 rfl (decide_eq_false hc69) ?_
              refine rf_ild (i := 10) (Or.inl ⟨rfl, rfl⟩) c_61_72 rfl ?_
              refine rf_goto c_61_74 rfl ?_
              exact t_Ru_isSo_82 hS hd σ ih x0 x2 x3 x4 x5 x7 (ush x6 (1 : Int32)) (u1) (.int x6) (.int ((σ (rfT x0 7) (ix x7)) / (100000 : Int32))) (.int (x6 &&& (1 : Int32))) (.int (ush x6 (1 : Int32))) h_x0 h_x3
        · refine rf_b2f c_61_47 rfl (decide_eq_false hc47) ?_
          refine rf_ild (i := 6) (Or.inl ⟨rfl, rfl⟩) c_61_50 rfl ?_
          refine rf_iconst c_61_52 ki_1 ?_
          refine rf_ixor c_61_53 ?_
          refine rf_ist (i := 6) (Or.inl ⟨rfl, rfl⟩) c_61_54 (Nat.le_of_ble_eq_true rfl) rfl ?_
          refine rf_goto c_61_56 rfl ?_
          exact t_Ru_isSo_134 hS hd σ ih x0 x2 x3 x4 x5 (x6 ^^^ (1 : Int32)) x7 (u1) (.int ((σ (rfT x0 7) (ix x7)) / (100000 : Int32))) (.int (x6 &&& (1 : Int32))) (.int (ush x6 (1 : Int32))) h_x0 h_x3
def f_Ru_isSo (σ : Mm) (x0 : Nat) (x1 : Int32) (x2 : Int32) (x3 : Nat) (x4 : Int32) (x5 : Int32) : Option Int32 := f_Ru_isSo_6 σ NN x0 x2 x3 x4 x5 (0 : Int32) x1
set_option maxRecDepth 100000 in
set_option maxHeartbeats 4000000 in
theorem t_Ru_isSo_e {X : Xt} {S : Sh} (hS : ShOK S) {d : Nat} (hd : 1 ≤ d + 1) (σ : Mm) (x0 : Nat) (x1 : Int32) (x2 : Int32) (x3 : Nat) (x4 : Int32) (x5 : Int32) (h_x0 : tgT x0 = 5) (h_x3 : tgT x3 = 3) : Rf X S (emI σ) (f_Ru_isSo σ x0 x1 x2 x3 x4 x5) (d + 1) 61 0 [.ref x0, .int x1, .int x2, .ref x3, .int x4, .int x5, unset0, unset0, unset0, unset0, unset0] [] σ := by
  unfold f_Ru_isSo
  refine rf_iconst c_61_0 ki_0 ?_
  refine rf_ist (i := 6) (Or.inl ⟨rfl, rfl⟩) c_61_1 (Nat.le_of_ble_eq_true rfl) rfl ?_
  refine rf_ild (i := 1) (Or.inr ⟨1, rfl, rfl, rfl⟩) c_61_3 rfl ?_
  refine rf_ist (i := 7) (Or.inl ⟨rfl, rfl⟩) c_61_4 (Nat.le_of_ble_eq_true rfl) rfl ?_
  exact t_Ru_isSo_6 hS hd σ  NN x0 x2 x3 x4 x5 (0 : Int32) x1 (.int x1) (unset0) (unset0) (unset0) h_x0 h_x3
theorem t_Ru_isSo {X : Xt} {S : Sh} (hS : ShOK S) {d : Nat} (hd : 1 ≤ d) (σ : Mm) (x0 : Nat) (x1 : Int32) (x2 : Int32) (x3 : Nat) (x4 : Int32) (x5 : Int32) (h_x0 : tgT x0 = 5) (h_x3 : tgT x3 = 3) : Rf X S (emI σ) (f_Ru_isSo σ x0 x1 x2 x3 x4 x5) d 61 0 [.ref x0, .int x1, .int x2, .ref x3, .int x4, .int x5, unset0, unset0, unset0, unset0, unset0] [] σ := by
  obtain ⟨d1, rfl⟩ : ∃ d1, d = d1 + 1 := ⟨d - 1, by omega⟩
  exact t_Ru_isSo_e hS hd σ x0 x1 x2 x3 x4 x5 h_x0 h_x3
theorem c_60_0 : cd 60 0 = some (.aload_n 0, 1) := by decide +kernel
theorem c_60_1 : cd 60 1 = some (.getfield 25, 3) := by decide +kernel
theorem c_60_4 : cd 60 4 = some (.iload_n 2, 1) := by decide +kernel
theorem c_60_5 : cd 60 5 = some (.if_icmp .gt (22), 3) := by decide +kernel
theorem c_60_8 : cd 60 8 = some (.aload_n 0, 1) := by decide +kernel
theorem c_60_9 : cd 60 9 = some (.getfield 15, 3) := by decide +kernel
theorem c_60_12 : cd 60 12 = some (.iconst (5), 1) := by decide +kernel
theorem c_60_13 : cd 60 13 = some (.if_icmp .eq (16), 3) := by decide +kernel
theorem c_60_16 : cd 60 16 = some (.aload_n 1, 1) := by decide +kernel
theorem c_60_17 : cd 60 17 = some (.aload_n 0, 1) := by decide +kernel
theorem c_60_18 : cd 60 18 = some (.getfield 19, 3) := by decide +kernel
theorem c_60_21 : cd 60 21 = some (.invokevirtual 45, 3) := by decide +kernel
theorem c_60_24 : cd 60 24 = some (.ifCond .ne (5), 3) := by decide +kernel
theorem c_60_27 : cd 60 27 = some (.iconst (0), 1) := by decide +kernel
theorem c_60_28 : cd 60 28 = some (.ireturn, 1) := by decide +kernel
theorem c_60_29 : cd 60 29 = some (.aload_n 0, 1) := by decide +kernel
theorem c_60_30 : cd 60 30 = some (.getfield 31, 3) := by decide +kernel
theorem c_60_33 : cd 60 33 = some (.ifCond .le (20), 3) := by decide +kernel
theorem c_60_36 : cd 60 36 = some (.aload_n 0, 1) := by decide +kernel
theorem c_60_37 : cd 60 37 = some (.iconst (0), 1) := by decide +kernel
theorem c_60_38 : cd 60 38 = some (.aload_n 0, 1) := by decide +kernel
theorem c_60_39 : cd 60 39 = some (.getfield 31, 3) := by decide +kernel
theorem c_60_42 : cd 60 42 = some (.aload_n 1, 1) := by decide +kernel
theorem c_60_43 : cd 60 43 = some (.iload_n 2, 1) := by decide +kernel
theorem c_60_44 : cd 60 44 = some (.iload_n 3, 1) := by decide +kernel
theorem c_60_45 : cd 60 45 = some (.invokevirtual 51, 3) := by decide +kernel
theorem c_60_48 : cd 60 48 = some (.ifCond .ne (5), 3) := by decide +kernel
theorem c_60_51 : cd 60 51 = some (.iconst (0), 1) := by decide +kernel
theorem c_60_52 : cd 60 52 = some (.ireturn, 1) := by decide +kernel
theorem c_60_53 : cd 60 53 = some (.aload_n 0, 1) := by decide +kernel
theorem c_60_54 : cd 60 54 = some (.getfield 34, 3) := by decide +kernel
theorem c_60_57 : cd 60 57 = some (.aload_n 0, 1) := by decide +kernel
theorem c_60_58 : cd 60 58 = some (.getfield 31, 3) := by decide +kernel
theorem c_60_61 : cd 60 61 = some (.if_icmp .eq (21), 3) := by decide +kernel
theorem c_60_64 : cd 60 64 = some (.aload_n 0, 1) := by decide +kernel
theorem c_60_65 : cd 60 65 = some (.aload_n 0, 1) := by decide +kernel
theorem c_60_66 : cd 60 66 = some (.getfield 31, 3) := by decide +kernel
theorem c_60_69 : cd 60 69 = some (.aload_n 0, 1) := by decide +kernel
theorem c_60_70 : cd 60 70 = some (.getfield 34, 3) := by decide +kernel
theorem c_60_73 : cd 60 73 = some (.aload_n 1, 1) := by decide +kernel
theorem c_60_74 : cd 60 74 = some (.iload_n 2, 1) := by decide +kernel
theorem c_60_75 : cd 60 75 = some (.iload_n 3, 1) := by decide +kernel
theorem c_60_76 : cd 60 76 = some (.invokevirtual 51, 3) := by decide +kernel
theorem c_60_79 : cd 60 79 = some (.ifCond .ne (7), 3) := by decide +kernel
theorem c_60_82 : cd 60 82 = some (.iconst (1), 1) := by decide +kernel
theorem c_60_83 : cd 60 83 = some (.goto (4), 3) := by decide +kernel
theorem c_60_86 : cd 60 86 = some (.iconst (0), 1) := by decide +kernel
theorem c_60_87 : cd 60 87 = some (.ireturn, 1) := by decide +kernel
def f_Ru_fits_27 (σ : Mm) : Option Int32 := some (0 : Int32)
set_option maxRecDepth 100000 in
set_option maxHeartbeats 4000000 in
theorem t_Ru_fits_27 {X : Xt} {S : Sh} (hS : ShOK S) {d : Nat} (hd : 2 ≤ d + 1) (σ : Mm) (u0 : Value) (u1 : Value) (u2 : Value) (u3 : Value) : Rf X S (emI σ) (f_Ru_fits_27 σ) (d + 1) 60 27 [u0, u1, u2, u3] [] σ := by
  unfold f_Ru_fits_27
  refine rf_iconst c_60_27 ki_0 ?_
  exact rf_ret c_60_28 rfl (by decide) rfl rfl
def f_Ru_fits_87 (σ : Mm) (y0 : Int32) : Option Int32 := if zB y0 = true then some y0 else none
set_option maxRecDepth 100000 in
set_option maxHeartbeats 4000000 in
theorem t_Ru_fits_87 {X : Xt} {S : Sh} (hS : ShOK S) {d : Nat} (hd : 2 ≤ d + 1) (σ : Mm) (y0 : Int32) (u0 : Value) (u1 : Value) (u2 : Value) (u3 : Value) : Rf X S (emI σ) (f_Ru_fits_87 σ y0) (d + 1) 60 87 [u0, u1, u2, u3] [.int y0] σ := by
  unfold f_Ru_fits_87
  refine rf_ite (fun hq87 => ?_) (fun _ => rf_none)
  exact rf_ret c_60_87 rfl (zB_n hq87) rfl rfl
def f_Ru_fits_82 (σ : Mm) : Option Int32 := f_Ru_fits_87 σ (1 : Int32)
set_option maxRecDepth 100000 in
set_option maxHeartbeats 4000000 in
theorem t_Ru_fits_82 {X : Xt} {S : Sh} (hS : ShOK S) {d : Nat} (hd : 2 ≤ d + 1) (σ : Mm) (u0 : Value) (u1 : Value) (u2 : Value) (u3 : Value) : Rf X S (emI σ) (f_Ru_fits_82 σ) (d + 1) 60 82 [u0, u1, u2, u3] [] σ := by
  unfold f_Ru_fits_82
  refine rf_iconst c_60_82 ki_1 ?_
  refine rf_goto c_60_83 rfl ?_
  exact t_Ru_fits_87 hS hd σ  (1 : Int32) (u0) (u1) (u2) (u3)
def f_Ru_fits_53 (σ : Mm) (x0 : Nat) (x1 : Nat) (x2 : Int32) (x3 : Int32) : Option Int32 := (if (σ x0 6) = (σ x0 5) then (f_Ru_fits_82 σ ) else ((f_Ru_isSo σ x0 (σ x0 5) (σ x0 6) x1 x2 x3).bind fun v76 => (if ¬ v76 = 0 then (f_Ru_fits_87 σ (0 : Int32)) else (f_Ru_fits_82 σ ))))
set_option maxRecDepth 100000 in
set_option maxHeartbeats 4000000 in
theorem t_Ru_fits_53 {X : Xt} {S : Sh} (hS : ShOK S) {d : Nat} (hd : 2 ≤ d + 1) (σ : Mm) (x0 : Nat) (x1 : Nat) (x2 : Int32) (x3 : Int32) (h_x0 : tgT x0 = 5) (h_x1 : tgT x1 = 3) : Rf X S (emI σ) (f_Ru_fits_53 σ x0 x1 x2 x3) (d + 1) 60 53 [.ref x0, .ref x1, .int x2, .int x3] [] σ := by
  unfold f_Ru_fits_53
  refine rf_ald (i := 0) (Or.inr ⟨0, rfl, rfl, rfl⟩) c_60_53 rfl ?_
  refine rf_geti hS c_60_54 rfl fl_5_34 rfl h_x0 ?_
  refine rf_ald (i := 0) (Or.inr ⟨0, rfl, rfl, rfl⟩) c_60_57 rfl ?_
  refine rf_geti hS c_60_58 rfl fl_5_31 rfl h_x0 ?_
  refine rf_ite (fun hc61 => ?_) (fun hc61 => ?_)
  · refine rf_b2t c_60_61 rfl (decide_eq_true hc61) ?_
    exact t_Ru_fits_82 hS hd σ  (.ref x0) (.ref x1) (.int x2) (.int x3)
  · refine rf_b2f c_60_61 rfl (decide_eq_false hc61) ?_
    refine rf_ald (i := 0) (Or.inr ⟨0, rfl, rfl, rfl⟩) c_60_64 rfl ?_
    refine rf_ald (i := 0) (Or.inr ⟨0, rfl, rfl, rfl⟩) c_60_65 rfl ?_
    refine rf_geti hS c_60_66 rfl fl_5_31 rfl h_x0 ?_
    refine rf_ald (i := 0) (Or.inr ⟨0, rfl, rfl, rfl⟩) c_60_69 rfl ?_
    refine rf_geti hS c_60_70 rfl fl_5_34 rfl h_x0 ?_
    refine rf_ald (i := 1) (Or.inr ⟨1, rfl, rfl, rfl⟩) c_60_73 rfl ?_
    refine rf_ild (i := 2) (Or.inr ⟨2, rfl, rfl, rfl⟩) c_60_74 rfl ?_
    refine rf_ild (i := 3) (Or.inr ⟨3, rfl, rfl, rfl⟩) c_60_75 rfl ?_
    refine rf_callI (as := [.ref x0, .int (σ x0 5), .int (σ x0 6), .ref x1, .int x2, .int x3]) (kd := 1) c_60_76 rfl (by decide) rfl ml_5_51 (by decide) rfl (rcv_1 hS rfl rfl h_x0 (by decide)) (Nat.zero_le _) rfl rfl (t_Ru_isSo hS (by omega) σ x0 (σ x0 5) (σ x0 6) x1 x2 x3 h_x0 h_x1) (fun v76 => ?_)
    refine rf_ite (fun hc79 => ?_) (fun hc79 => ?_)
    · refine rf_b1t c_60_79 rfl (decide_eq_true hc79) ?_
      refine rf_iconst c_60_86 ki_0 ?_
      exact t_Ru_fits_87 hS hd σ  (0 : Int32) (.ref x0) (.ref x1) (.int x2) (.int x3)
    · refine rf_b1f c_60_79 rfl (decide_eq_false hc79) ?_
      exact t_Ru_fits_82 hS hd σ  (.ref x0) (.ref x1) (.int x2) (.int x3)
def f_Ru_fits_29 (σ : Mm) (x0 : Nat) (x1 : Nat) (x2 : Int32) (x3 : Int32) : Option Int32 := (if (σ x0 5) ≤ 0 then (f_Ru_fits_53 σ x0 x1 x2 x3) else ((f_Ru_isSo σ x0 (0 : Int32) (σ x0 5) x1 x2 x3).bind fun v45 => (if ¬ v45 = 0 then (f_Ru_fits_53 σ x0 x1 x2 x3) else (some (0 : Int32)))))
set_option maxRecDepth 100000 in
set_option maxHeartbeats 4000000 in
theorem t_Ru_fits_29 {X : Xt} {S : Sh} (hS : ShOK S) {d : Nat} (hd : 2 ≤ d + 1) (σ : Mm) (x0 : Nat) (x1 : Nat) (x2 : Int32) (x3 : Int32) (h_x0 : tgT x0 = 5) (h_x1 : tgT x1 = 3) : Rf X S (emI σ) (f_Ru_fits_29 σ x0 x1 x2 x3) (d + 1) 60 29 [.ref x0, .ref x1, .int x2, .int x3] [] σ := by
  unfold f_Ru_fits_29
  refine rf_ald (i := 0) (Or.inr ⟨0, rfl, rfl, rfl⟩) c_60_29 rfl ?_
  refine rf_geti hS c_60_30 rfl fl_5_31 rfl h_x0 ?_
  refine rf_ite (fun hc33 => ?_) (fun hc33 => ?_)
  · refine rf_b1t c_60_33 rfl (decide_eq_true hc33) ?_
    exact t_Ru_fits_53 hS hd σ  x0 x1 x2 x3 h_x0 h_x1
  · refine rf_b1f c_60_33 rfl (decide_eq_false hc33) ?_
    refine rf_ald (i := 0) (Or.inr ⟨0, rfl, rfl, rfl⟩) c_60_36 rfl ?_
    refine rf_iconst c_60_37 ki_0 ?_
    refine rf_ald (i := 0) (Or.inr ⟨0, rfl, rfl, rfl⟩) c_60_38 rfl ?_
    refine rf_geti hS c_60_39 rfl fl_5_31 rfl h_x0 ?_
    refine rf_ald (i := 1) (Or.inr ⟨1, rfl, rfl, rfl⟩) c_60_42 rfl ?_
    refine rf_ild (i := 2) (Or.inr ⟨2, rfl, rfl, rfl⟩) c_60_43 rfl ?_
    refine rf_ild (i := 3) (Or.inr ⟨3, rfl, rfl, rfl⟩) c_60_44 rfl ?_
    refine rf_callI (as := [.ref x0, .int (0 : Int32), .int (σ x0 5), .ref x1, .int x2, .int x3]) (kd := 1) c_60_45 rfl (by decide) rfl ml_5_51 (by decide) rfl (rcv_1 hS rfl rfl h_x0 (by decide)) (Nat.zero_le _) rfl rfl (t_Ru_isSo hS (by omega) σ x0 (0 : Int32) (σ x0 5) x1 x2 x3 h_x0 h_x1) (fun v45 => ?_)
    refine rf_ite (fun hc48 => ?_) (fun hc48 => ?_)
    · refine rf_b1t c_60_48 rfl (decide_eq_true hc48) ?_
      exact t_Ru_fits_53 hS hd σ  x0 x1 x2 x3 h_x0 h_x1
    · refine rf_b1f c_60_48 rfl (decide_eq_false hc48) ?_
      refine rf_iconst c_60_51 ki_0 ?_
      exact rf_ret c_60_52 rfl (by decide) rfl rfl
def f_Ru_fits (σ : Mm) (x0 : Nat) (x1 : Nat) (x2 : Int32) (x3 : Int32) : Option Int32 := (if x2 < (σ x0 3) then (f_Ru_fits_27 σ ) else (if (σ x0 0) = (5 : Int32) then (f_Ru_fits_29 σ x0 x1 x2 x3) else ((f_Pa_isOfKind σ x1 (σ x0 1)).bind fun v21 => (if ¬ v21 = 0 then (f_Ru_fits_29 σ x0 x1 x2 x3) else (f_Ru_fits_27 σ )))))
set_option maxRecDepth 100000 in
set_option maxHeartbeats 4000000 in
theorem t_Ru_fits_e {X : Xt} {S : Sh} (hS : ShOK S) {d : Nat} (hd : 2 ≤ d + 1) (σ : Mm) (x0 : Nat) (x1 : Nat) (x2 : Int32) (x3 : Int32) (h_x0 : tgT x0 = 5) (h_x1 : tgT x1 = 3) : Rf X S (emI σ) (f_Ru_fits σ x0 x1 x2 x3) (d + 1) 60 0 [.ref x0, .ref x1, .int x2, .int x3] [] σ := by
  unfold f_Ru_fits
  refine rf_ald (i := 0) (Or.inr ⟨0, rfl, rfl, rfl⟩) c_60_0 rfl ?_
  refine rf_geti hS c_60_1 rfl fl_5_25 rfl h_x0 ?_
  refine rf_ild (i := 2) (Or.inr ⟨2, rfl, rfl, rfl⟩) c_60_4 rfl ?_
  refine rf_ite (fun hc5 => ?_) (fun hc5 => ?_)
  · refine rf_b2t c_60_5 rfl (decide_eq_true hc5) ?_
    exact t_Ru_fits_27 hS hd σ  (.ref x0) (.ref x1) (.int x2) (.int x3)
  · refine rf_b2f c_60_5 rfl (decide_eq_false hc5) ?_
    refine rf_ald (i := 0) (Or.inr ⟨0, rfl, rfl, rfl⟩) c_60_8 rfl ?_
    refine rf_geti hS c_60_9 rfl fl_5_15 rfl h_x0 ?_
    refine rf_iconst c_60_12 ki_5 ?_
    refine rf_ite (fun hc13 => ?_) (fun hc13 => ?_)
    · refine rf_b2t c_60_13 rfl (decide_eq_true hc13) ?_
      exact t_Ru_fits_29 hS hd σ  x0 x1 x2 x3 h_x0 h_x1
    · refine rf_b2f c_60_13 rfl (decide_eq_false hc13) ?_
      refine rf_ald (i := 1) (Or.inr ⟨1, rfl, rfl, rfl⟩) c_60_16 rfl ?_
      refine rf_ald (i := 0) (Or.inr ⟨0, rfl, rfl, rfl⟩) c_60_17 rfl ?_
      refine rf_geti hS c_60_18 rfl fl_5_19 rfl h_x0 ?_
      refine rf_callI (as := [.ref x1, .int (σ x0 1)]) (kd := 1) c_60_21 rfl (by decide) rfl ml_5_45 (by decide) rfl (rcv_1 hS rfl rfl h_x1 (by decide)) (Nat.zero_le _) rfl rfl (t_Pa_isOfKind hS (by omega) σ x1 (σ x0 1) h_x1) (fun v21 => ?_)
      refine rf_ite (fun hc24 => ?_) (fun hc24 => ?_)
      · refine rf_b1t c_60_24 rfl (decide_eq_true hc24) ?_
        exact t_Ru_fits_29 hS hd σ  x0 x1 x2 x3 h_x0 h_x1
      · refine rf_b1f c_60_24 rfl (decide_eq_false hc24) ?_
        exact t_Ru_fits_27 hS hd σ  (.ref x0) (.ref x1) (.int x2) (.int x3)
theorem t_Ru_fits {X : Xt} {S : Sh} (hS : ShOK S) {d : Nat} (hd : 2 ≤ d) (σ : Mm) (x0 : Nat) (x1 : Nat) (x2 : Int32) (x3 : Int32) (h_x0 : tgT x0 = 5) (h_x1 : tgT x1 = 3) : Rf X S (emI σ) (f_Ru_fits σ x0 x1 x2 x3) d 60 0 [.ref x0, .ref x1, .int x2, .int x3] [] σ := by
  obtain ⟨d1, rfl⟩ : ∃ d1, d = d1 + 1 := ⟨d - 1, by omega⟩
  exact t_Ru_fits_e hS hd σ x0 x1 x2 x3 h_x0 h_x1
