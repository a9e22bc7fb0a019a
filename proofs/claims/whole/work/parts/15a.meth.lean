/-! methods: Cp_become Cp_add Cp_giveBack In_bitCount Cp_howManyOut Cp_outTo Cp_papersSentTo Cp_alike Cp_mostAlike Cp_bestPlace Dk_become Dk_isFull Dk_hasAll Dk_hasOneBy Dk_begin Ct_isWithin Dk_tie Dk_part Dk_undo Dk_standingWithout Dk_standing Dk_standsOn Dk_fallingWith Dk_greatestOn Dk_greatestBinding Dk_isAgainst Dk_opposed Ho_become Ho_addOffice Ho_holderOn -/
theorem c_1_0 : cd 1 0 = some (.aload_n 1, 1) := by decide +kernel
theorem c_1_1 : cd 1 1 = some (.getfield 9, 3) := by decide +kernel
theorem c_1_4 : cd 1 4 = some (.iconst (0), 1) := by decide +kernel
theorem c_1_5 : cd 1 5 = some (.aload_n 0, 1) := by decide +kernel
theorem c_1_6 : cd 1 6 = some (.getfield 9, 3) := by decide +kernel
theorem c_1_9 : cd 1 9 = some (.iconst (0), 1) := by decide +kernel
theorem c_1_10 : cd 1 10 = some (.bipush (20), 2) := by decide +kernel
theorem c_1_12 : cd 1 12 = some (.invokestatic 24, 3) := by decide +kernel
theorem c_1_15 : cd 1 15 = some (.aload_n 1, 1) := by decide +kernel
theorem c_1_16 : cd 1 16 = some (.getfield 15, 3) := by decide +kernel
theorem c_1_19 : cd 1 19 = some (.iconst (0), 1) := by decide +kernel
theorem c_1_20 : cd 1 20 = some (.aload_n 0, 1) := by decide +kernel
theorem c_1_21 : cd 1 21 = some (.getfield 15, 3) := by decide +kernel
theorem c_1_24 : cd 1 24 = some (.iconst (0), 1) := by decide +kernel
theorem c_1_25 : cd 1 25 = some (.bipush (20), 2) := by decide +kernel
theorem c_1_27 : cd 1 27 = some (.invokestatic 24, 3) := by decide +kernel
theorem c_1_30 : cd 1 30 = some (.aload_n 1, 1) := by decide +kernel
theorem c_1_31 : cd 1 31 = some (.getfield 18, 3) := by decide +kernel
theorem c_1_34 : cd 1 34 = some (.iconst (0), 1) := by decide +kernel
theorem c_1_35 : cd 1 35 = some (.aload_n 0, 1) := by decide +kernel
theorem c_1_36 : cd 1 36 = some (.getfield 18, 3) := by decide +kernel
theorem c_1_39 : cd 1 39 = some (.iconst (0), 1) := by decide +kernel
theorem c_1_40 : cd 1 40 = some (.bipush (20), 2) := by decide +kernel
theorem c_1_42 : cd 1 42 = some (.invokestatic 24, 3) := by decide +kernel
theorem c_1_45 : cd 1 45 = some (.aload_n 1, 1) := by decide +kernel
theorem c_1_46 : cd 1 46 = some (.getfield 21, 3) := by decide +kernel
theorem c_1_49 : cd 1 49 = some (.iconst (0), 1) := by decide +kernel
theorem c_1_50 : cd 1 50 = some (.aload_n 0, 1) := by decide +kernel
theorem c_1_51 : cd 1 51 = some (.getfield 21, 3) := by decide +kernel
theorem c_1_54 : cd 1 54 = some (.iconst (0), 1) := by decide +kernel
theorem c_1_55 : cd 1 55 = some (.bipush (20), 2) := by decide +kernel
theorem c_1_57 : cd 1 57 = some (.invokestatic 24, 3) := by decide +kernel
theorem c_1_60 : cd 1 60 = some (.aload_n 0, 1) := by decide +kernel
theorem c_1_61 : cd 1 61 = some (.aload_n 1, 1) := by decide +kernel
theorem c_1_62 : cd 1 62 = some (.getfield 30, 3) := by decide +kernel
theorem c_1_65 : cd 1 65 = some (.putfield 30, 3) := by decide +kernel
theorem c_1_68 : cd 1 68 = some (.aload_n 0, 1) := by decide +kernel
theorem c_1_69 : cd 1 69 = some (.aload_n 1, 1) := by decide +kernel
theorem c_1_70 : cd 1 70 = some (.getfield 34, 3) := by decide +kernel
theorem c_1_73 : cd 1 73 = some (.putfield 34, 3) := by decide +kernel
theorem c_1_76 : cd 1 76 = some (.return_, 1) := by decide +kernel
def f_Cp_become (x0 : Nat) (x1 : Nat) (σ : Mm) : Option Mm := nmM (cp2 σ (rfT x1 0) (ix (0 : Int32)) (rfT x0 0) (ix (0 : Int32)) (ix (20 : Int32))) fun σ12 => nmM (cp2 σ12 (rfT x1 1) (ix (0 : Int32)) (rfT x0 1) (ix (0 : Int32)) (ix (20 : Int32))) fun σ27 => nmM (cp2 σ27 (rfT x1 2) (ix (0 : Int32)) (rfT x0 2) (ix (0 : Int32)) (ix (20 : Int32))) fun σ42 => nmM (cp2 σ42 (rfT x1 3) (ix (0 : Int32)) (rfT x0 3) (ix (0 : Int32)) (ix (20 : Int32))) fun σ57 => nmM (up2 σ57 x0 4 (σ57 x1 4)) fun σ65 => nmM (up2 σ65 x0 5 (σ65 x1 5)) fun σ73 => some σ73
set_option maxRecDepth 100000 in
set_option maxHeartbeats 4000000 in
theorem t_Cp_become {X : Xt} {S : Sh} (hS : ShOK S) {d : Nat} (hd : 6 ≤ d) (x0 : Nat) (x1 : Nat) (σ : Mm) (h_x0 : tgT x0 = 0) (h_x1 : tgT x1 = 0) : Rf X S emV (f_Cp_become x0 x1 σ) d 1 0 [.ref x0, .ref x1] [] σ := by
  unfold f_Cp_become
  refine rf_ald (i := 1) (Or.inr ⟨1, rfl, rfl, rfl⟩) c_1_0 rfl ?_
  refine rf_getr hS c_1_1 rfl fl_0_9 rfl h_x1 ?_
  refine rf_iconst c_1_4 ki_0 ?_
  refine rf_ald (i := 0) (Or.inr ⟨0, rfl, rfl, rfl⟩) c_1_5 rfl ?_
  refine rf_getr hS c_1_6 rfl fl_0_9 rfl h_x0 ?_
  refine rf_iconst c_1_9 ki_0 ?_
  refine rf_bipush c_1_10 kb_20 ?_
  refine rf_copy hS c_1_12 rfl ml_0_24 (by omega) (Nat.zero_le _) (tf_0_0 h_x1) (tf_0_0 h_x0) (lf_0_0 h_x1) (lf_0_0 h_x0) (by decide) ?_
  refine rf_nm (fun σ12 => ?_)
  refine rf_ald (i := 1) (Or.inr ⟨1, rfl, rfl, rfl⟩) c_1_15 rfl ?_
  refine rf_getr hS c_1_16 rfl fl_0_15 rfl h_x1 ?_
  refine rf_iconst c_1_19 ki_0 ?_
  refine rf_ald (i := 0) (Or.inr ⟨0, rfl, rfl, rfl⟩) c_1_20 rfl ?_
  refine rf_getr hS c_1_21 rfl fl_0_15 rfl h_x0 ?_
  refine rf_iconst c_1_24 ki_0 ?_
  refine rf_bipush c_1_25 kb_20 ?_
  refine rf_copy hS c_1_27 rfl ml_0_24 (by omega) (Nat.zero_le _) (tf_0_1 h_x1) (tf_0_1 h_x0) (lf_0_1 h_x1) (lf_0_1 h_x0) (by decide) ?_
  refine rf_nm (fun σ27 => ?_)
  refine rf_ald (i := 1) (Or.inr ⟨1, rfl, rfl, rfl⟩) c_1_30 rfl ?_
  refine rf_getr hS c_1_31 rfl fl_0_18 rfl h_x1 ?_
  refine rf_iconst c_1_34 ki_0 ?_
  refine rf_ald (i := 0) (Or.inr ⟨0, rfl, rfl, rfl⟩) c_1_35 rfl ?_
  refine rf_getr hS c_1_36 rfl fl_0_18 rfl h_x0 ?_
  refine rf_iconst c_1_39 ki_0 ?_
  refine rf_bipush c_1_40 kb_20 ?_
  refine rf_copy hS c_1_42 rfl ml_0_24 (by omega) (Nat.zero_le _) (tf_0_2 h_x1) (tf_0_2 h_x0) (lf_0_2 h_x1) (lf_0_2 h_x0) (by decide) ?_
  refine rf_nm (fun σ42 => ?_)
  refine rf_ald (i := 1) (Or.inr ⟨1, rfl, rfl, rfl⟩) c_1_45 rfl ?_
  refine rf_getr hS c_1_46 rfl fl_0_21 rfl h_x1 ?_
  refine rf_iconst c_1_49 ki_0 ?_
  refine rf_ald (i := 0) (Or.inr ⟨0, rfl, rfl, rfl⟩) c_1_50 rfl ?_
  refine rf_getr hS c_1_51 rfl fl_0_21 rfl h_x0 ?_
  refine rf_iconst c_1_54 ki_0 ?_
  refine rf_bipush c_1_55 kb_20 ?_
  refine rf_copy hS c_1_57 rfl ml_0_24 (by omega) (Nat.zero_le _) (tf_0_3 h_x1) (tf_0_3 h_x0) (lf_0_3 h_x1) (lf_0_3 h_x0) (by decide) ?_
  refine rf_nm (fun σ57 => ?_)
  refine rf_ald (i := 0) (Or.inr ⟨0, rfl, rfl, rfl⟩) c_1_60 rfl ?_
  refine rf_ald (i := 1) (Or.inr ⟨1, rfl, rfl, rfl⟩) c_1_61 rfl ?_
  refine rf_geti hS c_1_62 rfl fl_0_30 rfl h_x1 ?_
  refine rf_puti hS c_1_65 rfl fl_0_30 rfl rfl rfl rfl h_x0 ?_
  refine rf_nm (fun σ65 => ?_)
  refine rf_ald (i := 0) (Or.inr ⟨0, rfl, rfl, rfl⟩) c_1_68 rfl ?_
  refine rf_ald (i := 1) (Or.inr ⟨1, rfl, rfl, rfl⟩) c_1_69 rfl ?_
  refine rf_geti hS c_1_70 rfl fl_0_34 rfl h_x1 ?_
  refine rf_puti hS c_1_73 rfl fl_0_34 rfl rfl rfl rfl h_x0 ?_
  refine rf_nm (fun σ73 => ?_)
  exact rf_vret c_1_76 rfl rfl
theorem c_2_0 : cd 2 0 = some (.aload_n 0, 1) := by decide +kernel
theorem c_2_1 : cd 2 1 = some (.getfield 34, 3) := by decide +kernel
theorem c_2_4 : cd 2 4 = some (.bipush (20), 2) := by decide +kernel
theorem c_2_6 : cd 2 6 = some (.if_icmp .lt (6), 3) := by decide +kernel
theorem c_2_9 : cd 2 9 = some (.ldc 37, 2) := by decide +kernel
theorem c_2_11 : cd 2 11 = some (.ireturn, 1) := by decide +kernel
theorem c_2_12 : cd 2 12 = some (.aload_n 0, 1) := by decide +kernel
theorem c_2_13 : cd 2 13 = some (.getfield 9, 3) := by decide +kernel
theorem c_2_16 : cd 2 16 = some (.aload_n 0, 1) := by decide +kernel
theorem c_2_17 : cd 2 17 = some (.getfield 34, 3) := by decide +kernel
theorem c_2_20 : cd 2 20 = some (.iload_n 1, 1) := by decide +kernel
theorem c_2_21 : cd 2 21 = some (.iastore, 1) := by decide +kernel
theorem c_2_22 : cd 2 22 = some (.aload_n 0, 1) := by decide +kernel
theorem c_2_23 : cd 2 23 = some (.getfield 15, 3) := by decide +kernel
theorem c_2_26 : cd 2 26 = some (.aload_n 0, 1) := by decide +kernel
theorem c_2_27 : cd 2 27 = some (.getfield 34, 3) := by decide +kernel
theorem c_2_30 : cd 2 30 = some (.iload_n 2, 1) := by decide +kernel
theorem c_2_31 : cd 2 31 = some (.iastore, 1) := by decide +kernel
theorem c_2_32 : cd 2 32 = some (.aload_n 0, 1) := by decide +kernel
theorem c_2_33 : cd 2 33 = some (.getfield 18, 3) := by decide +kernel
theorem c_2_36 : cd 2 36 = some (.aload_n 0, 1) := by decide +kernel
theorem c_2_37 : cd 2 37 = some (.getfield 34, 3) := by decide +kernel
theorem c_2_40 : cd 2 40 = some (.iload 4, 2) := by decide +kernel
theorem c_2_42 : cd 2 42 = some (.iastore, 1) := by decide +kernel
theorem c_2_43 : cd 2 43 = some (.aload_n 0, 1) := by decide +kernel
theorem c_2_44 : cd 2 44 = some (.getfield 21, 3) := by decide +kernel
theorem c_2_47 : cd 2 47 = some (.aload_n 0, 1) := by decide +kernel
theorem c_2_48 : cd 2 48 = some (.getfield 34, 3) := by decide +kernel
theorem c_2_51 : cd 2 51 = some (.iload_n 3, 1) := by decide +kernel
theorem c_2_52 : cd 2 52 = some (.iastore, 1) := by decide +kernel
theorem c_2_53 : cd 2 53 = some (.aload_n 0, 1) := by decide +kernel
theorem c_2_54 : cd 2 54 = some (.dup, 1) := by decide +kernel
theorem c_2_55 : cd 2 55 = some (.getfield 34, 3) := by decide +kernel
theorem c_2_58 : cd 2 58 = some (.iconst (1), 1) := by decide +kernel
theorem c_2_59 : cd 2 59 = some (.iadd, 1) := by decide +kernel
theorem c_2_60 : cd 2 60 = some (.putfield 34, 3) := by decide +kernel
theorem c_2_63 : cd 2 63 = some (.aload_n 0, 1) := by decide +kernel
theorem c_2_64 : cd 2 64 = some (.getfield 34, 3) := by decide +kernel
theorem c_2_67 : cd 2 67 = some (.iconst (1), 1) := by decide +kernel
theorem c_2_68 : cd 2 68 = some (.isub, 1) := by decide +kernel
theorem c_2_69 : cd 2 69 = some (.ireturn, 1) := by decide +kernel
def f_Cp_add (x0 : Nat) (x1 : Int32) (x2 : Int32) (x3 : Int32) (x4 : Int32) (σ : Mm) : Option (Int32 × Mm) := (if (σ x0 5) < (20 : Int32) then (if inbB (σ x0 5) 20 = true then nmM (up2 σ (rfT x0 0) (ix (σ x0 5)) x1) fun σ21 => if inbB (σ21 x0 5) 20 = true then nmM (up2 σ21 (rfT x0 1) (ix (σ21 x0 5)) x2) fun σ31 => if inbB (σ31 x0 5) 20 = true then nmM (up2 σ31 (rfT x0 2) (ix (σ31 x0 5)) x4) fun σ42 => if inbB (σ42 x0 5) 20 = true then nmM (up2 σ42 (rfT x0 3) (ix (σ42 x0 5)) x3) fun σ52 => nmM (up2 σ52 x0 5 ((σ52 x0 5) + (1 : Int32))) fun σ60 => some (((σ60 x0 5) - (1 : Int32)), σ60) else none else none else none else none) else (some ((-1000000003 : Int32), σ)))
set_option maxRecDepth 100000 in
set_option maxHeartbeats 4000000 in
theorem t_Cp_add {X : Xt} {S : Sh} (hS : ShOK S) {d : Nat} (hd : 0 ≤ d) (x0 : Nat) (x1 : Int32) (x2 : Int32) (x3 : Int32) (x4 : Int32) (σ : Mm) (h_x0 : tgT x0 = 0) : Rf X S emM (f_Cp_add x0 x1 x2 x3 x4 σ) d 2 0 [.ref x0, .int x1, .int x2, .int x3, .int x4] [] σ := by
  unfold f_Cp_add
  refine rf_ald (i := 0) (Or.inr ⟨0, rfl, rfl, rfl⟩) c_2_0 rfl ?_
  refine rf_geti hS c_2_1 rfl fl_0_34 rfl h_x0 ?_
  refine rf_bipush c_2_4 kb_20 ?_
  refine rf_ite (fun hc6 => ?_) (fun hc6 => ?_)
  · refine rf_b2t c_2_6 rfl (decide_eq_true hc6) ?_
    refine rf_ald (i := 0) (Or.inr ⟨0, rfl, rfl, rfl⟩) c_2_12 rfl ?_
    refine rf_getr hS c_2_13 rfl fl_0_9 rfl h_x0 ?_
    refine rf_ald (i := 0) (Or.inr ⟨0, rfl, rfl, rfl⟩) c_2_16 rfl ?_
    refine rf_geti hS c_2_17 rfl fl_0_34 rfl h_x0 ?_
    refine rf_ild (i := 1) (Or.inr ⟨1, rfl, rfl, rfl⟩) c_2_20 rfl ?_
    refine rf_ite (fun hb21 => ?_) (fun _ => rf_none)
    refine rf_iast hS c_2_21 (tf_0_0 h_x0) (lf_0_0 h_x0) hb21 ?_
    refine rf_nm (fun σ21 => ?_)
    refine rf_ald (i := 0) (Or.inr ⟨0, rfl, rfl, rfl⟩) c_2_22 rfl ?_
    refine rf_getr hS c_2_23 rfl fl_0_15 rfl h_x0 ?_
    refine rf_ald (i := 0) (Or.inr ⟨0, rfl, rfl, rfl⟩) c_2_26 rfl ?_
    refine rf_geti hS c_2_27 rfl fl_0_34 rfl h_x0 ?_
    refine rf_ild (i := 2) (Or.inr ⟨2, rfl, rfl, rfl⟩) c_2_30 rfl ?_
    refine rf_ite (fun hb31 => ?_) (fun _ => rf_none)
    refine rf_iast hS c_2_31 (tf_0_1 h_x0) (lf_0_1 h_x0) hb31 ?_
    refine rf_nm (fun σ31 => ?_)
    refine rf_ald (i := 0) (Or.inr ⟨0, rfl, rfl, rfl⟩) c_2_32 rfl ?_
    refine rf_getr hS c_2_33 rfl fl_0_18 rfl h_x0 ?_
    refine rf_ald (i := 0) (Or.inr ⟨0, rfl, rfl, rfl⟩) c_2_36 rfl ?_
    refine rf_geti hS c_2_37 rfl fl_0_34 rfl h_x0 ?_
    refine rf_ild (i := 4) (Or.inl ⟨rfl, rfl⟩) c_2_40 rfl ?_
    refine rf_ite (fun hb42 => ?_) (fun _ => rf_none)
    refine rf_iast hS c_2_42 (tf_0_2 h_x0) (lf_0_2 h_x0) hb42 ?_
    refine rf_nm (fun σ42 => ?_)
    refine rf_ald (i := 0) (Or.inr ⟨0, rfl, rfl, rfl⟩) c_2_43 rfl ?_
    refine rf_getr hS c_2_44 rfl fl_0_21 rfl h_x0 ?_
    refine rf_ald (i := 0) (Or.inr ⟨0, rfl, rfl, rfl⟩) c_2_47 rfl ?_
    refine rf_geti hS c_2_48 rfl fl_0_34 rfl h_x0 ?_
    refine rf_ild (i := 3) (Or.inr ⟨3, rfl, rfl, rfl⟩) c_2_51 rfl ?_
    refine rf_ite (fun hb52 => ?_) (fun _ => rf_none)
    refine rf_iast hS c_2_52 (tf_0_3 h_x0) (lf_0_3 h_x0) hb52 ?_
    refine rf_nm (fun σ52 => ?_)
    refine rf_ald (i := 0) (Or.inr ⟨0, rfl, rfl, rfl⟩) c_2_53 rfl ?_
    refine rf_dup c_2_54 rfl ?_
    refine rf_geti hS c_2_55 rfl fl_0_34 rfl h_x0 ?_
    refine rf_iconst c_2_58 ki_1 ?_
    refine rf_iadd c_2_59 ?_
    refine rf_puti hS c_2_60 rfl fl_0_34 rfl rfl rfl rfl h_x0 ?_
    refine rf_nm (fun σ60 => ?_)
    refine rf_ald (i := 0) (Or.inr ⟨0, rfl, rfl, rfl⟩) c_2_63 rfl ?_
    refine rf_geti hS c_2_64 rfl fl_0_34 rfl h_x0 ?_
    refine rf_iconst c_2_67 ki_1 ?_
    refine rf_isub c_2_68 ?_
    exact rf_ret c_2_69 rfl rfl rfl rfl
  · refine rf_b2f c_2_6 rfl (decide_eq_false hc6) ?_
    refine rf_ldc (Or.inl ⟨rfl, rfl⟩) c_2_9 rfl kl_0_37 ?_
    exact rf_ret c_2_11 rfl rfl rfl rfl
theorem c_3_0 : cd 3 0 = some (.aload_n 0, 1) := by decide +kernel
theorem c_3_1 : cd 3 1 = some (.getfield 30, 3) := by decide +kernel
theorem c_3_4 : cd 3 4 = some (.iload_n 1, 1) := by decide +kernel
theorem c_3_5 : cd 3 5 = some (.ishr, 1) := by decide +kernel
theorem c_3_6 : cd 3 6 = some (.iconst (1), 1) := by decide +kernel
theorem c_3_7 : cd 3 7 = some (.iand, 1) := by decide +kernel
theorem c_3_8 : cd 3 8 = some (.ifCond .ne (7), 3) := by decide +kernel
theorem c_3_11 : cd 3 11 = some (.iconst (1), 1) := by decide +kernel
theorem c_3_12 : cd 3 12 = some (.goto (4), 3) := by decide +kernel
theorem c_3_15 : cd 3 15 = some (.iconst (0), 1) := by decide +kernel
theorem c_3_16 : cd 3 16 = some (.istore_n 2, 1) := by decide +kernel
theorem c_3_17 : cd 3 17 = some (.aload_n 0, 1) := by decide +kernel
theorem c_3_18 : cd 3 18 = some (.dup, 1) := by decide +kernel
theorem c_3_19 : cd 3 19 = some (.getfield 30, 3) := by decide +kernel
theorem c_3_22 : cd 3 22 = some (.iconst (1), 1) := by decide +kernel
theorem c_3_23 : cd 3 23 = some (.iload_n 1, 1) := by decide +kernel
theorem c_3_24 : cd 3 24 = some (.ishl, 1) := by decide +kernel
theorem c_3_25 : cd 3 25 = some (.ior, 1) := by decide +kernel
theorem c_3_26 : cd 3 26 = some (.putfield 30, 3) := by decide +kernel
theorem c_3_29 : cd 3 29 = some (.iload_n 2, 1) := by decide +kernel
theorem c_3_30 : cd 3 30 = some (.ireturn, 1) := by decide +kernel
def f_Cp_giveBack_16 (x0 : Nat) (x1 : Int32) (y0 : Int32) (σ : Mm) : Option (Int32 × Mm) := nmM (up2 σ x0 4 ((σ x0 4) ||| ((1 : Int32) <<< (x1 &&& 31)))) fun σ26 => if zB y0 = true then some (y0, σ26) else none
set_option maxRecDepth 100000 in
set_option maxHeartbeats 4000000 in
theorem t_Cp_giveBack_16 {X : Xt} {S : Sh} (hS : ShOK S) {d : Nat} (hd : 0 ≤ d) (x0 : Nat) (x1 : Int32) (y0 : Int32) (u2 : Value) (σ : Mm) (h_x0 : tgT x0 = 0) : Rf X S emM (f_Cp_giveBack_16 x0 x1 y0 σ) d 3 16 [.ref x0, .int x1, u2] [.int y0] σ := by
  unfold f_Cp_giveBack_16
  refine rf_ist (i := 2) (Or.inr ⟨2, rfl, rfl, rfl⟩) c_3_16 (Nat.le_of_ble_eq_true rfl) rfl ?_
  refine rf_ald (i := 0) (Or.inr ⟨0, rfl, rfl, rfl⟩) c_3_17 rfl ?_
  refine rf_dup c_3_18 rfl ?_
  refine rf_geti hS c_3_19 rfl fl_0_30 rfl h_x0 ?_
  refine rf_iconst c_3_22 ki_1 ?_
  refine rf_ild (i := 1) (Or.inr ⟨1, rfl, rfl, rfl⟩) c_3_23 rfl ?_
  refine rf_ishl c_3_24 ?_
  refine rf_ior c_3_25 ?_
  refine rf_puti hS c_3_26 rfl fl_0_30 rfl rfl rfl rfl h_x0 ?_
  refine rf_nm (fun σ26 => ?_)
  refine rf_ild (i := 2) (Or.inr ⟨2, rfl, rfl, rfl⟩) c_3_29 rfl ?_
  refine rf_ite (fun hq30 => ?_) (fun _ => rf_none)
  exact rf_ret c_3_30 rfl (zB_n hq30) rfl rfl
def f_Cp_giveBack (x0 : Nat) (x1 : Int32) (σ : Mm) : Option (Int32 × Mm) := (if ¬ (((σ x0 4) >>> (x1 &&& 31)) &&& (1 : Int32)) = 0 then (f_Cp_giveBack_16  x0 x1 (0 : Int32) σ) else (f_Cp_giveBack_16  x0 x1 (1 : Int32) σ))
set_option maxRecDepth 100000 in
set_option maxHeartbeats 4000000 in
theorem t_Cp_giveBack {X : Xt} {S : Sh} (hS : ShOK S) {d : Nat} (hd : 0 ≤ d) (x0 : Nat) (x1 : Int32) (σ : Mm) (h_x0 : tgT x0 = 0) : Rf X S emM (f_Cp_giveBack x0 x1 σ) d 3 0 [.ref x0, .int x1, unset0] [] σ := by
  unfold f_Cp_giveBack
  refine rf_ald (i := 0) (Or.inr ⟨0, rfl, rfl, rfl⟩) c_3_0 rfl ?_
  refine rf_geti hS c_3_1 rfl fl_0_30 rfl h_x0 ?_
  refine rf_ild (i := 1) (Or.inr ⟨1, rfl, rfl, rfl⟩) c_3_4 rfl ?_
  refine rf_ishr c_3_5 ?_
  refine rf_iconst c_3_6 ki_1 ?_
  refine rf_iand c_3_7 ?_
  refine rf_ite (fun hc8 => ?_) (fun hc8 => ?_)
  · refine rf_b1t c_3_8 rfl (decide_eq_true hc8) ?_
    refine rf_iconst c_3_15 ki_0 ?_
    exact t_Cp_giveBack_16 hS hd  x0 x1 (0 : Int32) (unset0) σ h_x0
  · refine rf_b1f c_3_8 rfl (decide_eq_false hc8) ?_
    refine rf_iconst c_3_11 ki_1 ?_
    refine rf_goto c_3_12 rfl ?_
    exact t_Cp_giveBack_16 hS hd  x0 x1 (1 : Int32) (unset0) σ h_x0
theorem c_323_0 : cd 323 0 = some (.iload_n 0, 1) := by decide +kernel
theorem c_323_1 : cd 323 1 = some (.iload_n 0, 1) := by decide +kernel
theorem c_323_2 : cd 323 2 = some (.iconst (1), 1) := by decide +kernel
theorem c_323_3 : cd 323 3 = some (.iushr, 1) := by decide +kernel
theorem c_323_4 : cd 323 4 = some (.ldc_w 265, 3) := by decide +kernel
theorem c_323_7 : cd 323 7 = some (.iand, 1) := by decide +kernel
theorem c_323_8 : cd 323 8 = some (.isub, 1) := by decide +kernel
theorem c_323_9 : cd 323 9 = some (.istore_n 0, 1) := by decide +kernel
theorem c_323_10 : cd 323 10 = some (.iload_n 0, 1) := by decide +kernel
theorem c_323_11 : cd 323 11 = some (.ldc_w 266, 3) := by decide +kernel
theorem c_323_14 : cd 323 14 = some (.iand, 1) := by decide +kernel
theorem c_323_15 : cd 323 15 = some (.iload_n 0, 1) := by decide +kernel
theorem c_323_16 : cd 323 16 = some (.iconst (2), 1) := by decide +kernel
theorem c_323_17 : cd 323 17 = some (.iushr, 1) := by decide +kernel
theorem c_323_18 : cd 323 18 = some (.ldc_w 266, 3) := by decide +kernel
theorem c_323_21 : cd 323 21 = some (.iand, 1) := by decide +kernel
theorem c_323_22 : cd 323 22 = some (.iadd, 1) := by decide +kernel
theorem c_323_23 : cd 323 23 = some (.istore_n 0, 1) := by decide +kernel
theorem c_323_24 : cd 323 24 = some (.iload_n 0, 1) := by decide +kernel
theorem c_323_25 : cd 323 25 = some (.iload_n 0, 1) := by decide +kernel
theorem c_323_26 : cd 323 26 = some (.iconst (4), 1) := by decide +kernel
theorem c_323_27 : cd 323 27 = some (.iushr, 1) := by decide +kernel
theorem c_323_28 : cd 323 28 = some (.iadd, 1) := by decide +kernel
theorem c_323_29 : cd 323 29 = some (.ldc_w 267, 3) := by decide +kernel
theorem c_323_32 : cd 323 32 = some (.iand, 1) := by decide +kernel
theorem c_323_33 : cd 323 33 = some (.istore_n 0, 1) := by decide +kernel
theorem c_323_34 : cd 323 34 = some (.iload_n 0, 1) := by decide +kernel
theorem c_323_35 : cd 323 35 = some (.iload_n 0, 1) := by decide +kernel
theorem c_323_36 : cd 323 36 = some (.bipush (8), 2) := by decide +kernel
theorem c_323_38 : cd 323 38 = some (.iushr, 1) := by decide +kernel
theorem c_323_39 : cd 323 39 = some (.iadd, 1) := by decide +kernel
theorem c_323_40 : cd 323 40 = some (.istore_n 0, 1) := by decide +kernel
theorem c_323_41 : cd 323 41 = some (.iload_n 0, 1) := by decide +kernel
theorem c_323_42 : cd 323 42 = some (.iload_n 0, 1) := by decide +kernel
theorem c_323_43 : cd 323 43 = some (.bipush (16), 2) := by decide +kernel
theorem c_323_45 : cd 323 45 = some (.iushr, 1) := by decide +kernel
theorem c_323_46 : cd 323 46 = some (.iadd, 1) := by decide +kernel
theorem c_323_47 : cd 323 47 = some (.istore_n 0, 1) := by decide +kernel
theorem c_323_48 : cd 323 48 = some (.iload_n 0, 1) := by decide +kernel
theorem c_323_49 : cd 323 49 = some (.bipush (63), 2) := by decide +kernel
theorem c_323_51 : cd 323 51 = some (.iand, 1) := by decide +kernel
theorem c_323_52 : cd 323 52 = some (.ireturn, 1) := by decide +kernel
def f_In_bitCount (σ : Mm) (x0 : Int32) : Option Int32 := some ((((((((x0 - ((ush x0 (1 : Int32)) &&& (1431655765 : Int32))) &&& (858993459 : Int32)) + ((ush (x0 - ((ush x0 (1 : Int32)) &&& (1431655765 : Int32))) (2 : Int32)) &&& (858993459 : Int32))) + (ush (((x0 - ((ush x0 (1 : Int32)) &&& (1431655765 : Int32))) &&& (858993459 : Int32)) + ((ush (x0 - ((ush x0 (1 : Int32)) &&& (1431655765 : Int32))) (2 : Int32)) &&& (858993459 : Int32))) (4 : Int32))) &&& (252645135 : Int32)) + (ush (((((x0 - ((ush x0 (1 : Int32)) &&& (1431655765 : Int32))) &&& (858993459 : Int32)) + ((ush (x0 - ((ush x0 (1 : Int32)) &&& (1431655765 : Int32))) (2 : Int32)) &&& (858993459 : Int32))) + (ush (((x0 - ((ush x0 (1 : Int32)) &&& (1431655765 : Int32))) &&& (858993459 : Int32)) + ((ush (x0 - ((ush x0 (1 : Int32)) &&& (1431655765 : Int32))) (2 : Int32)) &&& (858993459 : Int32))) (4 : Int32))) &&& (252645135 : Int32)) (8 : Int32))) + (ush ((((((x0 - ((ush x0 (1 : Int32)) &&& (1431655765 : Int32))) &&& (858993459 : Int32)) + ((ush (x0 - ((ush x0 (1 : Int32)) &&& (1431655765 : Int32))) (2 : Int32)) &&& (858993459 : Int32))) + (ush (((x0 - ((ush x0 (1 : Int32)) &&& (1431655765 : Int32))) &&& (858993459 : Int32)) + ((ush (x0 - ((ush x0 (1 : Int32)) &&& (1431655765 : Int32))) (2 : Int32)) &&& (858993459 : Int32))) (4 : Int32))) &&& (252645135 : Int32)) + (ush (((((x0 - ((ush x0 (1 : Int32)) &&& (1431655765 : Int32))) &&& (858993459 : Int32)) + ((ush (x0 - ((ush x0 (1 : Int32)) &&& (1431655765 : Int32))) (2 : Int32)) &&& (858993459 : Int32))) + (ush (((x0 - ((ush x0 (1 : Int32)) &&& (1431655765 : Int32))) &&& (858993459 : Int32)) + ((ush (x0 - ((ush x0 (1 : Int32)) &&& (1431655765 : Int32))) (2 : Int32)) &&& (858993459 : Int32))) (4 : Int32))) &&& (252645135 : Int32)) (8 : Int32))) (16 : Int32))) &&& (63 : Int32))
set_option maxRecDepth 100000 in
set_option maxHeartbeats 4000000 in
theorem t_In_bitCount {X : Xt} {S : Sh} (hS : ShOK S) {d : Nat} (hd : 0 ≤ d) (σ : Mm) (x0 : Int32) : Rf X S (emI σ) (f_In_bitCount σ x0) d 323 0 [.int x0] [] σ := by
  unfold f_In_bitCount
  refine rf_ild (i := 0) (Or.inr ⟨0, rfl, rfl, rfl⟩) c_323_0 rfl ?_
  refine rf_ild (i := 0) (Or.inr ⟨0, rfl, rfl, rfl⟩) c_323_1 rfl ?_
  refine rf_iconst c_323_2 ki_1 ?_
  refine rf_iushr c_323_3 ?_
  refine rf_ldc (Or.inr ⟨rfl, rfl⟩) c_323_4 rfl kl_14_265 ?_
  refine rf_iand c_323_7 ?_
  refine rf_isub c_323_8 ?_
  refine rf_ist (i := 0) (Or.inr ⟨0, rfl, rfl, rfl⟩) c_323_9 (Nat.le_of_ble_eq_true rfl) rfl ?_
  refine rf_ild (i := 0) (Or.inr ⟨0, rfl, rfl, rfl⟩) c_323_10 rfl ?_
  refine rf_ldc (Or.inr ⟨rfl, rfl⟩) c_323_11 rfl kl_14_266 ?_
  refine rf_iand c_323_14 ?_
  refine rf_ild (i := 0) (Or.inr ⟨0, rfl, rfl, rfl⟩) c_323_15 rfl ?_
  refine rf_iconst c_323_16 ki_2 ?_
  refine rf_iushr c_323_17 ?_
  refine rf_ldc (Or.inr ⟨rfl, rfl⟩) c_323_18 rfl kl_14_266 ?_
  refine rf_iand c_323_21 ?_
  refine rf_iadd c_323_22 ?_
  refine rf_ist (i := 0) (Or.inr ⟨0, rfl, rfl, rfl⟩) c_323_23 (Nat.le_of_ble_eq_true rfl) rfl ?_
  refine rf_ild (i := 0) (Or.inr ⟨0, rfl, rfl, rfl⟩) c_323_24 rfl ?_
  refine rf_ild (i := 0) (Or.inr ⟨0, rfl, rfl, rfl⟩) c_323_25 rfl ?_
  refine rf_iconst c_323_26 ki_4 ?_
  refine rf_iushr c_323_27 ?_
  refine rf_iadd c_323_28 ?_
  refine rf_ldc (Or.inr ⟨rfl, rfl⟩) c_323_29 rfl kl_14_267 ?_
  refine rf_iand c_323_32 ?_
  refine rf_ist (i := 0) (Or.inr ⟨0, rfl, rfl, rfl⟩) c_323_33 (Nat.le_of_ble_eq_true rfl) rfl ?_
  refine rf_ild (i := 0) (Or.inr ⟨0, rfl, rfl, rfl⟩) c_323_34 rfl ?_
  refine rf_ild (i := 0) (Or.inr ⟨0, rfl, rfl, rfl⟩) c_323_35 rfl ?_
  refine rf_bipush c_323_36 kb_8 ?_
  refine rf_iushr c_323_38 ?_
  refine rf_iadd c_323_39 ?_
  refine rf_ist (i := 0) (Or.inr ⟨0, rfl, rfl, rfl⟩) c_323_40 (Nat.le_of_ble_eq_true rfl) rfl ?_
  refine rf_ild (i := 0) (Or.inr ⟨0, rfl, rfl, rfl⟩) c_323_41 rfl ?_
  refine rf_ild (i := 0) (Or.inr ⟨0, rfl, rfl, rfl⟩) c_323_42 rfl ?_
  refine rf_bipush c_323_43 kb_16 ?_
  refine rf_iushr c_323_45 ?_
  refine rf_iadd c_323_46 ?_
  refine rf_ist (i := 0) (Or.inr ⟨0, rfl, rfl, rfl⟩) c_323_47 (Nat.le_of_ble_eq_true rfl) rfl ?_
  refine rf_ild (i := 0) (Or.inr ⟨0, rfl, rfl, rfl⟩) c_323_48 rfl ?_
  refine rf_bipush c_323_49 kb_63 ?_
  refine rf_iand c_323_51 ?_
  exact rf_ret c_323_52 rfl rfl rfl rfl
theorem c_4_0 : cd 4 0 = some (.aload_n 0, 1) := by decide +kernel
theorem c_4_1 : cd 4 1 = some (.getfield 34, 3) := by decide +kernel
theorem c_4_4 : cd 4 4 = some (.aload_n 0, 1) := by decide +kernel
theorem c_4_5 : cd 4 5 = some (.getfield 30, 3) := by decide +kernel
theorem c_4_8 : cd 4 8 = some (.invokestatic 38, 3) := by decide +kernel
theorem c_4_11 : cd 4 11 = some (.isub, 1) := by decide +kernel
theorem c_4_12 : cd 4 12 = some (.ireturn, 1) := by decide +kernel
def f_Cp_howManyOut (σ : Mm) (x0 : Nat) : Option Int32 := (f_In_bitCount σ (σ x0 4)).bind fun v8 => some ((σ x0 5) - v8)
set_option maxRecDepth 100000 in
set_option maxHeartbeats 4000000 in
theorem t_Cp_howManyOut_e {X : Xt} {S : Sh} (hS : ShOK S) {d : Nat} (hd : 1 ≤ d + 1) (σ : Mm) (x0 : Nat) (h_x0 : tgT x0 = 0) : Rf X S (emI σ) (f_Cp_howManyOut σ x0) (d + 1) 4 0 [.ref x0] [] σ := by
  unfold f_Cp_howManyOut
  refine rf_ald (i := 0) (Or.inr ⟨0, rfl, rfl, rfl⟩) c_4_0 rfl ?_
  refine rf_geti hS c_4_1 rfl fl_0_34 rfl h_x0 ?_
  refine rf_ald (i := 0) (Or.inr ⟨0, rfl, rfl, rfl⟩) c_4_4 rfl ?_
  refine rf_geti hS c_4_5 rfl fl_0_30 rfl h_x0 ?_
  refine rf_callI (as := [.int (σ x0 4)]) (kd := 0) c_4_8 rfl (by decide) rfl ml_0_38 (by decide) rfl (rcv_0 rfl) (by simp [Value.category]) rfl rfl (t_In_bitCount hS (by omega) σ (σ x0 4)) (fun v8 => ?_)
  refine rf_isub c_4_11 ?_
  exact rf_ret c_4_12 rfl rfl rfl rfl
theorem t_Cp_howManyOut {X : Xt} {S : Sh} (hS : ShOK S) {d : Nat} (hd : 1 ≤ d) (σ : Mm) (x0 : Nat) (h_x0 : tgT x0 = 0) : Rf X S (emI σ) (f_Cp_howManyOut σ x0) d 4 0 [.ref x0] [] σ := by
  obtain ⟨d1, rfl⟩ : ∃ d1, d = d1 + 1 := ⟨d - 1, by omega⟩
  exact t_Cp_howManyOut_e hS hd σ x0 h_x0
theorem c_5_0 : cd 5 0 = some (.iconst (0), 1) := by decide +kernel
theorem c_5_1 : cd 5 1 = some (.istore_n 2, 1) := by decide +kernel
theorem c_5_2 : cd 5 2 = some (.iconst (0), 1) := by decide +kernel
theorem c_5_3 : cd 5 3 = some (.istore_n 3, 1) := by decide +kernel
theorem c_5_4 : cd 5 4 = some (.iload_n 3, 1) := by decide +kernel
theorem c_5_5 : cd 5 5 = some (.aload_n 0, 1) := by decide +kernel
theorem c_5_6 : cd 5 6 = some (.getfield 34, 3) := by decide +kernel
theorem c_5_9 : cd 5 9 = some (.if_icmp .ge (25), 3) := by decide +kernel
theorem c_5_12 : cd 5 12 = some (.aload_n 0, 1) := by decide +kernel
theorem c_5_13 : cd 5 13 = some (.getfield 15, 3) := by decide +kernel
theorem c_5_16 : cd 5 16 = some (.iload_n 3, 1) := by decide +kernel
theorem c_5_17 : cd 5 17 = some (.iaload, 1) := by decide +kernel
theorem c_5_18 : cd 5 18 = some (.iload_n 1, 1) := by decide +kernel
theorem c_5_19 : cd 5 19 = some (.if_icmp .ne (9), 3) := by decide +kernel
theorem c_5_22 : cd 5 22 = some (.iload_n 2, 1) := by decide +kernel
theorem c_5_23 : cd 5 23 = some (.iconst (1), 1) := by decide +kernel
theorem c_5_24 : cd 5 24 = some (.iload_n 3, 1) := by decide +kernel
theorem c_5_25 : cd 5 25 = some (.ishl, 1) := by decide +kernel
theorem c_5_26 : cd 5 26 = some (.ior, 1) := by decide +kernel
theorem c_5_27 : cd 5 27 = some (.istore_n 2, 1) := by decide +kernel
theorem c_5_28 : cd 5 28 = some (.iinc 3 (1), 3) := by decide +kernel
theorem c_5_31 : cd 5 31 = some (.goto (-27), 3) := by decide +kernel
theorem c_5_34 : cd 5 34 = some (.iload_n 2, 1) := by decide +kernel
theorem c_5_35 : cd 5 35 = some (.aload_n 0, 1) := by decide +kernel
theorem c_5_36 : cd 5 36 = some (.getfield 30, 3) := by decide +kernel
theorem c_5_39 : cd 5 39 = some (.iconst (-1), 1) := by decide +kernel
theorem c_5_40 : cd 5 40 = some (.ixor, 1) := by decide +kernel
theorem c_5_41 : cd 5 41 = some (.iand, 1) := by decide +kernel
theorem c_5_42 : cd 5 42 = some (.ireturn, 1) := by decide +kernel
def f_Cp_outTo_28 (σ : Mm) (k4 : Nat → Int32 → Int32 → Int32 → Option (Int32)) (x0 : Nat) (x1 : Int32) (x2 : Int32) (x3 : Int32) : Option Int32 := k4 x0 x1 x2 (x3 + (1 : Int32))
set_option maxRecDepth 100000 in
set_option maxHeartbeats 4000000 in
theorem t_Cp_outTo_28 {X : Xt} {S : Sh} (hS : ShOK S) {d : Nat} (hd : 0 ≤ d) (σ : Mm) {k4 : Nat → Int32 → Int32 → Int32 → Option (Int32)} (hk4 : ∀ (x0 : Nat) (x1 : Int32) (x2 : Int32) (x3 : Int32) (h_x0 : tgT x0 = 0), Rf X S (emI σ) (k4 x0 x1 x2 x3) d 5 4 [.ref x0, .int x1, .int x2, .int x3] [] σ) (x0 : Nat) (x1 : Int32) (x2 : Int32) (x3 : Int32) (h_x0 : tgT x0 = 0) : Rf X S (emI σ) (f_Cp_outTo_28 σ k4 x0 x1 x2 x3) d 5 28 [.ref x0, .int x1, .int x2, .int x3] [] σ := by
  unfold f_Cp_outTo_28
  refine rf_iinc c_5_28 rfl ki_1 rfl ?_
  refine rf_goto c_5_31 rfl ?_
  exact hk4 x0 x1 x2 (x3 + (1 : Int32)) h_x0
def f_Cp_outTo_4 (σ : Mm) : Nat → Nat → Int32 → Int32 → Int32 → Option Int32
  | 0, _, _, _, _ => none
  | n + 1, x0, x1, x2, x3 => (if (σ x0 5) ≤ x3 then (some (x2 &&& ((σ x0 4) ^^^ (-1 : Int32)))) else (if inbB x3 20 = true then (if ¬ (σ (rfT x0 1) (ix x3)) = x1 then (f_Cp_outTo_28 σ (f_Cp_outTo_4 σ n) x0 x1 x2 x3) else (f_Cp_outTo_28 σ (f_Cp_outTo_4 σ n) x0 x1 (x2 ||| ((1 : Int32) <<< (x3 &&& 31))) x3)) else none))
set_option maxRecDepth 100000 in
set_option maxHeartbeats 4000000 in
theorem t_Cp_outTo_4 {X : Xt} {S : Sh} (hS : ShOK S) {d : Nat} (hd : 0 ≤ d) (σ : Mm) : ∀ (n : Nat) (x0 : Nat) (x1 : Int32) (x2 : Int32) (x3 : Int32) (h_x0 : tgT x0 = 0), Rf X S (emI σ) (f_Cp_outTo_4 σ n x0 x1 x2 x3) d 5 4 [.ref x0, .int x1, .int x2, .int x3] [] σ := by
  intro n
  induction n with
  | zero => intro x0 x1 x2 x3 h_x0; exact rf_none
  | succ n ih =>
    intro x0 x1 x2 x3 h_x0
    rw [f_Cp_outTo_4]
    refine rf_ild (i := 3) (Or.inr ⟨3, rfl, rfl, rfl⟩) c_5_4 rfl ?_
    refine rf_ald (i := 0) (Or.inr ⟨0, rfl, rfl, rfl⟩) c_5_5 rfl ?_
    refine rf_geti hS c_5_6 rfl fl_0_34 rfl h_x0 ?_
    refine rf_ite (fun hc9 => ?_) (fun hc9 => ?_)
    · refine rf_b2t c_5_9 rfl (decide_eq_true hc9) ?_
      refine rf_ild (i := 2) (Or.inr ⟨2, rfl, rfl, rfl⟩) c_5_34 rfl ?_
      refine rf_ald (i := 0) (Or.inr ⟨0, rfl, rfl, rfl⟩) c_5_35 rfl ?_
      refine rf_geti hS c_5_36 rfl fl_0_30 rfl h_x0 ?_
      refine rf_iconst c_5_39 ki_m1 ?_
      refine rf_ixor c_5_40 ?_
      refine rf_iand c_5_41 ?_
      exact rf_ret c_5_42 rfl rfl rfl rfl
    · refine rf_b2f c_5_9 rfl (decide_eq_false hc9) ?_
      refine rf_ald (i := 0) (Or.inr ⟨0, rfl, rfl, rfl⟩) c_5_12 rfl ?_
      refine rf_getr hS c_5_13 rfl fl_0_15 rfl h_x0 ?_
      refine rf_ild (i := 3) (Or.inr ⟨3, rfl, rfl, rfl⟩) c_5_16 rfl ?_
      refine rf_ite (fun hb17 => ?_) (fun _ => rf_none)
      refine rf_iald hS c_5_17 (tf_0_1 h_x0) (lf_0_1 h_x0) hb17 ?_
      refine rf_ild (i := 1) (Or.inr ⟨1, rfl, rfl, rfl⟩) c_5_18 rfl ?_
      refine rf_ite (fun hc19 => ?_) (fun hc19 => ?_)
      · refine rf_b2t c_5_19 rfl (decide_eq_true hc19) ?_
        exact t_Cp_outTo_28 hS hd σ ih x0 x1 x2 x3 h_x0
      · refine rf_b2f c_5_19 rfl (decide_eq_false hc19) ?_
        refine rf_ild (i := 2) (Or.inr ⟨2, rfl, rfl, rfl⟩) c_5_22 rfl ?_
        refine rf_iconst c_5_23 ki_1 ?_
        refine rf_ild (i := 3) (Or.inr ⟨3, rfl, rfl, rfl⟩) c_5_24 rfl ?_
        refine rf_ishl c_5_25 ?_
        refine rf_ior c_5_26 ?_
        refine rf_ist (i := 2) (Or.inr ⟨2, rfl, rfl, rfl⟩) c_5_27 (Nat.le_of_ble_eq_true rfl) rfl ?_
        exact t_Cp_outTo_28 hS hd σ ih x0 x1 (x2 ||| ((1 : Int32) <<< (x3 &&& 31))) x3 h_x0
def f_Cp_outTo (σ : Mm) (x0 : Nat) (x1 : Int32) : Option Int32 := f_Cp_outTo_4 σ NN x0 x1 (0 : Int32) (0 : Int32)
set_option maxRecDepth 100000 in
set_option maxHeartbeats 4000000 in
theorem t_Cp_outTo {X : Xt} {S : Sh} (hS : ShOK S) {d : Nat} (hd : 0 ≤ d) (σ : Mm) (x0 : Nat) (x1 : Int32) (h_x0 : tgT x0 = 0) : Rf X S (emI σ) (f_Cp_outTo σ x0 x1) d 5 0 [.ref x0, .int x1, unset0, unset0] [] σ := by
  unfold f_Cp_outTo
  refine rf_iconst c_5_0 ki_0 ?_
  refine rf_ist (i := 2) (Or.inr ⟨2, rfl, rfl, rfl⟩) c_5_1 (Nat.le_of_ble_eq_true rfl) rfl ?_
  refine rf_iconst c_5_2 ki_0 ?_
  refine rf_ist (i := 3) (Or.inr ⟨3, rfl, rfl, rfl⟩) c_5_3 (Nat.le_of_ble_eq_true rfl) rfl ?_
  exact t_Cp_outTo_4 hS hd σ  NN x0 x1 (0 : Int32) (0 : Int32) h_x0
theorem c_6_0 : cd 6 0 = some (.iconst (0), 1) := by decide +kernel
theorem c_6_1 : cd 6 1 = some (.istore_n 3, 1) := by decide +kernel
theorem c_6_2 : cd 6 2 = some (.iconst (0), 1) := by decide +kernel
theorem c_6_3 : cd 6 3 = some (.istore 4, 2) := by decide +kernel
theorem c_6_5 : cd 6 5 = some (.iload 4, 2) := by decide +kernel
theorem c_6_7 : cd 6 7 = some (.aload_n 0, 1) := by decide +kernel
theorem c_6_8 : cd 6 8 = some (.getfield 34, 3) := by decide +kernel
theorem c_6_11 : cd 6 11 = some (.if_icmp .ge (43), 3) := by decide +kernel
theorem c_6_14 : cd 6 14 = some (.aload_n 0, 1) := by decide +kernel
theorem c_6_15 : cd 6 15 = some (.getfield 15, 3) := by decide +kernel
theorem c_6_18 : cd 6 18 = some (.iload 4, 2) := by decide +kernel
theorem c_6_20 : cd 6 20 = some (.iaload, 1) := by decide +kernel
theorem c_6_21 : cd 6 21 = some (.iload_n 1, 1) := by decide +kernel
theorem c_6_22 : cd 6 22 = some (.if_icmp .ne (26), 3) := by decide +kernel
theorem c_6_25 : cd 6 25 = some (.aload_n 0, 1) := by decide +kernel
theorem c_6_26 : cd 6 26 = some (.getfield 18, 3) := by decide +kernel
theorem c_6_29 : cd 6 29 = some (.iload 4, 2) := by decide +kernel
theorem c_6_31 : cd 6 31 = some (.iaload, 1) := by decide +kernel
theorem c_6_32 : cd 6 32 = some (.iload_n 2, 1) := by decide +kernel
theorem c_6_33 : cd 6 33 = some (.if_icmp .gt (15), 3) := by decide +kernel
theorem c_6_36 : cd 6 36 = some (.iload_n 3, 1) := by decide +kernel
theorem c_6_37 : cd 6 37 = some (.iconst (1), 1) := by decide +kernel
theorem c_6_38 : cd 6 38 = some (.aload_n 0, 1) := by decide +kernel
theorem c_6_39 : cd 6 39 = some (.getfield 9, 3) := by decide +kernel
theorem c_6_42 : cd 6 42 = some (.iload 4, 2) := by decide +kernel
theorem c_6_44 : cd 6 44 = some (.iaload, 1) := by decide +kernel
theorem c_6_45 : cd 6 45 = some (.ishl, 1) := by decide +kernel
theorem c_6_46 : cd 6 46 = some (.ior, 1) := by decide +kernel
theorem c_6_47 : cd 6 47 = some (.istore_n 3, 1) := by decide +kernel
theorem c_6_48 : cd 6 48 = some (.iinc 4 (1), 3) := by decide +kernel
theorem c_6_51 : cd 6 51 = some (.goto (-46), 3) := by decide +kernel
theorem c_6_54 : cd 6 54 = some (.iload_n 3, 1) := by decide +kernel
theorem c_6_55 : cd 6 55 = some (.ireturn, 1) := by decide +kernel
def f_Cp_papersSentTo_48 (σ : Mm) (k5 : Nat → Int32 → Int32 → Int32 → Int32 → Option (Int32)) (x0 : Nat) (x1 : Int32) (x2 : Int32) (x3 : Int32) (x4 : Int32) : Option Int32 := k5 x0 x1 x2 x3 (x4 + (1 : Int32))
set_option maxRecDepth 100000 in
set_option maxHeartbeats 4000000 in
theorem t_Cp_papersSentTo_48 {X : Xt} {S : Sh} (hS : ShOK S) {d : Nat} (hd : 0 ≤ d) (σ : Mm) {k5 : Nat → Int32 → Int32 → Int32 → Int32 → Option (Int32)} (hk5 : ∀ (x0 : Nat) (x1 : Int32) (x2 : Int32) (x3 : Int32) (x4 : Int32) (h_x0 : tgT x0 = 0), Rf X S (emI σ) (k5 x0 x1 x2 x3 x4) d 6 5 [.ref x0, .int x1, .int x2, .int x3, .int x4] [] σ) (x0 : Nat) (x1 : Int32) (x2 : Int32) (x3 : Int32) (x4 : Int32) (h_x0 : tgT x0 = 0) : Rf X S (emI σ) (f_Cp_papersSentTo_48 σ k5 x0 x1 x2 x3 x4) d 6 48 [.ref x0, .int x1, .int x2, .int x3, .int x4] [] σ := by
  unfold f_Cp_papersSentTo_48
  refine rf_iinc c_6_48 rfl ki_1 rfl ?_
  refine rf_goto c_6_51 rfl ?_
  exact hk5 x0 x1 x2 x3 (x4 + (1 : Int32)) h_x0
def f_Cp_papersSentTo_5 (σ : Mm) : Nat → Nat → Int32 → Int32 → Int32 → Int32 → Option Int32
  | 0, _, _, _, _, _ => none
  | n + 1, x0, x1, x2, x3, x4 => (if (σ x0 5) ≤ x4 then (some x3) else (if inbB x4 20 = true then (if ¬ (σ (rfT x0 1) (ix x4)) = x1 then (f_Cp_papersSentTo_48 σ (f_Cp_papersSentTo_5 σ n) x0 x1 x2 x3 x4) else (if inbB x4 20 = true then (if x2 < (σ (rfT x0 2) (ix x4)) then (f_Cp_papersSentTo_48 σ (f_Cp_papersSentTo_5 σ n) x0 x1 x2 x3 x4) else (if inbB x4 20 = true then f_Cp_papersSentTo_48 σ (f_Cp_papersSentTo_5 σ n) x0 x1 x2 (x3 ||| ((1 : Int32) <<< ((σ (rfT x0 0) (ix x4)) &&& 31))) x4 else none)) else none)) else none))
set_option maxRecDepth 100000 in
set_option maxHeartbeats 4000000 in
theorem t_Cp_papersSentTo_5 {X : Xt} {S : Sh} (hS : ShOK S) {d : Nat} (hd : 0 ≤ d) (σ : Mm) : ∀ (n : Nat) (x0 : Nat) (x1 : Int32) (x2 : Int32) (x3 : Int32) (x4 : Int32) (h_x0 : tgT x0 = 0), Rf X S (emI σ) (f_Cp_papersSentTo_5 σ n x0 x1 x2 x3 x4) d 6 5 [.ref x0, .int x1, .int x2, .int x3, .int x4] [] σ := by
  intro n
  induction n with
  | zero => intro x0 x1 x2 x3 x4 h_x0; exact rf_none
  | succ n ih =>
    intro x0 x1 x2 x3 x4 h_x0
    rw [f_Cp_papersSentTo_5]
    refine rf_ild (i := 4) (Or.inl ⟨rfl, rfl⟩) c_6_5 rfl ?_
    refine rf_ald (i := 0) (Or.inr ⟨0, rfl, rfl, rfl⟩) c_6_7 rfl ?_
    refine rf_geti hS c_6_8 rfl fl_0_34 rfl h_x0 ?_
    refine rf_ite (fun hc11 => ?_) (fun hc11 => ?_)
    · refine rf_b2t c_6_11 rfl (decide_eq_true hc11) ?_
      refine rf_ild (i := 3) (Or.inr ⟨3, rfl, rfl, rfl⟩) c_6_54 rfl ?_
      exact rf_ret c_6_55 rfl rfl rfl rfl
    · refine rf_b2f c_6_11 rfl (decide_eq_false hc11) ?_
      refine rf_ald (i := 0) (Or.inr ⟨0, rfl, rfl, rfl⟩) c_6_14 rfl ?_
      refine rf_getr hS c_6_15 rfl fl_0_15 rfl h_x0 ?_
      refine rf_ild (i := 4) (Or.inl ⟨rfl, rfl⟩) c_6_18 rfl ?_
      refine rf_ite (fun hb20 => ?_) (fun _ => rf_none)
      refine rf_iald hS c_6_20 (tf_0_1 h_x0) (lf_0_1 h_x0) hb20 ?_
      refine rf_ild (i := 1) (Or.inr ⟨1, rfl, rfl, rfl⟩) c_6_21 rfl ?_
      refine rf_ite (fun hc22 => ?_) (fun hc22 => ?_)
      · refine rf_b2t c_6_22 rfl (decide_eq_true hc22) ?_
        exact t_Cp_papersSentTo_48 hS hd σ ih x0 x1 x2 x3 x4 h_x0
      · refine rf_b2f c_6_22 rfl (decide_eq_false hc22) ?_
        refine rf_ald (i := 0) (Or.inr ⟨0, rfl, rfl, rfl⟩) c_6_25 rfl ?_
        refine rf_getr hS c_6_26 rfl fl_0_18 rfl h_x0 ?_
        refine rf_ild (i := 4) (Or.inl ⟨rfl, rfl⟩) c_6_29 rfl ?_
        refine rf_ite (fun hb31 => ?_) (fun _ => rf_none)
        refine rf_iald hS c_6_31 (tf_0_2 h_x0) (lf_0_2 h_x0) hb31 ?_
        refine rf_ild (i := 2) (Or.inr ⟨2, rfl, rfl, rfl⟩) c_6_32 rfl ?_
        refine rf_ite (fun hc33 => ?_) (fun hc33 => ?_)
        · refine rf_b2t c_6_33 rfl (decide_eq_true hc33) ?_
          exact t_Cp_papersSentTo_48 hS hd σ ih x0 x1 x2 x3 x4 h_x0
        · refine rf_b2f c_6_33 rfl (decide_eq_false hc33) ?_
          refine rf_ild (i := 3) (Or.inr ⟨3, rfl, rfl, rfl⟩) c_6_36 rfl ?_
          refine rf_iconst c_6_37 ki_1 ?_
          refine rf_ald (i := 0) (Or.inr ⟨0, rfl, rfl, rfl⟩) c_6_38 rfl ?_
          refine rf_getr hS c_6_39 rfl fl_0_9 rfl h_x0 ?_
          refine rf_ild (i := 4) (Or.inl ⟨rfl, rfl⟩) c_6_42 rfl ?_
          refine rf_ite (fun hb44 => ?_) (fun _ => rf_none)
          refine rf_iald hS c_6_44 (tf_0_0 h_x0) (lf_0_0 h_x0) hb44 ?_
          refine rf_ishl c_6_45 ?_
          refine rf_ior c_6_46 ?_
          refine rf_ist (i := 3) (Or.inr ⟨3, rfl, rfl, rfl⟩) c_6_47 (Nat.le_of_ble_eq_true rfl) rfl ?_
          exact t_Cp_papersSentTo_48 hS hd σ ih x0 x1 x2 (x3 ||| ((1 : Int32) <<< ((σ (rfT x0 0) (ix x4)) &&& 31))) x4 h_x0
def f_Cp_papersSentTo (σ : Mm) (x0 : Nat) (x1 : Int32) (x2 : Int32) : Option Int32 := f_Cp_papersSentTo_5 σ NN x0 x1 x2 (0 : Int32) (0 : Int32)
set_option maxRecDepth 100000 in
set_option maxHeartbeats 4000000 in
theorem t_Cp_papersSentTo {X : Xt} {S : Sh} (hS : ShOK S) {d : Nat} (hd : 0 ≤ d) (σ : Mm) (x0 : Nat) (x1 : Int32) (x2 : Int32) (h_x0 : tgT x0 = 0) : Rf X S (emI σ) (f_Cp_papersSentTo σ x0 x1 x2) d 6 0 [.ref x0, .int x1, .int x2, unset0, unset0] [] σ := by
  unfold f_Cp_papersSentTo
  refine rf_iconst c_6_0 ki_0 ?_
  refine rf_ist (i := 3) (Or.inr ⟨3, rfl, rfl, rfl⟩) c_6_1 (Nat.le_of_ble_eq_true rfl) rfl ?_
  refine rf_iconst c_6_2 ki_0 ?_
  refine rf_ist (i := 4) (Or.inl ⟨rfl, rfl⟩) c_6_3 (Nat.le_of_ble_eq_true rfl) rfl ?_
  exact t_Cp_papersSentTo_5 hS hd σ  NN x0 x1 x2 (0 : Int32) (0 : Int32) h_x0
theorem c_7_0 : cd 7 0 = some (.iconst (0), 1) := by decide +kernel
theorem c_7_1 : cd 7 1 = some (.istore 4, 2) := by decide +kernel
theorem c_7_3 : cd 7 3 = some (.iconst (0), 1) := by decide +kernel
theorem c_7_4 : cd 7 4 = some (.istore 5, 2) := by decide +kernel
theorem c_7_6 : cd 7 6 = some (.iload 5, 2) := by decide +kernel
theorem c_7_8 : cd 7 8 = some (.bipush (8), 2) := by decide +kernel
theorem c_7_10 : cd 7 10 = some (.if_icmp .ge (30), 3) := by decide +kernel
theorem c_7_13 : cd 7 13 = some (.iload_n 2, 1) := by decide +kernel
theorem c_7_14 : cd 7 14 = some (.iload 5, 2) := by decide +kernel
theorem c_7_16 : cd 7 16 = some (.ishr, 1) := by decide +kernel
theorem c_7_17 : cd 7 17 = some (.iconst (1), 1) := by decide +kernel
theorem c_7_18 : cd 7 18 = some (.iand, 1) := by decide +kernel
theorem c_7_19 : cd 7 19 = some (.iconst (1), 1) := by decide +kernel
theorem c_7_20 : cd 7 20 = some (.if_icmp .ne (14), 3) := by decide +kernel
theorem c_7_23 : cd 7 23 = some (.iload 4, 2) := by decide +kernel
theorem c_7_25 : cd 7 25 = some (.iconst (3), 1) := by decide +kernel
theorem c_7_26 : cd 7 26 = some (.iconst (2), 1) := by decide +kernel
theorem c_7_27 : cd 7 27 = some (.iload 5, 2) := by decide +kernel
theorem c_7_29 : cd 7 29 = some (.imul, 1) := by decide +kernel
theorem c_7_30 : cd 7 30 = some (.ishl, 1) := by decide +kernel
theorem c_7_31 : cd 7 31 = some (.ior, 1) := by decide +kernel
theorem c_7_32 : cd 7 32 = some (.istore 4, 2) := by decide +kernel
theorem c_7_34 : cd 7 34 = some (.iinc 5 (1), 3) := by decide +kernel
theorem c_7_37 : cd 7 37 = some (.goto (-31), 3) := by decide +kernel
theorem c_7_40 : cd 7 40 = some (.iconst (0), 1) := by decide +kernel
theorem c_7_41 : cd 7 41 = some (.istore 5, 2) := by decide +kernel
theorem c_7_43 : cd 7 43 = some (.iconst (0), 1) := by decide +kernel
theorem c_7_44 : cd 7 44 = some (.istore 6, 2) := by decide +kernel
theorem c_7_46 : cd 7 46 = some (.iload 6, 2) := by decide +kernel
theorem c_7_48 : cd 7 48 = some (.aload_n 0, 1) := by decide +kernel
theorem c_7_49 : cd 7 49 = some (.getfield 34, 3) := by decide +kernel
theorem c_7_52 : cd 7 52 = some (.if_icmp .ge (44), 3) := by decide +kernel
theorem c_7_55 : cd 7 55 = some (.aload_n 0, 1) := by decide +kernel
theorem c_7_56 : cd 7 56 = some (.getfield 9, 3) := by decide +kernel
theorem c_7_59 : cd 7 59 = some (.iload 6, 2) := by decide +kernel
theorem c_7_61 : cd 7 61 = some (.iaload, 1) := by decide +kernel
theorem c_7_62 : cd 7 62 = some (.iload_n 1, 1) := by decide +kernel
theorem c_7_63 : cd 7 63 = some (.if_icmp .ne (27), 3) := by decide +kernel
theorem c_7_66 : cd 7 66 = some (.aload_n 0, 1) := by decide +kernel
theorem c_7_67 : cd 7 67 = some (.getfield 21, 3) := by decide +kernel
theorem c_7_70 : cd 7 70 = some (.iload 6, 2) := by decide +kernel
theorem c_7_72 : cd 7 72 = some (.iaload, 1) := by decide +kernel
theorem c_7_73 : cd 7 73 = some (.iload_n 3, 1) := by decide +kernel
theorem c_7_74 : cd 7 74 = some (.ixor, 1) := by decide +kernel
theorem c_7_75 : cd 7 75 = some (.iload 4, 2) := by decide +kernel
theorem c_7_77 : cd 7 77 = some (.iand, 1) := by decide +kernel
theorem c_7_78 : cd 7 78 = some (.ifCond .ne (12), 3) := by decide +kernel
theorem c_7_81 : cd 7 81 = some (.iload 5, 2) := by decide +kernel
theorem c_7_83 : cd 7 83 = some (.iconst (1), 1) := by decide +kernel
theorem c_7_84 : cd 7 84 = some (.iload 6, 2) := by decide +kernel
theorem c_7_86 : cd 7 86 = some (.ishl, 1) := by decide +kernel
theorem c_7_87 : cd 7 87 = some (.ior, 1) := by decide +kernel
theorem c_7_88 : cd 7 88 = some (.istore 5, 2) := by decide +kernel
theorem c_7_90 : cd 7 90 = some (.iinc 6 (1), 3) := by decide +kernel
theorem c_7_93 : cd 7 93 = some (.goto (-47), 3) := by decide +kernel
theorem c_7_96 : cd 7 96 = some (.iload 5, 2) := by decide +kernel
theorem c_7_98 : cd 7 98 = some (.ireturn, 1) := by decide +kernel
def f_Cp_alike_34 (σ : Mm) (k6 : Nat → Int32 → Int32 → Int32 → Int32 → Int32 → Option (Int32)) (x0 : Nat) (x1 : Int32) (x2 : Int32) (x3 : Int32) (x4 : Int32) (x5 : Int32) : Option Int32 := k6 x0 x1 x2 x3 x4 (x5 + (1 : Int32))
set_option maxRecDepth 100000 in
set_option maxHeartbeats 4000000 in
theorem t_Cp_alike_34 {X : Xt} {S : Sh} (hS : ShOK S) {d : Nat} (hd : 0 ≤ d) (σ : Mm) {k6 : Nat → Int32 → Int32 → Int32 → Int32 → Int32 → Option (Int32)} (hk6 : ∀ (x0 : Nat) (x1 : Int32) (x2 : Int32) (x3 : Int32) (x4 : Int32) (x5 : Int32) (u6 : Value) (h_x0 : tgT x0 = 0), Rf X S (emI σ) (k6 x0 x1 x2 x3 x4 x5) d 7 6 [.ref x0, .int x1, .int x2, .int x3, .int x4, .int x5, u6] [] σ) (x0 : Nat) (x1 : Int32) (x2 : Int32) (x3 : Int32) (x4 : Int32) (x5 : Int32) (u6 : Value) (h_x0 : tgT x0 = 0) : Rf X S (emI σ) (f_Cp_alike_34 σ k6 x0 x1 x2 x3 x4 x5) d 7 34 [.ref x0, .int x1, .int x2, .int x3, .int x4, .int x5, u6] [] σ := by
  unfold f_Cp_alike_34
  refine rf_iinc c_7_34 rfl ki_1 rfl ?_
  refine rf_goto c_7_37 rfl ?_
  exact hk6 x0 x1 x2 x3 x4 (x5 + (1 : Int32)) (u6) h_x0
def f_Cp_alike_90 (σ : Mm) (k46 : Nat → Int32 → Int32 → Int32 → Int32 → Int32 → Option (Int32)) (x0 : Nat) (x1 : Int32) (x3 : Int32) (x4 : Int32) (x5 : Int32) (x6 : Int32) : Option Int32 := k46 x0 x1 x3 x4 x5 (x6 + (1 : Int32))
set_option maxRecDepth 100000 in
set_option maxHeartbeats 4000000 in
theorem t_Cp_alike_90 {X : Xt} {S : Sh} (hS : ShOK S) {d : Nat} (hd : 0 ≤ d) (σ : Mm) {k46 : Nat → Int32 → Int32 → Int32 → Int32 → Int32 → Option (Int32)} (hk46 : ∀ (x0 : Nat) (x1 : Int32) (x3 : Int32) (x4 : Int32) (x5 : Int32) (x6 : Int32) (u2 : Value) (h_x0 : tgT x0 = 0), Rf X S (emI σ) (k46 x0 x1 x3 x4 x5 x6) d 7 46 [.ref x0, .int x1, u2, .int x3, .int x4, .int x5, .int x6] [] σ) (x0 : Nat) (x1 : Int32) (x3 : Int32) (x4 : Int32) (x5 : Int32) (x6 : Int32) (u2 : Value) (h_x0 : tgT x0 = 0) : Rf X S (emI σ) (f_Cp_alike_90 σ k46 x0 x1 x3 x4 x5 x6) d 7 90 [.ref x0, .int x1, u2, .int x3, .int x4, .int x5, .int x6] [] σ := by
  unfold f_Cp_alike_90
  refine rf_iinc c_7_90 rfl ki_1 rfl ?_
  refine rf_goto c_7_93 rfl ?_
  exact hk46 x0 x1 x3 x4 x5 (x6 + (1 : Int32)) (u2) h_x0
def f_Cp_alike_46 (σ : Mm) : Nat → Nat → Int32 → Int32 → Int32 → Int32 → Int32 → Option Int32
  | 0, _, _, _, _, _, _ => none
  | n + 1, x0, x1, x3, x4, x5, x6 => (if (σ x0 5) ≤ x6 then (some x5) else (if inbB x6 20 = true then (if ¬ (σ (rfT x0 0) (ix x6)) = x1 then (f_Cp_alike_90 σ (f_Cp_alike_46 σ n) x0 x1 x3 x4 x5 x6) else (if inbB x6 20 = true then (if ¬ (((σ (rfT x0 3) (ix x6)) ^^^ x3) &&& x4) = 0 then (f_Cp_alike_90 σ (f_Cp_alike_46 σ n) x0 x1 x3 x4 x5 x6) else (f_Cp_alike_90 σ (f_Cp_alike_46 σ n) x0 x1 x3 x4 (x5 ||| ((1 : Int32) <<< (x6 &&& 31))) x6)) else none)) else none))
set_option maxRecDepth 100000 in
set_option maxHeartbeats 4000000 in
theorem t_Cp_alike_46 {X : Xt} {S : Sh} (hS : ShOK S) {d : Nat} (hd : 0 ≤ d) (σ : Mm) : ∀ (n : Nat) (x0 : Nat) (x1 : Int32) (x3 : Int32) (x4 : Int32) (x5 : Int32) (x6 : Int32) (u2 : Value) (h_x0 : tgT x0 = 0), Rf X S (emI σ) (f_Cp_alike_46 σ n x0 x1 x3 x4 x5 x6) d 7 46 [.ref x0, .int x1, u2, .int x3, .int x4, .int x5, .int x6] [] σ := by
  intro n
  induction n with
  | zero => intro x0 x1 x3 x4 x5 x6 u2 h_x0; exact rf_none
  | succ n ih =>
    intro x0 x1 x3 x4 x5 x6 u2 h_x0
    rw [f_Cp_alike_46]
    refine rf_ild (i := 6) (Or.inl ⟨rfl, rfl⟩) c_7_46 rfl ?_
    refine rf_ald (i := 0) (Or.inr ⟨0, rfl, rfl, rfl⟩) c_7_48 rfl ?_
    refine rf_geti hS c_7_49 rfl fl_0_34 rfl h_x0 ?_
    refine rf_ite (fun hc52 => ?_) (fun hc52 => ?_)
    · refine rf_b2t c_7_52 rfl (decide_eq_true hc52) ?_
      refine rf_ild (i := 5) (Or.inl ⟨rfl, rfl⟩) c_7_96 rfl ?_
      exact rf_ret c_7_98 rfl rfl rfl rfl
    · refine rf_b2f c_7_52 rfl (decide_eq_false hc52) ?_
      refine rf_ald (i := 0) (Or.inr ⟨0, rfl, rfl, rfl⟩) c_7_55 rfl ?_
      refine rf_getr hS c_7_56 rfl fl_0_9 rfl h_x0 ?_
      refine rf_ild (i := 6) (Or.inl ⟨rfl, rfl⟩) c_7_59 rfl ?_
      refine rf_ite (fun hb61 => ?_) (fun _ => rf_none)
      refine rf_iald hS c_7_61 (tf_0_0 h_x0) (lf_0_0 h_x0) hb61 ?_
      refine rf_ild (i := 1) (Or.inr ⟨1, rfl, rfl, rfl⟩) c_7_62 rfl ?_
      refine rf_ite (fun hc63 => ?_) (fun hc63 => ?_)
      · refine rf_b2t c_7_63 rfl (decide_eq_true hc63) ?_
        exact t_Cp_alike_90 hS hd σ ih x0 x1 x3 x4 x5 x6 (u2) h_x0
      · refine rf_b2f c_7_63 rfl (decide_eq_false hc63) ?_
        refine rf_ald (i := 0) (Or.inr ⟨0, rfl, rfl, rfl⟩) c_7_66 rfl ?_
        refine rf_getr hS c_7_67 rfl fl_0_21 rfl h_x0 ?_
        refine rf_ild (i := 6) (Or.inl ⟨rfl, rfl⟩) c_7_70 rfl ?_
        refine rf_ite (fun hb72 => ?_) (fun _ => rf_none)
        refine rf_iald hS c_7_72 (tf_0_3 h_x0) (lf_0_3 h_x0) hb72 ?_
        refine rf_ild (i := 3) (Or.inr ⟨3, rfl, rfl, rfl⟩) c_7_73 rfl ?_
        refine rf_ixor c_7_74 ?_
        refine rf_ild (i := 4) (Or.inl ⟨rfl, rfl⟩) c_7_75 rfl ?_
        refine rf_iand c_7_77 ?_
        refine rf_ite (fun hc78 => ?_) (fun hc78 => ?_)
        · refine rf_b1t c_7_78 rfl (decide_eq_true hc78) ?_
          exact t_Cp_alike_90 hS hd σ ih x0 x1 x3 x4 x5 x6 (u2) h_x0
        · refine rf_b1f c_7_78 rfl (decide_eq_false hc78) ?_
          refine rf_ild (i := 5) (Or.inl ⟨rfl, rfl⟩) c_7_81 rfl ?_
          refine rf_iconst c_7_83 ki_1 ?_
          refine rf_ild (i := 6) (Or.inl ⟨rfl, rfl⟩) c_7_84 rfl ?_
          refine rf_ishl c_7_86 ?_
          refine rf_ior c_7_87 ?_
          refine rf_ist (i := 5) (Or.inl ⟨rfl, rfl⟩) c_7_88 (Nat.le_of_ble_eq_true rfl) rfl ?_
          exact t_Cp_alike_90 hS hd σ ih x0 x1 x3 x4 (x5 ||| ((1 : Int32) <<< (x6 &&& 31))) x6 (u2) h_x0
def f_Cp_alike_6 (σ : Mm) : Nat → Nat → Int32 → Int32 → Int32 → Int32 → Int32 → Option Int32
  | 0, _, _, _, _, _, _ => none
  | n + 1, x0, x1, x2, x3, x4, x5 => (if (8 : Int32) ≤ x5 then (f_Cp_alike_46 σ NN x0 x1 x3 x4 (0 : Int32) (0 : Int32)) else (if ¬ ((x2 >>> (x5 &&& 31)) &&& (1 : Int32)) = (1 : Int32) then (f_Cp_alike_34 σ (f_Cp_alike_6 σ n) x0 x1 x2 x3 x4 x5) else (f_Cp_alike_34 σ (f_Cp_alike_6 σ n) x0 x1 x2 x3 (x4 ||| ((3 : Int32) <<< (((2 : Int32) * x5) &&& 31))) x5)))
set_option maxRecDepth 100000 in
set_option maxHeartbeats 4000000 in
theorem t_Cp_alike_6 {X : Xt} {S : Sh} (hS : ShOK S) {d : Nat} (hd : 0 ≤ d) (σ : Mm) : ∀ (n : Nat) (x0 : Nat) (x1 : Int32) (x2 : Int32) (x3 : Int32) (x4 : Int32) (x5 : Int32) (u6 : Value) (h_x0 : tgT x0 = 0), Rf X S (emI σ) (f_Cp_alike_6 σ n x0 x1 x2 x3 x4 x5) d 7 6 [.ref x0, .int x1, .int x2, .int x3, .int x4, .int x5, u6] [] σ := by
  intro n
  induction n with
  | zero => intro x0 x1 x2 x3 x4 x5 u6 h_x0; exact rf_none
  | succ n ih =>
    intro x0 x1 x2 x3 x4 x5 u6 h_x0
    rw [f_Cp_alike_6]
    refine rf_ild (i := 5) (Or.inl ⟨rfl, rfl⟩) c_7_6 rfl ?_
    refine rf_bipush c_7_8 kb_8 ?_
    refine rf_ite (fun hc10 => ?_) (fun hc10 => ?_)
    · refine rf_b2t c_7_10 rfl (decide_eq_true hc10) ?_
      refine rf_iconst c_7_40 ki_0 ?_
      refine rf_ist (i := 5) (Or.inl ⟨rfl, rfl⟩) c_7_41 (Nat.le_of_ble_eq_true rfl) rfl ?_
      refine rf_iconst c_7_43 ki_0 ?_
      refine rf_ist (i := 6) (Or.inl ⟨rfl, rfl⟩) c_7_44 (Nat.le_of_ble_eq_true rfl) rfl ?_
      exact t_Cp_alike_46 hS hd σ  NN x0 x1 x3 x4 (0 : Int32) (0 : Int32) (.int x2) h_x0
    · refine rf_b2f c_7_10 rfl (decide_eq_false hc10) ?_
      refine rf_ild (i := 2) (Or.inr ⟨2, rfl, rfl, rfl⟩) c_7_13 rfl ?_
      refine rf_ild (i := 5) (Or.inl ⟨rfl, rfl⟩) c_7_14 rfl ?_
      refine rf_ishr c_7_16 ?_
      refine rf_iconst c_7_17 ki_1 ?_
      refine rf_iand c_7_18 ?_
      refine rf_iconst c_7_19 ki_1 ?_
      refine rf_ite (fun hc20 => ?_) (fun hc20 => ?_)
      · refine rf_b2t c_7_20 rfl (decide_eq_true hc20) ?_
        exact t_Cp_alike_34 hS hd σ ih x0 x1 x2 x3 x4 x5 (u6) h_x0
      · refine rf_b2f c_7_20 rfl (decide_eq_false hc20) ?_
        refine rf_ild (i := 4) (Or.inl ⟨rfl, rfl⟩) c_7_23 rfl ?_
        refine rf_iconst c_7_25 ki_3 ?_
        refine rf_iconst c_7_26 ki_2 ?_
        refine rf_ild (i := 5) (Or.inl ⟨rfl, rfl⟩) c_7_27 rfl ?_
        refine rf_imul c_7_29 ?_
        refine rf_ishl c_7_30 ?_
        refine rf_ior c_7_31 ?_
        refine rf_ist (i := 4) (Or.inl ⟨rfl, rfl⟩) c_7_32 (Nat.le_of_ble_eq_true rfl) rfl ?_
        exact t_Cp_alike_34 hS hd σ ih x0 x1 x2 x3 (x4 ||| ((3 : Int32) <<< (((2 : Int32) * x5) &&& 31))) x5 (u6) h_x0
def f_Cp_alike (σ : Mm) (x0 : Nat) (x1 : Int32) (x2 : Int32) (x3 : Int32) : Option Int32 := f_Cp_alike_6 σ NN x0 x1 x2 x3 (0 : Int32) (0 : Int32)
set_option maxRecDepth 100000 in
set_option maxHeartbeats 4000000 in
theorem t_Cp_alike {X : Xt} {S : Sh} (hS : ShOK S) {d : Nat} (hd : 0 ≤ d) (σ : Mm) (x0 : Nat) (x1 : Int32) (x2 : Int32) (x3 : Int32) (h_x0 : tgT x0 = 0) : Rf X S (emI σ) (f_Cp_alike σ x0 x1 x2 x3) d 7 0 [.ref x0, .int x1, .int x2, .int x3, unset0, unset0, unset0] [] σ := by
  unfold f_Cp_alike
  refine rf_iconst c_7_0 ki_0 ?_
  refine rf_ist (i := 4) (Or.inl ⟨rfl, rfl⟩) c_7_1 (Nat.le_of_ble_eq_true rfl) rfl ?_
  refine rf_iconst c_7_3 ki_0 ?_
  refine rf_ist (i := 5) (Or.inl ⟨rfl, rfl⟩) c_7_4 (Nat.le_of_ble_eq_true rfl) rfl ?_
  exact t_Cp_alike_6 hS hd σ  NN x0 x1 x2 x3 (0 : Int32) (0 : Int32) (unset0) h_x0
theorem c_9_0 : cd 9 0 = some (.iconst (0), 1) := by decide +kernel
theorem c_9_1 : cd 9 1 = some (.istore_n 3, 1) := by decide +kernel
theorem c_9_2 : cd 9 2 = some (.iconst (0), 1) := by decide +kernel
theorem c_9_3 : cd 9 3 = some (.istore 4, 2) := by decide +kernel
theorem c_9_5 : cd 9 5 = some (.iload 4, 2) := by decide +kernel
theorem c_9_7 : cd 9 7 = some (.iconst (4), 1) := by decide +kernel
theorem c_9_8 : cd 9 8 = some (.if_icmp .ge (68), 3) := by decide +kernel
theorem c_9_11 : cd 9 11 = some (.iconst (0), 1) := by decide +kernel
theorem c_9_12 : cd 9 12 = some (.istore 5, 2) := by decide +kernel
theorem c_9_14 : cd 9 14 = some (.iconst (0), 1) := by decide +kernel
theorem c_9_15 : cd 9 15 = some (.istore 6, 2) := by decide +kernel
theorem c_9_17 : cd 9 17 = some (.iload 6, 2) := by decide +kernel
theorem c_9_19 : cd 9 19 = some (.aload_n 0, 1) := by decide +kernel
theorem c_9_20 : cd 9 20 = some (.getfield 34, 3) := by decide +kernel
theorem c_9_23 : cd 9 23 = some (.if_icmp .ge (40), 3) := by decide +kernel
theorem c_9_26 : cd 9 26 = some (.iload_n 1, 1) := by decide +kernel
theorem c_9_27 : cd 9 27 = some (.iload 6, 2) := by decide +kernel
theorem c_9_29 : cd 9 29 = some (.ishr, 1) := by decide +kernel
theorem c_9_30 : cd 9 30 = some (.iconst (1), 1) := by decide +kernel
theorem c_9_31 : cd 9 31 = some (.iand, 1) := by decide +kernel
theorem c_9_32 : cd 9 32 = some (.iconst (1), 1) := by decide +kernel
theorem c_9_33 : cd 9 33 = some (.if_icmp .ne (24), 3) := by decide +kernel
theorem c_9_36 : cd 9 36 = some (.aload_n 0, 1) := by decide +kernel
theorem c_9_37 : cd 9 37 = some (.getfield 21, 3) := by decide +kernel
theorem c_9_40 : cd 9 40 = some (.iload 6, 2) := by decide +kernel
theorem c_9_42 : cd 9 42 = some (.iaload, 1) := by decide +kernel
theorem c_9_43 : cd 9 43 = some (.iconst (2), 1) := by decide +kernel
theorem c_9_44 : cd 9 44 = some (.iload_n 2, 1) := by decide +kernel
theorem c_9_45 : cd 9 45 = some (.imul, 1) := by decide +kernel
theorem c_9_46 : cd 9 46 = some (.ishr, 1) := by decide +kernel
theorem c_9_47 : cd 9 47 = some (.iconst (3), 1) := by decide +kernel
theorem c_9_48 : cd 9 48 = some (.iand, 1) := by decide +kernel
theorem c_9_49 : cd 9 49 = some (.iload 4, 2) := by decide +kernel
theorem c_9_51 : cd 9 51 = some (.if_icmp .ne (6), 3) := by decide +kernel
theorem c_9_54 : cd 9 54 = some (.iinc 5 (1), 3) := by decide +kernel
theorem c_9_57 : cd 9 57 = some (.iinc 6 (1), 3) := by decide +kernel
theorem c_9_60 : cd 9 60 = some (.goto (-43), 3) := by decide +kernel
theorem c_9_63 : cd 9 63 = some (.iload_n 3, 1) := by decide +kernel
theorem c_9_64 : cd 9 64 = some (.iload 5, 2) := by decide +kernel
theorem c_9_66 : cd 9 66 = some (.invokestatic 49, 3) := by decide +kernel
theorem c_9_69 : cd 9 69 = some (.istore_n 3, 1) := by decide +kernel
theorem c_9_70 : cd 9 70 = some (.iinc 4 (1), 3) := by decide +kernel
theorem c_9_73 : cd 9 73 = some (.goto (-68), 3) := by decide +kernel
theorem c_9_76 : cd 9 76 = some (.iload_n 3, 1) := by decide +kernel
theorem c_9_77 : cd 9 77 = some (.ireturn, 1) := by decide +kernel
def f_Cp_mostAlike_57 (σ : Mm) (k5 : Nat → Int32 → Int32 → Int32 → Int32 → Option (Int32)) (k17 : Nat → Int32 → Int32 → Int32 → Int32 → Int32 → Int32 → Option (Int32)) (x0 : Nat) (x1 : Int32) (x2 : Int32) (x3 : Int32) (x4 : Int32) (x5 : Int32) (x6 : Int32) : Option Int32 := k17 x0 x1 x2 x3 x4 x5 (x6 + (1 : Int32))
set_option maxRecDepth 100000 in
set_option maxHeartbeats 4000000 in
theorem t_Cp_mostAlike_57 {X : Xt} {S : Sh} (hS : ShOK S) {d : Nat} (hd : 6 ≤ d) (σ : Mm) {k5 : Nat → Int32 → Int32 → Int32 → Int32 → Option (Int32)} (hk5 : ∀ (x0 : Nat) (x1 : Int32) (x2 : Int32) (x3 : Int32) (x4 : Int32) (u5 : Value) (u6 : Value) (h_x0 : tgT x0 = 0), Rf X S (emI σ) (k5 x0 x1 x2 x3 x4) d 9 5 [.ref x0, .int x1, .int x2, .int x3, .int x4, u5, u6] [] σ) {k17 : Nat → Int32 → Int32 → Int32 → Int32 → Int32 → Int32 → Option (Int32)} (hk17 : ∀ (x0 : Nat) (x1 : Int32) (x2 : Int32) (x3 : Int32) (x4 : Int32) (x5 : Int32) (x6 : Int32) (h_x0 : tgT x0 = 0), Rf X S (emI σ) (k17 x0 x1 x2 x3 x4 x5 x6) d 9 17 [.ref x0, .int x1, .int x2, .int x3, .int x4, .int x5, .int x6] [] σ) (x0 : Nat) (x1 : Int32) (x2 : Int32) (x3 : Int32) (x4 : Int32) (x5 : Int32) (x6 : Int32) (h_x0 : tgT x0 = 0) : Rf X S (emI σ) (f_Cp_mostAlike_57 σ k5 k17 x0 x1 x2 x3 x4 x5 x6) d 9 57 [.ref x0, .int x1, .int x2, .int x3, .int x4, .int x5, .int x6] [] σ := by
  unfold f_Cp_mostAlike_57
  refine rf_iinc c_9_57 rfl ki_1 rfl ?_
  refine rf_goto c_9_60 rfl ?_
  exact hk17 x0 x1 x2 x3 x4 x5 (x6 + (1 : Int32)) h_x0
def f_Cp_mostAlike_17 (σ : Mm) (k5 : Nat → Int32 → Int32 → Int32 → Int32 → Option (Int32)) : Nat → Nat → Int32 → Int32 → Int32 → Int32 → Int32 → Int32 → Option Int32
  | 0, _, _, _, _, _, _, _ => none
  | n + 1, x0, x1, x2, x3, x4, x5, x6 => (if (σ x0 5) ≤ x6 then (k5 x0 x1 x2 (if x3 < x5 then x5 else x3) (x4 + (1 : Int32))) else (if ¬ ((x1 >>> (x6 &&& 31)) &&& (1 : Int32)) = (1 : Int32) then (f_Cp_mostAlike_57 σ k5 (f_Cp_mostAlike_17 σ k5 n) x0 x1 x2 x3 x4 x5 x6) else (if inbB x6 20 = true then (if ¬ (((σ (rfT x0 3) (ix x6)) >>> (((2 : Int32) * x2) &&& 31)) &&& (3 : Int32)) = x4 then (f_Cp_mostAlike_57 σ k5 (f_Cp_mostAlike_17 σ k5 n) x0 x1 x2 x3 x4 x5 x6) else (f_Cp_mostAlike_57 σ k5 (f_Cp_mostAlike_17 σ k5 n) x0 x1 x2 x3 x4 (x5 + (1 : Int32)) x6)) else none)))
set_option maxRecDepth 100000 in
set_option maxHeartbeats 4000000 in
theorem t_Cp_mostAlike_17 {X : Xt} {S : Sh} (hS : ShOK S) {d : Nat} (hd : 6 ≤ d) (σ : Mm) {k5 : Nat → Int32 → Int32 → Int32 → Int32 → Option (Int32)} (hk5 : ∀ (x0 : Nat) (x1 : Int32) (x2 : Int32) (x3 : Int32) (x4 : Int32) (u5 : Value) (u6 : Value) (h_x0 : tgT x0 = 0), Rf X S (emI σ) (k5 x0 x1 x2 x3 x4) d 9 5 [.ref x0, .int x1, .int x2, .int x3, .int x4, u5, u6] [] σ) : ∀ (n : Nat) (x0 : Nat) (x1 : Int32) (x2 : Int32) (x3 : Int32) (x4 : Int32) (x5 : Int32) (x6 : Int32) (h_x0 : tgT x0 = 0), Rf X S (emI σ) (f_Cp_mostAlike_17 σ k5 n x0 x1 x2 x3 x4 x5 x6) d 9 17 [.ref x0, .int x1, .int x2, .int x3, .int x4, .int x5, .int x6] [] σ := by
  intro n
  induction n with
  | zero => intro x0 x1 x2 x3 x4 x5 x6 h_x0; exact rf_none
  | succ n ih =>
    intro x0 x1 x2 x3 x4 x5 x6 h_x0
    rw [f_Cp_mostAlike_17]
    refine rf_ild (i := 6) (Or.inl ⟨rfl, rfl⟩) c_9_17 rfl ?_
    refine rf_ald (i := 0) (Or.inr ⟨0, rfl, rfl, rfl⟩) c_9_19 rfl ?_
    refine rf_geti hS c_9_20 rfl fl_0_34 rfl h_x0 ?_
    refine rf_ite (fun hc23 => ?_) (fun hc23 => ?_)
    · refine rf_b2t c_9_23 rfl (decide_eq_true hc23) ?_
      refine rf_ild (i := 3) (Or.inr ⟨3, rfl, rfl, rfl⟩) c_9_63 rfl ?_
      refine rf_ild (i := 5) (Or.inl ⟨rfl, rfl⟩) c_9_64 rfl ?_
      refine rf_max c_9_66 rfl ml_0_49 (by omega) (Nat.zero_le _) ?_
      refine rf_ist (i := 3) (Or.inr ⟨3, rfl, rfl, rfl⟩) c_9_69 (Nat.le_of_ble_eq_true rfl) rfl ?_
      refine rf_iinc c_9_70 rfl ki_1 rfl ?_
      refine rf_goto c_9_73 rfl ?_
      exact hk5 x0 x1 x2 (if x3 < x5 then x5 else x3) (x4 + (1 : Int32)) (.int x5) (.int x6) h_x0
    · refine rf_b2f c_9_23 rfl (decide_eq_false hc23) ?_
      refine rf_ild (i := 1) (Or.inr ⟨1, rfl, rfl, rfl⟩) c_9_26 rfl ?_
      refine rf_ild (i := 6) (Or.inl ⟨rfl, rfl⟩) c_9_27 rfl ?_
      refine rf_ishr c_9_29 ?_
      refine rf_iconst c_9_30 ki_1 ?_
      refine rf_iand c_9_31 ?_
      refine rf_iconst c_9_32 ki_1 ?_
      refine rf_ite (fun hc33 => ?_) (fun hc33 => ?_)
      · refine rf_b2t c_9_33 rfl (decide_eq_true hc33) ?_
        exact t_Cp_mostAlike_57 hS hd σ hk5 ih x0 x1 x2 x3 x4 x5 x6 h_x0
      · refine rf_b2f c_9_33 rfl (decide_eq_false hc33) ?_
        refine rf_ald (i := 0) (Or.inr ⟨0, rfl, rfl, rfl⟩) c_9_36 rfl ?_
        refine rf_getr hS c_9_37 rfl fl_0_21 rfl h_x0 ?_
        refine rf_ild (i := 6) (Or.inl ⟨rfl, rfl⟩) c_9_40 rfl ?_
        refine rf_ite (fun hb42 => ?_) (fun _ => rf_none)
        refine rf_iald hS c_9_42 (tf_0_3 h_x0) (lf_0_3 h_x0) hb42 ?_
        refine rf_iconst c_9_43 ki_2 ?_
        refine rf_ild (i := 2) (Or.inr ⟨2, rfl, rfl, rfl⟩) c_9_44 rfl ?_
        refine rf_imul c_9_45 ?_
        refine rf_ishr c_9_46 ?_
        refine rf_iconst c_9_47 ki_3 ?_
        refine rf_iand c_9_48 ?_
        refine rf_ild (i := 4) (Or.inl ⟨rfl, rfl⟩) c_9_49 rfl ?_
        refine rf_ite (fun hc51 => ?_) (fun hc51 => ?_)
        · refine rf_b2t c_9_51 rfl (decide_eq_true hc51) ?_
          exact t_Cp_mostAlike_57 hS hd σ hk5 ih x0 x1 x2 x3 x4 x5 x6 h_x0
        · refine rf_b2f c_9_51 rfl (decide_eq_false hc51) ?_
          refine rf_iinc c_9_54 rfl ki_1 rfl ?_
          exact t_Cp_mostAlike_57 hS hd σ hk5 ih x0 x1 x2 x3 x4 (x5 + (1 : Int32)) x6 h_x0
def f_Cp_mostAlike_5 (σ : Mm) : Nat → Nat → Int32 → Int32 → Int32 → Int32 → Option Int32
  | 0, _, _, _, _, _ => none
  | n + 1, x0, x1, x2, x3, x4 => (if (4 : Int32) ≤ x4 then (some x3) else (f_Cp_mostAlike_17 σ (f_Cp_mostAlike_5 σ n) NN x0 x1 x2 x3 x4 (0 : Int32) (0 : Int32)))
set_option maxRecDepth 100000 in
set_option maxHeartbeats 4000000 in
theorem t_Cp_mostAlike_5 {X : Xt} {S : Sh} (hS : ShOK S) {d : Nat} (hd : 6 ≤ d) (σ : Mm) : ∀ (n : Nat) (x0 : Nat) (x1 : Int32) (x2 : Int32) (x3 : Int32) (x4 : Int32) (u5 : Value) (u6 : Value) (h_x0 : tgT x0 = 0), Rf X S (emI σ) (f_Cp_mostAlike_5 σ n x0 x1 x2 x3 x4) d 9 5 [.ref x0, .int x1, .int x2, .int x3, .int x4, u5, u6] [] σ := by
  intro n
  induction n with
  | zero => intro x0 x1 x2 x3 x4 u5 u6 h_x0; exact rf_none
  | succ n ih =>
    intro x0 x1 x2 x3 x4 u5 u6 h_x0
    rw [f_Cp_mostAlike_5]
    refine rf_ild (i := 4) (Or.inl ⟨rfl, rfl⟩) c_9_5 rfl ?_
    refine rf_iconst c_9_7 ki_4 ?_
    refine rf_ite (fun hc8 => ?_) (fun hc8 => ?_)
    · refine rf_b2t c_9_8 rfl (decide_eq_true hc8) ?_
      refine rf_ild (i := 3) (Or.inr ⟨3, rfl, rfl, rfl⟩) c_9_76 rfl ?_
      exact rf_ret c_9_77 rfl rfl rfl rfl
    · refine rf_b2f c_9_8 rfl (decide_eq_false hc8) ?_
      refine rf_iconst c_9_11 ki_0 ?_
      refine rf_ist (i := 5) (Or.inl ⟨rfl, rfl⟩) c_9_12 (Nat.le_of_ble_eq_true rfl) rfl ?_
      refine rf_iconst c_9_14 ki_0 ?_
      refine rf_ist (i := 6) (Or.inl ⟨rfl, rfl⟩) c_9_15 (Nat.le_of_ble_eq_true rfl) rfl ?_
      exact t_Cp_mostAlike_17 hS hd σ ih NN x0 x1 x2 x3 x4 (0 : Int32) (0 : Int32) h_x0
def f_Cp_mostAlike (σ : Mm) (x0 : Nat) (x1 : Int32) (x2 : Int32) : Option Int32 := f_Cp_mostAlike_5 σ NN x0 x1 x2 (0 : Int32) (0 : Int32)
set_option maxRecDepth 100000 in
set_option maxHeartbeats 4000000 in
theorem t_Cp_mostAlike {X : Xt} {S : Sh} (hS : ShOK S) {d : Nat} (hd : 6 ≤ d) (σ : Mm) (x0 : Nat) (x1 : Int32) (x2 : Int32) (h_x0 : tgT x0 = 0) : Rf X S (emI σ) (f_Cp_mostAlike σ x0 x1 x2) d 9 0 [.ref x0, .int x1, .int x2, unset0, unset0, unset0, unset0] [] σ := by
  unfold f_Cp_mostAlike
  refine rf_iconst c_9_0 ki_0 ?_
  refine rf_ist (i := 3) (Or.inr ⟨3, rfl, rfl, rfl⟩) c_9_1 (Nat.le_of_ble_eq_true rfl) rfl ?_
  refine rf_iconst c_9_2 ki_0 ?_
  refine rf_ist (i := 4) (Or.inl ⟨rfl, rfl⟩) c_9_3 (Nat.le_of_ble_eq_true rfl) rfl ?_
  exact t_Cp_mostAlike_5 hS hd σ  NN x0 x1 x2 (0 : Int32) (0 : Int32) (unset0) (unset0) h_x0
theorem c_8_0 : cd 8 0 = some (.ldc 44, 2) := by decide +kernel
theorem c_8_2 : cd 8 2 = some (.istore_n 3, 1) := by decide +kernel
theorem c_8_3 : cd 8 3 = some (.bipush (21), 2) := by decide +kernel
theorem c_8_5 : cd 8 5 = some (.istore 4, 2) := by decide +kernel
theorem c_8_7 : cd 8 7 = some (.iconst (0), 1) := by decide +kernel
theorem c_8_8 : cd 8 8 = some (.istore 5, 2) := by decide +kernel
theorem c_8_10 : cd 8 10 = some (.iload 5, 2) := by decide +kernel
theorem c_8_12 : cd 8 12 = some (.bipush (8), 2) := by decide +kernel
theorem c_8_14 : cd 8 14 = some (.if_icmp .ge (41), 3) := by decide +kernel
theorem c_8_17 : cd 8 17 = some (.aload_n 0, 1) := by decide +kernel
theorem c_8_18 : cd 8 18 = some (.iload_n 1, 1) := by decide +kernel
theorem c_8_19 : cd 8 19 = some (.iload 5, 2) := by decide +kernel
theorem c_8_21 : cd 8 21 = some (.invokevirtual 45, 3) := by decide +kernel
theorem c_8_24 : cd 8 24 = some (.istore 6, 2) := by decide +kernel
theorem c_8_26 : cd 8 26 = some (.iload_n 2, 1) := by decide +kernel
theorem c_8_27 : cd 8 27 = some (.iload 5, 2) := by decide +kernel
theorem c_8_29 : cd 8 29 = some (.ishr, 1) := by decide +kernel
theorem c_8_30 : cd 8 30 = some (.iconst (1), 1) := by decide +kernel
theorem c_8_31 : cd 8 31 = some (.iand, 1) := by decide +kernel
theorem c_8_32 : cd 8 32 = some (.ifCond .ne (17), 3) := by decide +kernel
theorem c_8_35 : cd 8 35 = some (.iload 6, 2) := by decide +kernel
theorem c_8_37 : cd 8 37 = some (.iload 4, 2) := by decide +kernel
theorem c_8_39 : cd 8 39 = some (.if_icmp .ge (10), 3) := by decide +kernel
theorem c_8_42 : cd 8 42 = some (.iload 5, 2) := by decide +kernel
theorem c_8_44 : cd 8 44 = some (.istore_n 3, 1) := by decide +kernel
theorem c_8_45 : cd 8 45 = some (.iload 6, 2) := by decide +kernel
theorem c_8_47 : cd 8 47 = some (.istore 4, 2) := by decide +kernel
theorem c_8_49 : cd 8 49 = some (.iinc 5 (1), 3) := by decide +kernel
theorem c_8_52 : cd 8 52 = some (.goto (-42), 3) := by decide +kernel
theorem c_8_55 : cd 8 55 = some (.iload_n 3, 1) := by decide +kernel
theorem c_8_56 : cd 8 56 = some (.ireturn, 1) := by decide +kernel
def f_Cp_bestPlace_49 (σ : Mm) (k10 : Nat → Int32 → Int32 → Int32 → Int32 → Int32 → Option (Int32)) (x0 : Nat) (x1 : Int32) (x2 : Int32) (x3 : Int32) (x4 : Int32) (x5 : Int32) : Option Int32 := k10 x0 x1 x2 x3 x4 (x5 + (1 : Int32))
set_option maxRecDepth 100000 in
set_option maxHeartbeats 4000000 in
theorem t_Cp_bestPlace_49 {X : Xt} {S : Sh} (hS : ShOK S) {d : Nat} (hd : 7 ≤ d + 1) (σ : Mm) {k10 : Nat → Int32 → Int32 → Int32 → Int32 → Int32 → Option (Int32)} (hk10 : ∀ (x0 : Nat) (x1 : Int32) (x2 : Int32) (x3 : Int32) (x4 : Int32) (x5 : Int32) (u6 : Value) (h_x0 : tgT x0 = 0), Rf X S (emI σ) (k10 x0 x1 x2 x3 x4 x5) (d + 1) 8 10 [.ref x0, .int x1, .int x2, .int x3, .int x4, .int x5, u6] [] σ) (x0 : Nat) (x1 : Int32) (x2 : Int32) (x3 : Int32) (x4 : Int32) (x5 : Int32) (u6 : Value) (h_x0 : tgT x0 = 0) : Rf X S (emI σ) (f_Cp_bestPlace_49 σ k10 x0 x1 x2 x3 x4 x5) (d + 1) 8 49 [.ref x0, .int x1, .int x2, .int x3, .int x4, .int x5, u6] [] σ := by
  unfold f_Cp_bestPlace_49
  refine rf_iinc c_8_49 rfl ki_1 rfl ?_
  refine rf_goto c_8_52 rfl ?_
  exact hk10 x0 x1 x2 x3 x4 (x5 + (1 : Int32)) (u6) h_x0
def f_Cp_bestPlace_10 (σ : Mm) : Nat → Nat → Int32 → Int32 → Int32 → Int32 → Int32 → Option Int32
  | 0, _, _, _, _, _, _ => none
  | n + 1, x0, x1, x2, x3, x4, x5 => (if (8 : Int32) ≤ x5 then (some x3) else ((f_Cp_mostAlike σ x0 x1 x5).bind fun v21 => (if ¬ ((x2 >>> (x5 &&& 31)) &&& (1 : Int32)) = 0 then (f_Cp_bestPlace_49 σ (f_Cp_bestPlace_10 σ n) x0 x1 x2 x3 x4 x5) else (if x4 ≤ v21 then (f_Cp_bestPlace_49 σ (f_Cp_bestPlace_10 σ n) x0 x1 x2 x3 x4 x5) else (f_Cp_bestPlace_49 σ (f_Cp_bestPlace_10 σ n) x0 x1 x2 x5 v21 x5)))))
set_option maxRecDepth 100000 in
set_option maxHeartbeats 4000000 in
theorem t_Cp_bestPlace_10 {X : Xt} {S : Sh} (hS : ShOK S) {d : Nat} (hd : 7 ≤ d + 1) (σ : Mm) : ∀ (n : Nat) (x0 : Nat) (x1 : Int32) (x2 : Int32) (x3 : Int32) (x4 : Int32) (x5 : Int32) (u6 : Value) (h_x0 : tgT x0 = 0), Rf X S (emI σ) (f_Cp_bestPlace_10 σ n x0 x1 x2 x3 x4 x5) (d + 1) 8 10 [.ref x0, .int x1, .int x2, .int x3, .int x4, .int x5, u6] [] σ := by
  intro n
  induction n with
  | zero => intro x0 x1 x2 x3 x4 x5 u6 h_x0; exact rf_none
  | succ n ih =>
    intro x0 x1 x2 x3 x4 x5 u6 h_x0
    rw [f_Cp_bestPlace_10]
    refine rf_ild (i := 5) (Or.inl ⟨rfl, rfl⟩) c_8_10 rfl ?_
    refine rf_bipush c_8_12 kb_8 ?_
    refine rf_ite (fun hc14 => ?_) (fun hc14 => ?_)
    · refine rf_b2t c_8_14 rfl (decide_eq_true hc14) ?_
      refine rf_ild (i := 3) (Or.inr ⟨3, rfl, rfl, rfl⟩) c_8_55 rfl ?_
      exact rf_ret c_8_56 rfl rfl rfl rfl
    · refine rf_b2f c_8_14 rfl (decide_eq_false hc14) ?_
      refine rf_ald (i := 0) (Or.inr ⟨0, rfl, rfl, rfl⟩) c_8_17 rfl ?_
      refine rf_ild (i := 1) (Or.inr ⟨1, rfl, rfl, rfl⟩) c_8_18 rfl ?_
      refine rf_ild (i := 5) (Or.inl ⟨rfl, rfl⟩) c_8_19 rfl ?_
      refine rf_callI (as := [.ref x0, .int x1, .int x5]) (kd := 1) c_8_21 rfl (by decide) rfl ml_0_45 (by decide) rfl (rcv_1 hS rfl rfl h_x0 (by decide)) (Nat.zero_le _) rfl rfl (t_Cp_mostAlike hS (by omega) σ x0 x1 x5 h_x0) (fun v21 => ?_)
      refine rf_ist (i := 6) (Or.inl ⟨rfl, rfl⟩) c_8_24 (Nat.le_of_ble_eq_true rfl) rfl ?_
      refine rf_ild (i := 2) (Or.inr ⟨2, rfl, rfl, rfl⟩) c_8_26 rfl ?_
      refine rf_ild (i := 5) (Or.inl ⟨rfl, rfl⟩) c_8_27 rfl ?_
      refine rf_ishr c_8_29 ?_
      refine rf_iconst c_8_30 ki_1 ?_
      refine rf_iand c_8_31 ?_
      refine rf_ite (fun hc32 => ?_) (fun hc32 => ?_)
      · refine rf_b1t c_8_32 rfl (decide_eq_true hc32) ?_
        exact t_Cp_bestPlace_49 hS hd σ ih x0 x1 x2 x3 x4 x5 (.int v21) h_x0
      · refine rf_b1f c_8_32 rfl (decide_eq_false hc32) ?_
        refine rf_ild (i := 6) (Or.inl ⟨rfl, rfl⟩) c_8_35 rfl ?_
        refine rf_ild (i := 4) (Or.inl ⟨rfl, rfl⟩) c_8_37 rfl ?_
        refine rf_ite (fun hc39 => ?_) (fun hc39 => ?_)
        · refine rf_b2t c_8_39 rfl (decide_eq_true hc39) ?_
          exact t_Cp_bestPlace_49 hS hd σ ih x0 x1 x2 x3 x4 x5 (.int v21) h_x0
        · refine rf_b2f c_8_39 rfl (decide_eq_false hc39) ?_
          refine rf_ild (i := 5) (Or.inl ⟨rfl, rfl⟩) c_8_42 rfl ?_
          refine rf_ist (i := 3) (Or.inr ⟨3, rfl, rfl, rfl⟩) c_8_44 (Nat.le_of_ble_eq_true rfl) rfl ?_
          refine rf_ild (i := 6) (Or.inl ⟨rfl, rfl⟩) c_8_45 rfl ?_
          refine rf_ist (i := 4) (Or.inl ⟨rfl, rfl⟩) c_8_47 (Nat.le_of_ble_eq_true rfl) rfl ?_
          exact t_Cp_bestPlace_49 hS hd σ ih x0 x1 x2 x5 v21 x5 (.int v21) h_x0
def f_Cp_bestPlace (σ : Mm) (x0 : Nat) (x1 : Int32) (x2 : Int32) : Option Int32 := f_Cp_bestPlace_10 σ NN x0 x1 x2 (-1000000005 : Int32) (21 : Int32) (0 : Int32)
set_option maxRecDepth 100000 in
set_option maxHeartbeats 4000000 in
theorem t_Cp_bestPlace_e {X : Xt} {S : Sh} (hS : ShOK S) {d : Nat} (hd : 7 ≤ d + 1) (σ : Mm) (x0 : Nat) (x1 : Int32) (x2 : Int32) (h_x0 : tgT x0 = 0) : Rf X S (emI σ) (f_Cp_bestPlace σ x0 x1 x2) (d + 1) 8 0 [.ref x0, .int x1, .int x2, unset0, unset0, unset0, unset0] [] σ := by
  unfold f_Cp_bestPlace
  refine rf_ldc (Or.inl ⟨rfl, rfl⟩) c_8_0 rfl kl_0_44 ?_
  refine rf_ist (i := 3) (Or.inr ⟨3, rfl, rfl, rfl⟩) c_8_2 (Nat.le_of_ble_eq_true rfl) rfl ?_
  refine rf_bipush c_8_3 kb_21 ?_
  refine rf_ist (i := 4) (Or.inl ⟨rfl, rfl⟩) c_8_5 (Nat.le_of_ble_eq_true rfl) rfl ?_
  refine rf_iconst c_8_7 ki_0 ?_
  refine rf_ist (i := 5) (Or.inl ⟨rfl, rfl⟩) c_8_8 (Nat.le_of_ble_eq_true rfl) rfl ?_
  exact t_Cp_bestPlace_10 hS hd σ  NN x0 x1 x2 (-1000000005 : Int32) (21 : Int32) (0 : Int32) (unset0) h_x0
theorem t_Cp_bestPlace {X : Xt} {S : Sh} (hS : ShOK S) {d : Nat} (hd : 7 ≤ d) (σ : Mm) (x0 : Nat) (x1 : Int32) (x2 : Int32) (h_x0 : tgT x0 = 0) : Rf X S (emI σ) (f_Cp_bestPlace σ x0 x1 x2) d 8 0 [.ref x0, .int x1, .int x2, unset0, unset0, unset0, unset0] [] σ := by
  obtain ⟨d1, rfl⟩ : ∃ d1, d = d1 + 1 := ⟨d - 1, by omega⟩
  exact t_Cp_bestPlace_e hS hd σ x0 x1 x2 h_x0
theorem c_11_0 : cd 11 0 = some (.aload_n 1, 1) := by decide +kernel
theorem c_11_1 : cd 11 1 = some (.getfield 9, 3) := by decide +kernel
theorem c_11_4 : cd 11 4 = some (.iconst (0), 1) := by decide +kernel
theorem c_11_5 : cd 11 5 = some (.aload_n 0, 1) := by decide +kernel
theorem c_11_6 : cd 11 6 = some (.getfield 9, 3) := by decide +kernel
theorem c_11_9 : cd 11 9 = some (.iconst (0), 1) := by decide +kernel
theorem c_11_10 : cd 11 10 = some (.bipush (24), 2) := by decide +kernel
theorem c_11_12 : cd 11 12 = some (.invokestatic 36, 3) := by decide +kernel
theorem c_11_15 : cd 11 15 = some (.aload_n 1, 1) := by decide +kernel
theorem c_11_16 : cd 11 16 = some (.getfield 15, 3) := by decide +kernel
theorem c_11_19 : cd 11 19 = some (.iconst (0), 1) := by decide +kernel
theorem c_11_20 : cd 11 20 = some (.aload_n 0, 1) := by decide +kernel
theorem c_11_21 : cd 11 21 = some (.getfield 15, 3) := by decide +kernel
theorem c_11_24 : cd 11 24 = some (.iconst (0), 1) := by decide +kernel
theorem c_11_25 : cd 11 25 = some (.bipush (24), 2) := by decide +kernel
theorem c_11_27 : cd 11 27 = some (.invokestatic 36, 3) := by decide +kernel
theorem c_11_30 : cd 11 30 = some (.aload_n 1, 1) := by decide +kernel
theorem c_11_31 : cd 11 31 = some (.getfield 18, 3) := by decide +kernel
theorem c_11_34 : cd 11 34 = some (.iconst (0), 1) := by decide +kernel
theorem c_11_35 : cd 11 35 = some (.aload_n 0, 1) := by decide +kernel
theorem c_11_36 : cd 11 36 = some (.getfield 18, 3) := by decide +kernel
theorem c_11_39 : cd 11 39 = some (.iconst (0), 1) := by decide +kernel
theorem c_11_40 : cd 11 40 = some (.bipush (24), 2) := by decide +kernel
theorem c_11_42 : cd 11 42 = some (.invokestatic 36, 3) := by decide +kernel
theorem c_11_45 : cd 11 45 = some (.aload_n 1, 1) := by decide +kernel
theorem c_11_46 : cd 11 46 = some (.getfield 21, 3) := by decide +kernel
theorem c_11_49 : cd 11 49 = some (.iconst (0), 1) := by decide +kernel
theorem c_11_50 : cd 11 50 = some (.aload_n 0, 1) := by decide +kernel
theorem c_11_51 : cd 11 51 = some (.getfield 21, 3) := by decide +kernel
theorem c_11_54 : cd 11 54 = some (.iconst (0), 1) := by decide +kernel
theorem c_11_55 : cd 11 55 = some (.bipush (24), 2) := by decide +kernel
theorem c_11_57 : cd 11 57 = some (.invokestatic 36, 3) := by decide +kernel
theorem c_11_60 : cd 11 60 = some (.aload_n 1, 1) := by decide +kernel
theorem c_11_61 : cd 11 61 = some (.getfield 24, 3) := by decide +kernel
theorem c_11_64 : cd 11 64 = some (.iconst (0), 1) := by decide +kernel
theorem c_11_65 : cd 11 65 = some (.aload_n 0, 1) := by decide +kernel
theorem c_11_66 : cd 11 66 = some (.getfield 24, 3) := by decide +kernel
theorem c_11_69 : cd 11 69 = some (.iconst (0), 1) := by decide +kernel
theorem c_11_70 : cd 11 70 = some (.bipush (24), 2) := by decide +kernel
theorem c_11_72 : cd 11 72 = some (.invokestatic 36, 3) := by decide +kernel
theorem c_11_75 : cd 11 75 = some (.aload_n 1, 1) := by decide +kernel
theorem c_11_76 : cd 11 76 = some (.getfield 27, 3) := by decide +kernel
theorem c_11_79 : cd 11 79 = some (.iconst (0), 1) := by decide +kernel
theorem c_11_80 : cd 11 80 = some (.aload_n 0, 1) := by decide +kernel
theorem c_11_81 : cd 11 81 = some (.getfield 27, 3) := by decide +kernel
theorem c_11_84 : cd 11 84 = some (.iconst (0), 1) := by decide +kernel
theorem c_11_85 : cd 11 85 = some (.bipush (24), 2) := by decide +kernel
theorem c_11_87 : cd 11 87 = some (.invokestatic 36, 3) := by decide +kernel
theorem c_11_90 : cd 11 90 = some (.aload_n 1, 1) := by decide +kernel
theorem c_11_91 : cd 11 91 = some (.getfield 30, 3) := by decide +kernel
theorem c_11_94 : cd 11 94 = some (.iconst (0), 1) := by decide +kernel
theorem c_11_95 : cd 11 95 = some (.aload_n 0, 1) := by decide +kernel
theorem c_11_96 : cd 11 96 = some (.getfield 30, 3) := by decide +kernel
theorem c_11_99 : cd 11 99 = some (.iconst (0), 1) := by decide +kernel
theorem c_11_100 : cd 11 100 = some (.bipush (24), 2) := by decide +kernel
theorem c_11_102 : cd 11 102 = some (.invokestatic 36, 3) := by decide +kernel
theorem c_11_105 : cd 11 105 = some (.aload_n 1, 1) := by decide +kernel
theorem c_11_106 : cd 11 106 = some (.getfield 33, 3) := by decide +kernel
theorem c_11_109 : cd 11 109 = some (.iconst (0), 1) := by decide +kernel
theorem c_11_110 : cd 11 110 = some (.aload_n 0, 1) := by decide +kernel
theorem c_11_111 : cd 11 111 = some (.getfield 33, 3) := by decide +kernel
theorem c_11_114 : cd 11 114 = some (.iconst (0), 1) := by decide +kernel
theorem c_11_115 : cd 11 115 = some (.bipush (24), 2) := by decide +kernel
theorem c_11_117 : cd 11 117 = some (.invokestatic 36, 3) := by decide +kernel
theorem c_11_120 : cd 11 120 = some (.aload_n 0, 1) := by decide +kernel
theorem c_11_121 : cd 11 121 = some (.aload_n 1, 1) := by decide +kernel
theorem c_11_122 : cd 11 122 = some (.getfield 42, 3) := by decide +kernel
theorem c_11_125 : cd 11 125 = some (.putfield 42, 3) := by decide +kernel
theorem c_11_128 : cd 11 128 = some (.return_, 1) := by decide +kernel
def f_Dk_become (x0 : Nat) (x1 : Nat) (σ : Mm) : Option Mm := nmM (cp2 σ (rfT x1 0) (ix (0 : Int32)) (rfT x0 0) (ix (0 : Int32)) (ix (24 : Int32))) fun σ12 => nmM (cp2 σ12 (rfT x1 1) (ix (0 : Int32)) (rfT x0 1) (ix (0 : Int32)) (ix (24 : Int32))) fun σ27 => nmM (cp2 σ27 (rfT x1 2) (ix (0 : Int32)) (rfT x0 2) (ix (0 : Int32)) (ix (24 : Int32))) fun σ42 => nmM (cp2 σ42 (rfT x1 3) (ix (0 : Int32)) (rfT x0 3) (ix (0 : Int32)) (ix (24 : Int32))) fun σ57 => nmM (cp2 σ57 (rfT x1 4) (ix (0 : Int32)) (rfT x0 4) (ix (0 : Int32)) (ix (24 : Int32))) fun σ72 => nmM (cp2 σ72 (rfT x1 5) (ix (0 : Int32)) (rfT x0 5) (ix (0 : Int32)) (ix (24 : Int32))) fun σ87 => nmM (cp2 σ87 (rfT x1 6) (ix (0 : Int32)) (rfT x0 6) (ix (0 : Int32)) (ix (24 : Int32))) fun σ102 => nmM (cp2 σ102 (rfT x1 7) (ix (0 : Int32)) (rfT x0 7) (ix (0 : Int32)) (ix (24 : Int32))) fun σ117 => nmM (up2 σ117 x0 8 (σ117 x1 8)) fun σ125 => some σ125
set_option maxRecDepth 100000 in
set_option maxHeartbeats 4000000 in
theorem t_Dk_become {X : Xt} {S : Sh} (hS : ShOK S) {d : Nat} (hd : 6 ≤ d) (x0 : Nat) (x1 : Nat) (σ : Mm) (h_x0 : tgT x0 = 1) (h_x1 : tgT x1 = 1) : Rf X S emV (f_Dk_become x0 x1 σ) d 11 0 [.ref x0, .ref x1] [] σ := by
  unfold f_Dk_become
  refine rf_ald (i := 1) (Or.inr ⟨1, rfl, rfl, rfl⟩) c_11_0 rfl ?_
  refine rf_getr hS c_11_1 rfl fl_1_9 rfl h_x1 ?_
  refine rf_iconst c_11_4 ki_0 ?_
  refine rf_ald (i := 0) (Or.inr ⟨0, rfl, rfl, rfl⟩) c_11_5 rfl ?_
  refine rf_getr hS c_11_6 rfl fl_1_9 rfl h_x0 ?_
  refine rf_iconst c_11_9 ki_0 ?_
  refine rf_bipush c_11_10 kb_24 ?_
  refine rf_copy hS c_11_12 rfl ml_1_36 (by omega) (Nat.zero_le _) (tf_1_0 h_x1) (tf_1_0 h_x0) (lf_1_0 h_x1) (lf_1_0 h_x0) (by decide) ?_
  refine rf_nm (fun σ12 => ?_)
  refine rf_ald (i := 1) (Or.inr ⟨1, rfl, rfl, rfl⟩) c_11_15 rfl ?_
  refine rf_getr hS c_11_16 rfl fl_1_15 rfl h_x1 ?_
  refine rf_iconst c_11_19 ki_0 ?_
  refine rf_ald (i := 0) (Or.inr ⟨0, rfl, rfl, rfl⟩) c_11_20 rfl ?_
  refine rf_getr hS c_11_21 rfl fl_1_15 rfl h_x0 ?_
  refine rf_iconst c_11_24 ki_0 ?_
  refine rf_bipush c_11_25 kb_24 ?_
  refine rf_copy hS c_11_27 rfl ml_1_36 (by omega) (Nat.zero_le _) (tf_1_1 h_x1) (tf_1_1 h_x0) (lf_1_1 h_x1) (lf_1_1 h_x0) (by decide) ?_
  refine rf_nm (fun σ27 => ?_)
  refine rf_ald (i := 1) (Or.inr ⟨1, rfl, rfl, rfl⟩) c_11_30 rfl ?_
  refine rf_getr hS c_11_31 rfl fl_1_18 rfl h_x1 ?_
  refine rf_iconst c_11_34 ki_0 ?_
  refine rf_ald (i := 0) (Or.inr ⟨0, rfl, rfl, rfl⟩) c_11_35 rfl ?_
  refine rf_getr hS c_11_36 rfl fl_1_18 rfl h_x0 ?_
  refine rf_iconst c_11_39 ki_0 ?_
  refine rf_bipush c_11_40 kb_24 ?_
  refine rf_copy hS c_11_42 rfl ml_1_36 (by omega) (Nat.zero_le _) (tf_1_2 h_x1) (tf_1_2 h_x0) (lf_1_2 h_x1) (lf_1_2 h_x0) (by decide) ?_
  refine rf_nm (fun σ42 => ?_)
  refine rf_ald (i := 1) (Or.inr ⟨1, rfl, rfl, rfl⟩) c_11_45 rfl ?_
  refine rf_getr hS c_11_46 rfl fl_1_21 rfl h_x1 ?_
  refine rf_iconst c_11_49 ki_0 ?_
  refine rf_ald (i := 0) (Or.inr ⟨0, rfl, rfl, rfl⟩) c_11_50 rfl ?_
  refine rf_getr hS c_11_51 rfl fl_1_21 rfl h_x0 ?_
  refine rf_iconst c_11_54 ki_0 ?_
  refine rf_bipush c_11_55 kb_24 ?_
  refine rf_copy hS c_11_57 rfl ml_1_36 (by omega) (Nat.zero_le _) (tf_1_3 h_x1) (tf_1_3 h_x0) (lf_1_3 h_x1) (lf_1_3 h_x0) (by decide) ?_
  refine rf_nm (fun σ57 => ?_)
  refine rf_ald (i := 1) (Or.inr ⟨1, rfl, rfl, rfl⟩) c_11_60 rfl ?_
  refine rf_getr hS c_11_61 rfl fl_1_24 rfl h_x1 ?_
  refine rf_iconst c_11_64 ki_0 ?_
  refine rf_ald (i := 0) (Or.inr ⟨0, rfl, rfl, rfl⟩) c_11_65 rfl ?_
  refine rf_getr hS c_11_66 rfl fl_1_24 rfl h_x0 ?_
  refine rf_iconst c_11_69 ki_0 ?_
  refine rf_bipush c_11_70 kb_24 ?_
  refine rf_copy hS c_11_72 rfl ml_1_36 (by omega) (Nat.zero_le _) (tf_1_4 h_x1) (tf_1_4 h_x0) (lf_1_4 h_x1) (lf_1_4 h_x0) (by decide) ?_
  refine rf_nm (fun σ72 => ?_)
  refine rf_ald (i := 1) (Or.inr ⟨1, rfl, rfl, rfl⟩) c_11_75 rfl ?_
  refine rf_getr hS c_11_76 rfl fl_1_27 rfl h_x1 ?_
  refine rf_iconst c_11_79 ki_0 ?_
  refine rf_ald (i := 0) (Or.inr ⟨0, rfl, rfl, rfl⟩) c_11_80 rfl ?_
  refine rf_getr hS c_11_81 rfl fl_1_27 rfl h_x0 ?_
  refine rf_iconst c_11_84 ki_0 ?_
  refine rf_bipush c_11_85 kb_24 ?_
  refine rf_copy hS c_11_87 rfl ml_1_36 (by omega) (Nat.zero_le _) (tf_1_5 h_x1) (tf_1_5 h_x0) (lf_1_5 h_x1) (lf_1_5 h_x0) (by decide) ?_
  refine rf_nm (fun σ87 => ?_)
  refine rf_ald (i := 1) (Or.inr ⟨1, rfl, rfl, rfl⟩) c_11_90 rfl ?_
  refine rf_getr hS c_11_91 rfl fl_1_30 rfl h_x1 ?_
  refine rf_iconst c_11_94 ki_0 ?_
  refine rf_ald (i := 0) (Or.inr ⟨0, rfl, rfl, rfl⟩) c_11_95 rfl ?_
  refine rf_getr hS c_11_96 rfl fl_1_30 rfl h_x0 ?_
  refine rf_iconst c_11_99 ki_0 ?_
  refine rf_bipush c_11_100 kb_24 ?_
  refine rf_copy hS c_11_102 rfl ml_1_36 (by omega) (Nat.zero_le _) (tf_1_6 h_x1) (tf_1_6 h_x0) (lf_1_6 h_x1) (lf_1_6 h_x0) (by decide) ?_
  refine rf_nm (fun σ102 => ?_)
  refine rf_ald (i := 1) (Or.inr ⟨1, rfl, rfl, rfl⟩) c_11_105 rfl ?_
  refine rf_getr hS c_11_106 rfl fl_1_33 rfl h_x1 ?_
  refine rf_iconst c_11_109 ki_0 ?_
  refine rf_ald (i := 0) (Or.inr ⟨0, rfl, rfl, rfl⟩) c_11_110 rfl ?_
  refine rf_getr hS c_11_111 rfl fl_1_33 rfl h_x0 ?_
  refine rf_iconst c_11_114 ki_0 ?_
  refine rf_bipush c_11_115 kb_24 ?_
  refine rf_copy hS c_11_117 rfl ml_1_36 (by omega) (Nat.zero_le _) (tf_1_7 h_x1) (tf_1_7 h_x0) (lf_1_7 h_x1) (lf_1_7 h_x0) (by decide) ?_
  refine rf_nm (fun σ117 => ?_)
  refine rf_ald (i := 0) (Or.inr ⟨0, rfl, rfl, rfl⟩) c_11_120 rfl ?_
  refine rf_ald (i := 1) (Or.inr ⟨1, rfl, rfl, rfl⟩) c_11_121 rfl ?_
  refine rf_geti hS c_11_122 rfl fl_1_42 rfl h_x1 ?_
  refine rf_puti hS c_11_125 rfl fl_1_42 rfl rfl rfl rfl h_x0 ?_
  refine rf_nm (fun σ125 => ?_)
  exact rf_vret c_11_128 rfl rfl
theorem c_12_0 : cd 12 0 = some (.aload_n 0, 1) := by decide +kernel
theorem c_12_1 : cd 12 1 = some (.getfield 42, 3) := by decide +kernel
theorem c_12_4 : cd 12 4 = some (.bipush (24), 2) := by decide +kernel
theorem c_12_6 : cd 12 6 = some (.if_icmp .lt (7), 3) := by decide +kernel
theorem c_12_9 : cd 12 9 = some (.iconst (1), 1) := by decide +kernel
theorem c_12_10 : cd 12 10 = some (.goto (4), 3) := by decide +kernel
theorem c_12_13 : cd 12 13 = some (.iconst (0), 1) := by decide +kernel
theorem c_12_14 : cd 12 14 = some (.ireturn, 1) := by decide +kernel
def f_Dk_isFull_14 (σ : Mm) (y0 : Int32) : Option Int32 := if zB y0 = true then some y0 else none
set_option maxRecDepth 100000 in
set_option maxHeartbeats 4000000 in
theorem t_Dk_isFull_14 {X : Xt} {S : Sh} (hS : ShOK S) {d : Nat} (hd : 0 ≤ d) (σ : Mm) (y0 : Int32) (u0 : Value) : Rf X S (emI σ) (f_Dk_isFull_14 σ y0) d 12 14 [u0] [.int y0] σ := by
  unfold f_Dk_isFull_14
  refine rf_ite (fun hq14 => ?_) (fun _ => rf_none)
  exact rf_ret c_12_14 rfl (zB_n hq14) rfl rfl
def f_Dk_isFull (σ : Mm) (x0 : Nat) : Option Int32 := (if (σ x0 8) < (24 : Int32) then (f_Dk_isFull_14 σ (0 : Int32)) else (f_Dk_isFull_14 σ (1 : Int32)))
set_option maxRecDepth 100000 in
set_option maxHeartbeats 4000000 in
theorem t_Dk_isFull {X : Xt} {S : Sh} (hS : ShOK S) {d : Nat} (hd : 0 ≤ d) (σ : Mm) (x0 : Nat) (h_x0 : tgT x0 = 1) : Rf X S (emI σ) (f_Dk_isFull σ x0) d 12 0 [.ref x0] [] σ := by
  unfold f_Dk_isFull
  refine rf_ald (i := 0) (Or.inr ⟨0, rfl, rfl, rfl⟩) c_12_0 rfl ?_
  refine rf_geti hS c_12_1 rfl fl_1_42 rfl h_x0 ?_
  refine rf_bipush c_12_4 kb_24 ?_
  refine rf_ite (fun hc6 => ?_) (fun hc6 => ?_)
  · refine rf_b2t c_12_6 rfl (decide_eq_true hc6) ?_
    refine rf_iconst c_12_13 ki_0 ?_
    exact t_Dk_isFull_14 hS hd σ  (0 : Int32) (.ref x0)
  · refine rf_b2f c_12_6 rfl (decide_eq_false hc6) ?_
    refine rf_iconst c_12_9 ki_1 ?_
    refine rf_goto c_12_10 rfl ?_
    exact t_Dk_isFull_14 hS hd σ  (1 : Int32) (.ref x0)
theorem c_13_0 : cd 13 0 = some (.iload_n 1, 1) := by decide +kernel
theorem c_13_1 : cd 13 1 = some (.ifCond .lt (17), 3) := by decide +kernel
theorem c_13_4 : cd 13 4 = some (.iload_n 1, 1) := by decide +kernel
theorem c_13_5 : cd 13 5 = some (.iconst (1), 1) := by decide +kernel
theorem c_13_6 : cd 13 6 = some (.aload_n 0, 1) := by decide +kernel
theorem c_13_7 : cd 13 7 = some (.getfield 42, 3) := by decide +kernel
theorem c_13_10 : cd 13 10 = some (.ishl, 1) := by decide +kernel
theorem c_13_11 : cd 13 11 = some (.if_icmp .ge (7), 3) := by decide +kernel
theorem c_13_14 : cd 13 14 = some (.iconst (1), 1) := by decide +kernel
theorem c_13_15 : cd 13 15 = some (.goto (4), 3) := by decide +kernel
theorem c_13_18 : cd 13 18 = some (.iconst (0), 1) := by decide +kernel
theorem c_13_19 : cd 13 19 = some (.ireturn, 1) := by decide +kernel
def f_Dk_hasAll_19 (σ : Mm) (y0 : Int32) : Option Int32 := if zB y0 = true then some y0 else none
set_option maxRecDepth 100000 in
set_option maxHeartbeats 4000000 in
theorem t_Dk_hasAll_19 {X : Xt} {S : Sh} (hS : ShOK S) {d : Nat} (hd : 0 ≤ d) (σ : Mm) (y0 : Int32) (u0 : Value) (u1 : Value) : Rf X S (emI σ) (f_Dk_hasAll_19 σ y0) d 13 19 [u0, u1] [.int y0] σ := by
  unfold f_Dk_hasAll_19
  refine rf_ite (fun hq19 => ?_) (fun _ => rf_none)
  exact rf_ret c_13_19 rfl (zB_n hq19) rfl rfl
def f_Dk_hasAll_18 (σ : Mm) : Option Int32 := f_Dk_hasAll_19 σ (0 : Int32)
set_option maxRecDepth 100000 in
set_option maxHeartbeats 4000000 in
theorem t_Dk_hasAll_18 {X : Xt} {S : Sh} (hS : ShOK S) {d : Nat} (hd : 0 ≤ d) (σ : Mm) (u0 : Value) (u1 : Value) : Rf X S (emI σ) (f_Dk_hasAll_18 σ) d 13 18 [u0, u1] [] σ := by
  unfold f_Dk_hasAll_18
  refine rf_iconst c_13_18 ki_0 ?_
  exact t_Dk_hasAll_19 hS hd σ  (0 : Int32) (u0) (u1)
def f_Dk_hasAll (σ : Mm) (x0 : Nat) (x1 : Int32) : Option Int32 := (if x1 < 0 then (f_Dk_hasAll_18 σ ) else (if ((1 : Int32) <<< ((σ x0 8) &&& 31)) ≤ x1 then (f_Dk_hasAll_18 σ ) else (f_Dk_hasAll_19 σ (1 : Int32))))
set_option maxRecDepth 100000 in
set_option maxHeartbeats 4000000 in
theorem t_Dk_hasAll {X : Xt} {S : Sh} (hS : ShOK S) {d : Nat} (hd : 0 ≤ d) (σ : Mm) (x0 : Nat) (x1 : Int32) (h_x0 : tgT x0 = 1) : Rf X S (emI σ) (f_Dk_hasAll σ x0 x1) d 13 0 [.ref x0, .int x1] [] σ := by
  unfold f_Dk_hasAll
  refine rf_ild (i := 1) (Or.inr ⟨1, rfl, rfl, rfl⟩) c_13_0 rfl ?_
  refine rf_ite (fun hc1 => ?_) (fun hc1 => ?_)
  · refine rf_b1t c_13_1 rfl (decide_eq_true hc1) ?_
    exact t_Dk_hasAll_18 hS hd σ  (.ref x0) (.int x1)
  · refine rf_b1f c_13_1 rfl (decide_eq_false hc1) ?_
    refine rf_ild (i := 1) (Or.inr ⟨1, rfl, rfl, rfl⟩) c_13_4 rfl ?_
    refine rf_iconst c_13_5 ki_1 ?_
    refine rf_ald (i := 0) (Or.inr ⟨0, rfl, rfl, rfl⟩) c_13_6 rfl ?_
    refine rf_geti hS c_13_7 rfl fl_1_42 rfl h_x0 ?_
    refine rf_ishl c_13_10 ?_
    refine rf_ite (fun hc11 => ?_) (fun hc11 => ?_)
    · refine rf_b2t c_13_11 rfl (decide_eq_true hc11) ?_
      exact t_Dk_hasAll_18 hS hd σ  (.ref x0) (.int x1)
    · refine rf_b2f c_13_11 rfl (decide_eq_false hc11) ?_
      refine rf_iconst c_13_14 ki_1 ?_
      refine rf_goto c_13_15 rfl ?_
      exact t_Dk_hasAll_19 hS hd σ  (1 : Int32) (.ref x0) (.int x1)
theorem c_14_0 : cd 14 0 = some (.iconst (0), 1) := by decide +kernel
theorem c_14_1 : cd 14 1 = some (.istore_n 2, 1) := by decide +kernel
theorem c_14_2 : cd 14 2 = some (.iload_n 2, 1) := by decide +kernel
theorem c_14_3 : cd 14 3 = some (.aload_n 0, 1) := by decide +kernel
theorem c_14_4 : cd 14 4 = some (.getfield 42, 3) := by decide +kernel
theorem c_14_7 : cd 14 7 = some (.if_icmp .ge (21), 3) := by decide +kernel
theorem c_14_10 : cd 14 10 = some (.aload_n 0, 1) := by decide +kernel
theorem c_14_11 : cd 14 11 = some (.getfield 9, 3) := by decide +kernel
theorem c_14_14 : cd 14 14 = some (.iload_n 2, 1) := by decide +kernel
theorem c_14_15 : cd 14 15 = some (.iaload, 1) := by decide +kernel
theorem c_14_16 : cd 14 16 = some (.iload_n 1, 1) := by decide +kernel
theorem c_14_17 : cd 14 17 = some (.if_icmp .ne (5), 3) := by decide +kernel
theorem c_14_20 : cd 14 20 = some (.iconst (1), 1) := by decide +kernel
theorem c_14_21 : cd 14 21 = some (.ireturn, 1) := by decide +kernel
theorem c_14_22 : cd 14 22 = some (.iinc 2 (1), 3) := by decide +kernel
theorem c_14_25 : cd 14 25 = some (.goto (-23), 3) := by decide +kernel
theorem c_14_28 : cd 14 28 = some (.iconst (0), 1) := by decide +kernel
theorem c_14_29 : cd 14 29 = some (.ireturn, 1) := by decide +kernel
def f_Dk_hasOneBy_2 (σ : Mm) : Nat → Nat → Int32 → Int32 → Option Int32
  | 0, _, _, _ => none
  | n + 1, x0, x1, x2 => (if (σ x0 8) ≤ x2 then (some (0 : Int32)) else (if inbB x2 24 = true then (if ¬ (σ (rfT x0 0) (ix x2)) = x1 then (f_Dk_hasOneBy_2 σ n x0 x1 (x2 + (1 : Int32))) else (some (1 : Int32))) else none))
set_option maxRecDepth 100000 in
set_option maxHeartbeats 4000000 in
theorem t_Dk_hasOneBy_2 {X : Xt} {S : Sh} (hS : ShOK S) {d : Nat} (hd : 0 ≤ d) (σ : Mm) : ∀ (n : Nat) (x0 : Nat) (x1 : Int32) (x2 : Int32) (h_x0 : tgT x0 = 1), Rf X S (emI σ) (f_Dk_hasOneBy_2 σ n x0 x1 x2) d 14 2 [.ref x0, .int x1, .int x2] [] σ := by
  intro n
  induction n with
  | zero => intro x0 x1 x2 h_x0; exact rf_none
  | succ n ih =>
    intro x0 x1 x2 h_x0
    rw [f_Dk_hasOneBy_2]
    refine rf_ild (i := 2) (Or.inr ⟨2, rfl, rfl, rfl⟩) c_14_2 rfl ?_
    refine rf_ald (i := 0) (Or.inr ⟨0, rfl, rfl, rfl⟩) c_14_3 rfl ?_
    refine rf_geti hS c_14_4 rfl fl_1_42 rfl h_x0 ?_
    refine rf_ite (fun hc7 => ?_) (fun hc7 => ?_)
    · refine rf_b2t c_14_7 rfl (decide_eq_true hc7) ?_
      refine rf_iconst c_14_28 ki_0 ?_
      exact rf_ret c_14_29 rfl (by decide) rfl rfl
    · refine rf_b2f c_14_7 rfl (decide_eq_false hc7) ?_
      refine rf_ald (i := 0) (Or.inr ⟨0, rfl, rfl, rfl⟩) c_14_10 rfl ?_
      refine rf_getr hS c_14_11 rfl fl_1_9 rfl h_x0 ?_
      refine rf_ild (i := 2) (Or.inr ⟨2, rfl, rfl, rfl⟩) c_14_14 rfl ?_
      refine rf_ite (fun hb15 => ?_) (fun _ => rf_none)
      refine rf_iald hS c_14_15 (tf_1_0 h_x0) (lf_1_0 h_x0) hb15 ?_
      refine rf_ild (i := 1) (Or.inr ⟨1, rfl, rfl, rfl⟩) c_14_16 rfl ?_
      refine rf_ite (fun hc17 => ?_) (fun hc17 => ?_)
      · refine rf_b2t c_14_17 rfl (decide_eq_true hc17) ?_
        refine rf_iinc c_14_22 rfl ki_1 rfl ?_
        refine rf_goto c_14_25 rfl ?_
        exact ih x0 x1 (x2 + (1 : Int32)) h_x0
      · refine rf_b2f c_14_17 rfl (decide_eq_false hc17) ?_
        refine rf_iconst c_14_20 ki_1 ?_
        exact rf_ret c_14_21 rfl (by decide) rfl rfl
def f_Dk_hasOneBy (σ : Mm) (x0 : Nat) (x1 : Int32) : Option Int32 := f_Dk_hasOneBy_2 σ NN x0 x1 (0 : Int32)
set_option maxRecDepth 100000 in
set_option maxHeartbeats 4000000 in
theorem t_Dk_hasOneBy {X : Xt} {S : Sh} (hS : ShOK S) {d : Nat} (hd : 0 ≤ d) (σ : Mm) (x0 : Nat) (x1 : Int32) (h_x0 : tgT x0 = 1) : Rf X S (emI σ) (f_Dk_hasOneBy σ x0 x1) d 14 0 [.ref x0, .int x1, unset0] [] σ := by
  unfold f_Dk_hasOneBy
  refine rf_iconst c_14_0 ki_0 ?_
  refine rf_ist (i := 2) (Or.inr ⟨2, rfl, rfl, rfl⟩) c_14_1 (Nat.le_of_ble_eq_true rfl) rfl ?_
  exact t_Dk_hasOneBy_2 hS hd σ  NN x0 x1 (0 : Int32) h_x0
theorem c_15_0 : cd 15 0 = some (.aload_n 0, 1) := by decide +kernel
theorem c_15_1 : cd 15 1 = some (.invokevirtual 46, 3) := by decide +kernel
theorem c_15_4 : cd 15 4 = some (.ifCond .eq (6), 3) := by decide +kernel
theorem c_15_7 : cd 15 7 = some (.ldc 50, 2) := by decide +kernel
theorem c_15_9 : cd 15 9 = some (.ireturn, 1) := by decide +kernel
theorem c_15_10 : cd 15 10 = some (.aload_n 0, 1) := by decide +kernel
theorem c_15_11 : cd 15 11 = some (.getfield 9, 3) := by decide +kernel
theorem c_15_14 : cd 15 14 = some (.aload_n 0, 1) := by decide +kernel
theorem c_15_15 : cd 15 15 = some (.getfield 42, 3) := by decide +kernel
theorem c_15_18 : cd 15 18 = some (.iload_n 1, 1) := by decide +kernel
theorem c_15_19 : cd 15 19 = some (.iastore, 1) := by decide +kernel
theorem c_15_20 : cd 15 20 = some (.aload_n 0, 1) := by decide +kernel
theorem c_15_21 : cd 15 21 = some (.getfield 15, 3) := by decide +kernel
theorem c_15_24 : cd 15 24 = some (.aload_n 0, 1) := by decide +kernel
theorem c_15_25 : cd 15 25 = some (.getfield 42, 3) := by decide +kernel
theorem c_15_28 : cd 15 28 = some (.iload_n 2, 1) := by decide +kernel
theorem c_15_29 : cd 15 29 = some (.iastore, 1) := by decide +kernel
theorem c_15_30 : cd 15 30 = some (.aload_n 0, 1) := by decide +kernel
theorem c_15_31 : cd 15 31 = some (.getfield 18, 3) := by decide +kernel
theorem c_15_34 : cd 15 34 = some (.aload_n 0, 1) := by decide +kernel
theorem c_15_35 : cd 15 35 = some (.getfield 42, 3) := by decide +kernel
theorem c_15_38 : cd 15 38 = some (.iload_n 3, 1) := by decide +kernel
theorem c_15_39 : cd 15 39 = some (.iastore, 1) := by decide +kernel
theorem c_15_40 : cd 15 40 = some (.aload_n 0, 1) := by decide +kernel
theorem c_15_41 : cd 15 41 = some (.getfield 21, 3) := by decide +kernel
theorem c_15_44 : cd 15 44 = some (.aload_n 0, 1) := by decide +kernel
theorem c_15_45 : cd 15 45 = some (.getfield 42, 3) := by decide +kernel
theorem c_15_48 : cd 15 48 = some (.iload 4, 2) := by decide +kernel
theorem c_15_50 : cd 15 50 = some (.iastore, 1) := by decide +kernel
theorem c_15_51 : cd 15 51 = some (.aload_n 0, 1) := by decide +kernel
theorem c_15_52 : cd 15 52 = some (.getfield 30, 3) := by decide +kernel
theorem c_15_55 : cd 15 55 = some (.aload_n 0, 1) := by decide +kernel
theorem c_15_56 : cd 15 56 = some (.getfield 42, 3) := by decide +kernel
theorem c_15_59 : cd 15 59 = some (.ldc 51, 2) := by decide +kernel
theorem c_15_61 : cd 15 61 = some (.iastore, 1) := by decide +kernel
theorem c_15_62 : cd 15 62 = some (.aload_n 0, 1) := by decide +kernel
theorem c_15_63 : cd 15 63 = some (.dup, 1) := by decide +kernel
theorem c_15_64 : cd 15 64 = some (.getfield 42, 3) := by decide +kernel
theorem c_15_67 : cd 15 67 = some (.iconst (1), 1) := by decide +kernel
theorem c_15_68 : cd 15 68 = some (.iadd, 1) := by decide +kernel
theorem c_15_69 : cd 15 69 = some (.putfield 42, 3) := by decide +kernel
theorem c_15_72 : cd 15 72 = some (.aload_n 0, 1) := by decide +kernel
theorem c_15_73 : cd 15 73 = some (.getfield 42, 3) := by decide +kernel
theorem c_15_76 : cd 15 76 = some (.iconst (1), 1) := by decide +kernel
theorem c_15_77 : cd 15 77 = some (.isub, 1) := by decide +kernel
theorem c_15_78 : cd 15 78 = some (.ireturn, 1) := by decide +kernel
def f_Dk_begin (x0 : Nat) (x1 : Int32) (x2 : Int32) (x3 : Int32) (x4 : Int32) (σ : Mm) : Option (Int32 × Mm) := (f_Dk_isFull σ x0).bind fun v1 => (if v1 = 0 then (if inbB (σ x0 8) 24 = true then nmM (up2 σ (rfT x0 0) (ix (σ x0 8)) x1) fun σ19 => if inbB (σ19 x0 8) 24 = true then nmM (up2 σ19 (rfT x0 1) (ix (σ19 x0 8)) x2) fun σ29 => if inbB (σ29 x0 8) 24 = true then nmM (up2 σ29 (rfT x0 2) (ix (σ29 x0 8)) x3) fun σ39 => if inbB (σ39 x0 8) 24 = true then nmM (up2 σ39 (rfT x0 3) (ix (σ39 x0 8)) x4) fun σ50 => if inbB (σ50 x0 8) 24 = true then nmM (up2 σ50 (rfT x0 6) (ix (σ50 x0 8)) (-1000000005 : Int32)) fun σ61 => nmM (up2 σ61 x0 8 ((σ61 x0 8) + (1 : Int32))) fun σ69 => some (((σ69 x0 8) - (1 : Int32)), σ69) else none else none else none else none else none) else (some ((-1000000003 : Int32), σ)))
set_option maxRecDepth 100000 in
set_option maxHeartbeats 4000000 in
theorem t_Dk_begin_e {X : Xt} {S : Sh} (hS : ShOK S) {d : Nat} (hd : 1 ≤ d + 1) (x0 : Nat) (x1 : Int32) (x2 : Int32) (x3 : Int32) (x4 : Int32) (σ : Mm) (h_x0 : tgT x0 = 1) : Rf X S emM (f_Dk_begin x0 x1 x2 x3 x4 σ) (d + 1) 15 0 [.ref x0, .int x1, .int x2, .int x3, .int x4] [] σ := by
  unfold f_Dk_begin
  refine rf_ald (i := 0) (Or.inr ⟨0, rfl, rfl, rfl⟩) c_15_0 rfl ?_
  refine rf_callI (as := [.ref x0]) (kd := 1) c_15_1 rfl (by decide) rfl ml_1_46 (by decide) rfl (rcv_1 hS rfl rfl h_x0 (by decide)) (Nat.zero_le _) rfl rfl (t_Dk_isFull hS (by omega) σ x0 h_x0) (fun v1 => ?_)
  refine rf_ite (fun hc4 => ?_) (fun hc4 => ?_)
  · refine rf_b1t c_15_4 rfl (decide_eq_true hc4) ?_
    refine rf_ald (i := 0) (Or.inr ⟨0, rfl, rfl, rfl⟩) c_15_10 rfl ?_
    refine rf_getr hS c_15_11 rfl fl_1_9 rfl h_x0 ?_
    refine rf_ald (i := 0) (Or.inr ⟨0, rfl, rfl, rfl⟩) c_15_14 rfl ?_
    refine rf_geti hS c_15_15 rfl fl_1_42 rfl h_x0 ?_
    refine rf_ild (i := 1) (Or.inr ⟨1, rfl, rfl, rfl⟩) c_15_18 rfl ?_
    refine rf_ite (fun hb19 => ?_) (fun _ => rf_none)
    refine rf_iast hS c_15_19 (tf_1_0 h_x0) (lf_1_0 h_x0) hb19 ?_
    refine rf_nm (fun σ19 => ?_)
    refine rf_ald (i := 0) (Or.inr ⟨0, rfl, rfl, rfl⟩) c_15_20 rfl ?_
    refine rf_getr hS c_15_21 rfl fl_1_15 rfl h_x0 ?_
    refine rf_ald (i := 0) (Or.inr ⟨0, rfl, rfl, rfl⟩) c_15_24 rfl ?_
    refine rf_geti hS c_15_25 rfl fl_1_42 rfl h_x0 ?_
    refine rf_ild (i := 2) (Or.inr ⟨2, rfl, rfl, rfl⟩) c_15_28 rfl ?_
    refine rf_ite (fun hb29 => ?_) (fun _ => rf_none)
    refine rf_iast hS c_15_29 (tf_1_1 h_x0) (lf_1_1 h_x0) hb29 ?_
    refine rf_nm (fun σ29 => ?_)
    refine rf_ald (i := 0) (Or.inr ⟨0, rfl, rfl, rfl⟩) c_15_30 rfl ?_
    refine rf_getr hS c_15_31 rfl fl_1_18 rfl h_x0 ?_
    refine rf_ald (i := 0) (Or.inr ⟨0, rfl, rfl, rfl⟩) c_15_34 rfl ?_
    refine rf_geti hS c_15_35 rfl fl_1_42 rfl h_x0 ?_
    refine rf_ild (i := 3) (Or.inr ⟨3, rfl, rfl, rfl⟩) c_15_38 rfl ?_
    refine rf_ite (fun hb39 => ?_) (fun _ => rf_none)
    refine rf_iast hS c_15_39 (tf_1_2 h_x0) (lf_1_2 h_x0) hb39 ?_
    refine rf_nm (fun σ39 => ?_)
    refine rf_ald (i := 0) (Or.inr ⟨0, rfl, rfl, rfl⟩) c_15_40 rfl ?_
    refine rf_getr hS c_15_41 rfl fl_1_21 rfl h_x0 ?_
    refine rf_ald (i := 0) (Or.inr ⟨0, rfl, rfl, rfl⟩) c_15_44 rfl ?_
    refine rf_geti hS c_15_45 rfl fl_1_42 rfl h_x0 ?_
    refine rf_ild (i := 4) (Or.inl ⟨rfl, rfl⟩) c_15_48 rfl ?_
    refine rf_ite (fun hb50 => ?_) (fun _ => rf_none)
    refine rf_iast hS c_15_50 (tf_1_3 h_x0) (lf_1_3 h_x0) hb50 ?_
    refine rf_nm (fun σ50 => ?_)
    refine rf_ald (i := 0) (Or.inr ⟨0, rfl, rfl, rfl⟩) c_15_51 rfl ?_
    refine rf_getr hS c_15_52 rfl fl_1_30 rfl h_x0 ?_
    refine rf_ald (i := 0) (Or.inr ⟨0, rfl, rfl, rfl⟩) c_15_55 rfl ?_
    refine rf_geti hS c_15_56 rfl fl_1_42 rfl h_x0 ?_
    refine rf_ldc (Or.inl ⟨rfl, rfl⟩) c_15_59 rfl kl_1_51 ?_
    refine rf_ite (fun hb61 => ?_) (fun _ => rf_none)
    refine rf_iast hS c_15_61 (tf_1_6 h_x0) (lf_1_6 h_x0) hb61 ?_
    refine rf_nm (fun σ61 => ?_)
    refine rf_ald (i := 0) (Or.inr ⟨0, rfl, rfl, rfl⟩) c_15_62 rfl ?_
    refine rf_dup c_15_63 rfl ?_
    refine rf_geti hS c_15_64 rfl fl_1_42 rfl h_x0 ?_
    refine rf_iconst c_15_67 ki_1 ?_
    refine rf_iadd c_15_68 ?_
    refine rf_puti hS c_15_69 rfl fl_1_42 rfl rfl rfl rfl h_x0 ?_
    refine rf_nm (fun σ69 => ?_)
    refine rf_ald (i := 0) (Or.inr ⟨0, rfl, rfl, rfl⟩) c_15_72 rfl ?_
    refine rf_geti hS c_15_73 rfl fl_1_42 rfl h_x0 ?_
    refine rf_iconst c_15_76 ki_1 ?_
    refine rf_isub c_15_77 ?_
    exact rf_ret c_15_78 rfl rfl rfl rfl
  · refine rf_b1f c_15_4 rfl (decide_eq_false hc4) ?_
    refine rf_ldc (Or.inl ⟨rfl, rfl⟩) c_15_7 rfl kl_1_50 ?_
    exact rf_ret c_15_9 rfl rfl rfl rfl
theorem t_Dk_begin {X : Xt} {S : Sh} (hS : ShOK S) {d : Nat} (hd : 1 ≤ d) (x0 : Nat) (x1 : Int32) (x2 : Int32) (x3 : Int32) (x4 : Int32) (σ : Mm) (h_x0 : tgT x0 = 1) : Rf X S emM (f_Dk_begin x0 x1 x2 x3 x4 σ) d 15 0 [.ref x0, .int x1, .int x2, .int x3, .int x4] [] σ := by
  obtain ⟨d1, rfl⟩ : ∃ d1, d = d1 + 1 := ⟨d - 1, by omega⟩
  exact t_Dk_begin_e hS hd x0 x1 x2 x3 x4 σ h_x0
theorem c_175_0 : cd 175 0 = some (.iload_n 0, 1) := by decide +kernel
theorem c_175_1 : cd 175 1 = some (.iload_n 1, 1) := by decide +kernel
theorem c_175_2 : cd 175 2 = some (.if_icmp .lt (12), 3) := by decide +kernel
theorem c_175_5 : cd 175 5 = some (.iload_n 0, 1) := by decide +kernel
theorem c_175_6 : cd 175 6 = some (.iload_n 2, 1) := by decide +kernel
theorem c_175_7 : cd 175 7 = some (.if_icmp .gt (7), 3) := by decide +kernel
theorem c_175_10 : cd 175 10 = some (.iconst (1), 1) := by decide +kernel
theorem c_175_11 : cd 175 11 = some (.goto (4), 3) := by decide +kernel
theorem c_175_14 : cd 175 14 = some (.iconst (0), 1) := by decide +kernel
theorem c_175_15 : cd 175 15 = some (.ireturn, 1) := by decide +kernel
def f_Ct_isWithin_15 (σ : Mm) (y0 : Int32) : Option Int32 := if zB y0 = true then some y0 else none
set_option maxRecDepth 100000 in
set_option maxHeartbeats 4000000 in
theorem t_Ct_isWithin_15 {X : Xt} {S : Sh} (hS : ShOK S) {d : Nat} (hd : 0 ≤ d) (σ : Mm) (y0 : Int32) (u0 : Value) (u1 : Value) (u2 : Value) : Rf X S (emI σ) (f_Ct_isWithin_15 σ y0) d 175 15 [u0, u1, u2] [.int y0] σ := by
  unfold f_Ct_isWithin_15
  refine rf_ite (fun hq15 => ?_) (fun _ => rf_none)
  exact rf_ret c_175_15 rfl (zB_n hq15) rfl rfl
def f_Ct_isWithin_14 (σ : Mm) : Option Int32 := f_Ct_isWithin_15 σ (0 : Int32)
set_option maxRecDepth 100000 in
set_option maxHeartbeats 4000000 in
theorem t_Ct_isWithin_14 {X : Xt} {S : Sh} (hS : ShOK S) {d : Nat} (hd : 0 ≤ d) (σ : Mm) (u0 : Value) (u1 : Value) (u2 : Value) : Rf X S (emI σ) (f_Ct_isWithin_14 σ) d 175 14 [u0, u1, u2] [] σ := by
  unfold f_Ct_isWithin_14
  refine rf_iconst c_175_14 ki_0 ?_
  exact t_Ct_isWithin_15 hS hd σ  (0 : Int32) (u0) (u1) (u2)
def f_Ct_isWithin (σ : Mm) (x0 : Int32) (x1 : Int32) (x2 : Int32) : Option Int32 := (if x0 < x1 then (f_Ct_isWithin_14 σ ) else (if x2 < x0 then (f_Ct_isWithin_14 σ ) else (f_Ct_isWithin_15 σ (1 : Int32))))
set_option maxRecDepth 100000 in
set_option maxHeartbeats 4000000 in
theorem t_Ct_isWithin {X : Xt} {S : Sh} (hS : ShOK S) {d : Nat} (hd : 0 ≤ d) (σ : Mm) (x0 : Int32) (x1 : Int32) (x2 : Int32) : Rf X S (emI σ) (f_Ct_isWithin σ x0 x1 x2) d 175 0 [.int x0, .int x1, .int x2] [] σ := by
  unfold f_Ct_isWithin
  refine rf_ild (i := 0) (Or.inr ⟨0, rfl, rfl, rfl⟩) c_175_0 rfl ?_
  refine rf_ild (i := 1) (Or.inr ⟨1, rfl, rfl, rfl⟩) c_175_1 rfl ?_
  refine rf_ite (fun hc2 => ?_) (fun hc2 => ?_)
  · refine rf_b2t c_175_2 rfl (decide_eq_true hc2) ?_
    exact t_Ct_isWithin_14 hS hd σ  (.int x0) (.int x1) (.int x2)
  · refine rf_b2f c_175_2 rfl (decide_eq_false hc2) ?_
    refine rf_ild (i := 0) (Or.inr ⟨0, rfl, rfl, rfl⟩) c_175_5 rfl ?_
    refine rf_ild (i := 2) (Or.inr ⟨2, rfl, rfl, rfl⟩) c_175_6 rfl ?_
    refine rf_ite (fun hc7 => ?_) (fun hc7 => ?_)
    · refine rf_b2t c_175_7 rfl (decide_eq_true hc7) ?_
      exact t_Ct_isWithin_14 hS hd σ  (.int x0) (.int x1) (.int x2)
    · refine rf_b2f c_175_7 rfl (decide_eq_false hc7) ?_
      refine rf_iconst c_175_10 ki_1 ?_
      refine rf_goto c_175_11 rfl ?_
      exact t_Ct_isWithin_15 hS hd σ  (1 : Int32) (.int x0) (.int x1) (.int x2)
theorem c_16_0 : cd 16 0 = some (.iload_n 1, 1) := by decide +kernel
theorem c_16_1 : cd 16 1 = some (.iconst (0), 1) := by decide +kernel
theorem c_16_2 : cd 16 2 = some (.aload_n 0, 1) := by decide +kernel
theorem c_16_3 : cd 16 3 = some (.getfield 42, 3) := by decide +kernel
theorem c_16_6 : cd 16 6 = some (.iconst (1), 1) := by decide +kernel
theorem c_16_7 : cd 16 7 = some (.isub, 1) := by decide +kernel
theorem c_16_8 : cd 16 8 = some (.invokestatic 52, 3) := by decide +kernel
theorem c_16_11 : cd 16 11 = some (.ifCond .eq (25), 3) := by decide +kernel
theorem c_16_14 : cd 16 14 = some (.aload_n 0, 1) := by decide +kernel
theorem c_16_15 : cd 16 15 = some (.getfield 24, 3) := by decide +kernel
theorem c_16_18 : cd 16 18 = some (.iload_n 1, 1) := by decide +kernel
theorem c_16_19 : cd 16 19 = some (.iload_n 2, 1) := by decide +kernel
theorem c_16_20 : cd 16 20 = some (.iastore, 1) := by decide +kernel
theorem c_16_21 : cd 16 21 = some (.aload_n 0, 1) := by decide +kernel
theorem c_16_22 : cd 16 22 = some (.getfield 27, 3) := by decide +kernel
theorem c_16_25 : cd 16 25 = some (.iload_n 1, 1) := by decide +kernel
theorem c_16_26 : cd 16 26 = some (.iload_n 3, 1) := by decide +kernel
theorem c_16_27 : cd 16 27 = some (.iastore, 1) := by decide +kernel
theorem c_16_28 : cd 16 28 = some (.aload_n 0, 1) := by decide +kernel
theorem c_16_29 : cd 16 29 = some (.getfield 33, 3) := by decide +kernel
theorem c_16_32 : cd 16 32 = some (.iload_n 1, 1) := by decide +kernel
theorem c_16_33 : cd 16 33 = some (.iload 4, 2) := by decide +kernel
theorem c_16_35 : cd 16 35 = some (.iastore, 1) := by decide +kernel
theorem c_16_36 : cd 16 36 = some (.return_, 1) := by decide +kernel
def f_Dk_tie_36 (σ : Mm) : Option Mm := some σ
set_option maxRecDepth 100000 in
set_option maxHeartbeats 4000000 in
theorem t_Dk_tie_36 {X : Xt} {S : Sh} (hS : ShOK S) {d : Nat} (hd : 1 ≤ d + 1) (u0 : Value) (u1 : Value) (u2 : Value) (u3 : Value) (u4 : Value) (σ : Mm) : Rf X S emV (f_Dk_tie_36 σ) (d + 1) 16 36 [u0, u1, u2, u3, u4] [] σ := by
  unfold f_Dk_tie_36
  exact rf_vret c_16_36 rfl rfl
def f_Dk_tie (x0 : Nat) (x1 : Int32) (x2 : Int32) (x3 : Int32) (x4 : Int32) (σ : Mm) : Option Mm := (f_Ct_isWithin σ x1 (0 : Int32) ((σ x0 8) - (1 : Int32))).bind fun v8 => (if v8 = 0 then (f_Dk_tie_36  σ) else (if inbB x1 24 = true then nmM (up2 σ (rfT x0 4) (ix x1) x2) fun σ20 => if inbB x1 24 = true then nmM (up2 σ20 (rfT x0 5) (ix x1) x3) fun σ27 => if inbB x1 24 = true then nmM (up2 σ27 (rfT x0 7) (ix x1) x4) fun σ35 => f_Dk_tie_36  σ35 else none else none else none))
set_option maxRecDepth 100000 in
set_option maxHeartbeats 4000000 in
theorem t_Dk_tie_e {X : Xt} {S : Sh} (hS : ShOK S) {d : Nat} (hd : 1 ≤ d + 1) (x0 : Nat) (x1 : Int32) (x2 : Int32) (x3 : Int32) (x4 : Int32) (σ : Mm) (h_x0 : tgT x0 = 1) : Rf X S emV (f_Dk_tie x0 x1 x2 x3 x4 σ) (d + 1) 16 0 [.ref x0, .int x1, .int x2, .int x3, .int x4] [] σ := by
  unfold f_Dk_tie
  refine rf_ild (i := 1) (Or.inr ⟨1, rfl, rfl, rfl⟩) c_16_0 rfl ?_
  refine rf_iconst c_16_1 ki_0 ?_
  refine rf_ald (i := 0) (Or.inr ⟨0, rfl, rfl, rfl⟩) c_16_2 rfl ?_
  refine rf_geti hS c_16_3 rfl fl_1_42 rfl h_x0 ?_
  refine rf_iconst c_16_6 ki_1 ?_
  refine rf_isub c_16_7 ?_
  refine rf_callI (as := [.int x1, .int (0 : Int32), .int ((σ x0 8) - (1 : Int32))]) (kd := 0) c_16_8 rfl (by decide) rfl ml_1_52 (by decide) rfl (rcv_0 rfl) (Nat.zero_le _) rfl rfl (t_Ct_isWithin hS (by omega) σ x1 (0 : Int32) ((σ x0 8) - (1 : Int32))) (fun v8 => ?_)
  refine rf_ite (fun hc11 => ?_) (fun hc11 => ?_)
  · refine rf_b1t c_16_11 rfl (decide_eq_true hc11) ?_
    exact t_Dk_tie_36 hS hd  (.ref x0) (.int x1) (.int x2) (.int x3) (.int x4) σ
  · refine rf_b1f c_16_11 rfl (decide_eq_false hc11) ?_
    refine rf_ald (i := 0) (Or.inr ⟨0, rfl, rfl, rfl⟩) c_16_14 rfl ?_
    refine rf_getr hS c_16_15 rfl fl_1_24 rfl h_x0 ?_
    refine rf_ild (i := 1) (Or.inr ⟨1, rfl, rfl, rfl⟩) c_16_18 rfl ?_
    refine rf_ild (i := 2) (Or.inr ⟨2, rfl, rfl, rfl⟩) c_16_19 rfl ?_
    refine rf_ite (fun hb20 => ?_) (fun _ => rf_none)
    refine rf_iast hS c_16_20 (tf_1_4 h_x0) (lf_1_4 h_x0) hb20 ?_
    refine rf_nm (fun σ20 => ?_)
    refine rf_ald (i := 0) (Or.inr ⟨0, rfl, rfl, rfl⟩) c_16_21 rfl ?_
    refine rf_getr hS c_16_22 rfl fl_1_27 rfl h_x0 ?_
    refine rf_ild (i := 1) (Or.inr ⟨1, rfl, rfl, rfl⟩) c_16_25 rfl ?_
    refine rf_ild (i := 3) (Or.inr ⟨3, rfl, rfl, rfl⟩) c_16_26 rfl ?_
    refine rf_ite (fun hb27 => ?_) (fun _ => rf_none)
    refine rf_iast hS c_16_27 (tf_1_5 h_x0) (lf_1_5 h_x0) hb27 ?_
    refine rf_nm (fun σ27 => ?_)
    refine rf_ald (i := 0) (Or.inr ⟨0, rfl, rfl, rfl⟩) c_16_28 rfl ?_
    refine rf_getr hS c_16_29 rfl fl_1_33 rfl h_x0 ?_
    refine rf_ild (i := 1) (Or.inr ⟨1, rfl, rfl, rfl⟩) c_16_32 rfl ?_
    refine rf_ild (i := 4) (Or.inl ⟨rfl, rfl⟩) c_16_33 rfl ?_
    refine rf_ite (fun hb35 => ?_) (fun _ => rf_none)
    refine rf_iast hS c_16_35 (tf_1_7 h_x0) (lf_1_7 h_x0) hb35 ?_
    refine rf_nm (fun σ35 => ?_)
    exact t_Dk_tie_36 hS hd  (.ref x0) (.int x1) (.int x2) (.int x3) (.int x4) σ35
theorem t_Dk_tie {X : Xt} {S : Sh} (hS : ShOK S) {d : Nat} (hd : 1 ≤ d) (x0 : Nat) (x1 : Int32) (x2 : Int32) (x3 : Int32) (x4 : Int32) (σ : Mm) (h_x0 : tgT x0 = 1) : Rf X S emV (f_Dk_tie x0 x1 x2 x3 x4 σ) d 16 0 [.ref x0, .int x1, .int x2, .int x3, .int x4] [] σ := by
  obtain ⟨d1, rfl⟩ : ∃ d1, d = d1 + 1 := ⟨d - 1, by omega⟩
  exact t_Dk_tie_e hS hd x0 x1 x2 x3 x4 σ h_x0
theorem c_17_0 : cd 17 0 = some (.iload_n 2, 1) := by decide +kernel
theorem c_17_1 : cd 17 1 = some (.tableswitch (92) (0) (6) #[43, 50, 57, 64, 71, 78, 85], 43) := by decide +kernel
theorem c_17_44 : cd 17 44 = some (.aload_n 0, 1) := by decide +kernel
theorem c_17_45 : cd 17 45 = some (.getfield 9, 3) := by decide +kernel
theorem c_17_48 : cd 17 48 = some (.iload_n 1, 1) := by decide +kernel
theorem c_17_49 : cd 17 49 = some (.iaload, 1) := by decide +kernel
theorem c_17_50 : cd 17 50 = some (.ireturn, 1) := by decide +kernel
theorem c_17_51 : cd 17 51 = some (.aload_n 0, 1) := by decide +kernel
theorem c_17_52 : cd 17 52 = some (.getfield 15, 3) := by decide +kernel
theorem c_17_55 : cd 17 55 = some (.iload_n 1, 1) := by decide +kernel
theorem c_17_56 : cd 17 56 = some (.iaload, 1) := by decide +kernel
theorem c_17_57 : cd 17 57 = some (.ireturn, 1) := by decide +kernel
theorem c_17_58 : cd 17 58 = some (.aload_n 0, 1) := by decide +kernel
theorem c_17_59 : cd 17 59 = some (.getfield 18, 3) := by decide +kernel
theorem c_17_62 : cd 17 62 = some (.iload_n 1, 1) := by decide +kernel
theorem c_17_63 : cd 17 63 = some (.iaload, 1) := by decide +kernel
theorem c_17_64 : cd 17 64 = some (.ireturn, 1) := by decide +kernel
theorem c_17_65 : cd 17 65 = some (.aload_n 0, 1) := by decide +kernel
theorem c_17_66 : cd 17 66 = some (.getfield 21, 3) := by decide +kernel
theorem c_17_69 : cd 17 69 = some (.iload_n 1, 1) := by decide +kernel
theorem c_17_70 : cd 17 70 = some (.iaload, 1) := by decide +kernel
theorem c_17_71 : cd 17 71 = some (.ireturn, 1) := by decide +kernel
theorem c_17_72 : cd 17 72 = some (.aload_n 0, 1) := by decide +kernel
theorem c_17_73 : cd 17 73 = some (.getfield 24, 3) := by decide +kernel
theorem c_17_76 : cd 17 76 = some (.iload_n 1, 1) := by decide +kernel
theorem c_17_77 : cd 17 77 = some (.iaload, 1) := by decide +kernel
theorem c_17_78 : cd 17 78 = some (.ireturn, 1) := by decide +kernel
theorem c_17_79 : cd 17 79 = some (.aload_n 0, 1) := by decide +kernel
theorem c_17_80 : cd 17 80 = some (.getfield 27, 3) := by decide +kernel
theorem c_17_83 : cd 17 83 = some (.iload_n 1, 1) := by decide +kernel
theorem c_17_84 : cd 17 84 = some (.iaload, 1) := by decide +kernel
theorem c_17_85 : cd 17 85 = some (.ireturn, 1) := by decide +kernel
theorem c_17_86 : cd 17 86 = some (.aload_n 0, 1) := by decide +kernel
theorem c_17_87 : cd 17 87 = some (.getfield 30, 3) := by decide +kernel
theorem c_17_90 : cd 17 90 = some (.iload_n 1, 1) := by decide +kernel
theorem c_17_91 : cd 17 91 = some (.iaload, 1) := by decide +kernel
theorem c_17_92 : cd 17 92 = some (.ireturn, 1) := by decide +kernel
theorem c_17_93 : cd 17 93 = some (.aload_n 0, 1) := by decide +kernel
theorem c_17_94 : cd 17 94 = some (.getfield 33, 3) := by decide +kernel
theorem c_17_97 : cd 17 97 = some (.iload_n 1, 1) := by decide +kernel
theorem c_17_98 : cd 17 98 = some (.iaload, 1) := by decide +kernel
theorem c_17_99 : cd 17 99 = some (.ireturn, 1) := by decide +kernel
def f_Dk_part (σ : Mm) (x0 : Nat) (x1 : Int32) (x2 : Int32) : Option Int32 := (if x2 = (0 : Int32) then (if inbB x1 24 = true then some (σ (rfT x0 0) (ix x1)) else none) else (if x2 = (1 : Int32) then (if inbB x1 24 = true then some (σ (rfT x0 1) (ix x1)) else none) else (if x2 = (2 : Int32) then (if inbB x1 24 = true then some (σ (rfT x0 2) (ix x1)) else none) else (if x2 = (3 : Int32) then (if inbB x1 24 = true then some (σ (rfT x0 3) (ix x1)) else none) else (if x2 = (4 : Int32) then (if inbB x1 24 = true then some (σ (rfT x0 4) (ix x1)) else none) else (if x2 = (5 : Int32) then (if inbB x1 24 = true then some (σ (rfT x0 5) (ix x1)) else none) else (if x2 = (6 : Int32) then (if inbB x1 24 = true then some (σ (rfT x0 6) (ix x1)) else none) else (if inbB x1 24 = true then some (σ (rfT x0 7) (ix x1)) else none))))))))
set_option maxRecDepth 100000 in
set_option maxHeartbeats 4000000 in
theorem t_Dk_part {X : Xt} {S : Sh} (hS : ShOK S) {d : Nat} (hd : 0 ≤ d) (σ : Mm) (x0 : Nat) (x1 : Int32) (x2 : Int32) (h_x0 : tgT x0 = 1) : Rf X S (emI σ) (f_Dk_part σ x0 x1 x2) d 17 0 [.ref x0, .int x1, .int x2] [] σ := by
  unfold f_Dk_part
  refine rf_ild (i := 2) (Or.inr ⟨2, rfl, rfl, rfl⟩) c_17_0 rfl ?_
  refine rf_ite (fun hs1_0 => ?_) (fun hs1_0 => ?_)
  · refine rf_tsw (o := 43) c_17_1 (by rw [hs1_0]; decide) rfl ?_
    refine rf_ald (i := 0) (Or.inr ⟨0, rfl, rfl, rfl⟩) c_17_44 rfl ?_
    refine rf_getr hS c_17_45 rfl fl_1_9 rfl h_x0 ?_
    refine rf_ild (i := 1) (Or.inr ⟨1, rfl, rfl, rfl⟩) c_17_48 rfl ?_
    refine rf_ite (fun hb49 => ?_) (fun _ => rf_none)
    refine rf_iald hS c_17_49 (tf_1_0 h_x0) (lf_1_0 h_x0) hb49 ?_
    exact rf_ret c_17_50 rfl rfl rfl rfl
  · refine rf_ite (fun hs1_1 => ?_) (fun hs1_1 => ?_)
    · refine rf_tsw (o := 50) c_17_1 (by rw [hs1_1]; decide) rfl ?_
      refine rf_ald (i := 0) (Or.inr ⟨0, rfl, rfl, rfl⟩) c_17_51 rfl ?_
      refine rf_getr hS c_17_52 rfl fl_1_15 rfl h_x0 ?_
      refine rf_ild (i := 1) (Or.inr ⟨1, rfl, rfl, rfl⟩) c_17_55 rfl ?_
      refine rf_ite (fun hb56 => ?_) (fun _ => rf_none)
      refine rf_iald hS c_17_56 (tf_1_1 h_x0) (lf_1_1 h_x0) hb56 ?_
      exact rf_ret c_17_57 rfl rfl rfl rfl
    · refine rf_ite (fun hs1_2 => ?_) (fun hs1_2 => ?_)
      · refine rf_tsw (o := 57) c_17_1 (by rw [hs1_2]; decide) rfl ?_
        refine rf_ald (i := 0) (Or.inr ⟨0, rfl, rfl, rfl⟩) c_17_58 rfl ?_
        refine rf_getr hS c_17_59 rfl fl_1_18 rfl h_x0 ?_
        refine rf_ild (i := 1) (Or.inr ⟨1, rfl, rfl, rfl⟩) c_17_62 rfl ?_
        refine rf_ite (fun hb63 => ?_) (fun _ => rf_none)
        refine rf_iald hS c_17_63 (tf_1_2 h_x0) (lf_1_2 h_x0) hb63 ?_
        exact rf_ret c_17_64 rfl rfl rfl rfl
      · refine rf_ite (fun hs1_3 => ?_) (fun hs1_3 => ?_)
        · refine rf_tsw (o := 64) c_17_1 (by rw [hs1_3]; decide) rfl ?_
          refine rf_ald (i := 0) (Or.inr ⟨0, rfl, rfl, rfl⟩) c_17_65 rfl ?_
          refine rf_getr hS c_17_66 rfl fl_1_21 rfl h_x0 ?_
          refine rf_ild (i := 1) (Or.inr ⟨1, rfl, rfl, rfl⟩) c_17_69 rfl ?_
          refine rf_ite (fun hb70 => ?_) (fun _ => rf_none)
          refine rf_iald hS c_17_70 (tf_1_3 h_x0) (lf_1_3 h_x0) hb70 ?_
          exact rf_ret c_17_71 rfl rfl rfl rfl
        · refine rf_ite (fun hs1_4 => ?_) (fun hs1_4 => ?_)
          · refine rf_tsw (o := 71) c_17_1 (by rw [hs1_4]; decide) rfl ?_
            refine rf_ald (i := 0) (Or.inr ⟨0, rfl, rfl, rfl⟩) c_17_72 rfl ?_
            refine rf_getr hS c_17_73 rfl fl_1_24 rfl h_x0 ?_
            refine rf_ild (i := 1) (Or.inr ⟨1, rfl, rfl, rfl⟩) c_17_76 rfl ?_
            refine rf_ite (fun hb77 => ?_) (fun _ => rf_none)
            refine rf_iald hS c_17_77 (tf_1_4 h_x0) (lf_1_4 h_x0) hb77 ?_
            exact rf_ret c_17_78 rfl rfl rfl rfl
          · refine rf_ite (fun hs1_5 => ?_) (fun hs1_5 => ?_)
            · refine rf_tsw (o := 78) c_17_1 (by rw [hs1_5]; decide) rfl ?_
              refine rf_ald (i := 0) (Or.inr ⟨0, rfl, rfl, rfl⟩) c_17_79 rfl ?_
              refine rf_getr hS c_17_80 rfl fl_1_27 rfl h_x0 ?_
              refine rf_ild (i := 1) (Or.inr ⟨1, rfl, rfl, rfl⟩) c_17_83 rfl ?_
              refine rf_ite (fun hb84 => ?_) (fun _ => rf_none)
              refine rf_iald hS c_17_84 (tf_1_5 h_x0) (lf_1_5 h_x0) hb84 ?_
              exact rf_ret c_17_85 rfl rfl rfl rfl
            · refine rf_ite (fun hs1_6 => ?_) (fun hs1_6 => ?_)
              · refine rf_tsw (o := 85) c_17_1 (by rw [hs1_6]; decide) rfl ?_
                refine rf_ald (i := 0) (Or.inr ⟨0, rfl, rfl, rfl⟩) c_17_86 rfl ?_
                refine rf_getr hS c_17_87 rfl fl_1_30 rfl h_x0 ?_
                refine rf_ild (i := 1) (Or.inr ⟨1, rfl, rfl, rfl⟩) c_17_90 rfl ?_
                refine rf_ite (fun hb91 => ?_) (fun _ => rf_none)
                refine rf_iald hS c_17_91 (tf_1_6 h_x0) (lf_1_6 h_x0) hb91 ?_
                exact rf_ret c_17_92 rfl rfl rfl rfl
              · refine rf_tsw c_17_1 (if_pos (by have e0 := lv_neT hs1_0 (a := 0) (by decide); have e1 := lv_neT hs1_1 (a := 1) (by decide); have e2 := lv_neT hs1_2 (a := 2) (by decide); have e3 := lv_neT hs1_3 (a := 3) (by decide); have e4 := lv_neT hs1_4 (a := 4) (by decide); have e5 := lv_neT hs1_5 (a := 5) (by decide); have e6 := lv_neT hs1_6 (a := 6) (by decide); omega)) rfl ?_
                refine rf_ald (i := 0) (Or.inr ⟨0, rfl, rfl, rfl⟩) c_17_93 rfl ?_
                refine rf_getr hS c_17_94 rfl fl_1_33 rfl h_x0 ?_
                refine rf_ild (i := 1) (Or.inr ⟨1, rfl, rfl, rfl⟩) c_17_97 rfl ?_
                refine rf_ite (fun hb98 => ?_) (fun _ => rf_none)
                refine rf_iald hS c_17_98 (tf_1_7 h_x0) (lf_1_7 h_x0) hb98 ?_
                exact rf_ret c_17_99 rfl rfl rfl rfl
theorem c_18_0 : cd 18 0 = some (.aload_n 0, 1) := by decide +kernel
theorem c_18_1 : cd 18 1 = some (.getfield 30, 3) := by decide +kernel
theorem c_18_4 : cd 18 4 = some (.iload_n 1, 1) := by decide +kernel
theorem c_18_5 : cd 18 5 = some (.iload_n 2, 1) := by decide +kernel
theorem c_18_6 : cd 18 6 = some (.iastore, 1) := by decide +kernel
theorem c_18_7 : cd 18 7 = some (.return_, 1) := by decide +kernel
def f_Dk_undo (x0 : Nat) (x1 : Int32) (x2 : Int32) (σ : Mm) : Option Mm := if inbB x1 24 = true then nmM (up2 σ (rfT x0 6) (ix x1) x2) fun σ6 => some σ6 else none
set_option maxRecDepth 100000 in
set_option maxHeartbeats 4000000 in
theorem t_Dk_undo {X : Xt} {S : Sh} (hS : ShOK S) {d : Nat} (hd : 0 ≤ d) (x0 : Nat) (x1 : Int32) (x2 : Int32) (σ : Mm) (h_x0 : tgT x0 = 1) : Rf X S emV (f_Dk_undo x0 x1 x2 σ) d 18 0 [.ref x0, .int x1, .int x2] [] σ := by
  unfold f_Dk_undo
  refine rf_ald (i := 0) (Or.inr ⟨0, rfl, rfl, rfl⟩) c_18_0 rfl ?_
  refine rf_getr hS c_18_1 rfl fl_1_30 rfl h_x0 ?_
  refine rf_ild (i := 1) (Or.inr ⟨1, rfl, rfl, rfl⟩) c_18_4 rfl ?_
  refine rf_ild (i := 2) (Or.inr ⟨2, rfl, rfl, rfl⟩) c_18_5 rfl ?_
  refine rf_ite (fun hb6 => ?_) (fun _ => rf_none)
  refine rf_iast hS c_18_6 (tf_1_6 h_x0) (lf_1_6 h_x0) hb6 ?_
  refine rf_nm (fun σ6 => ?_)
  exact rf_vret c_18_7 rfl rfl
theorem c_20_0 : cd 20 0 = some (.iconst (0), 1) := by decide +kernel
theorem c_20_1 : cd 20 1 = some (.istore_n 3, 1) := by decide +kernel
theorem c_20_2 : cd 20 2 = some (.iconst (0), 1) := by decide +kernel
theorem c_20_3 : cd 20 3 = some (.istore 4, 2) := by decide +kernel
theorem c_20_5 : cd 20 5 = some (.iload 4, 2) := by decide +kernel
theorem c_20_7 : cd 20 7 = some (.aload_n 0, 1) := by decide +kernel
theorem c_20_8 : cd 20 8 = some (.getfield 42, 3) := by decide +kernel
theorem c_20_11 : cd 20 11 = some (.if_icmp .ge (82), 3) := by decide +kernel
theorem c_20_14 : cd 20 14 = some (.iload 4, 2) := by decide +kernel
theorem c_20_16 : cd 20 16 = some (.iload_n 1, 1) := by decide +kernel
theorem c_20_17 : cd 20 17 = some (.if_icmp .eq (26), 3) := by decide +kernel
theorem c_20_20 : cd 20 20 = some (.aload_n 0, 1) := by decide +kernel
theorem c_20_21 : cd 20 21 = some (.getfield 30, 3) := by decide +kernel
theorem c_20_24 : cd 20 24 = some (.iload 4, 2) := by decide +kernel
theorem c_20_26 : cd 20 26 = some (.iaload, 1) := by decide +kernel
theorem c_20_27 : cd 20 27 = some (.ldc 51, 2) := by decide +kernel
theorem c_20_29 : cd 20 29 = some (.if_icmp .eq (18), 3) := by decide +kernel
theorem c_20_32 : cd 20 32 = some (.aload_n 0, 1) := by decide +kernel
theorem c_20_33 : cd 20 33 = some (.getfield 30, 3) := by decide +kernel
theorem c_20_36 : cd 20 36 = some (.iload 4, 2) := by decide +kernel
theorem c_20_38 : cd 20 38 = some (.iaload, 1) := by decide +kernel
theorem c_20_39 : cd 20 39 = some (.iload_n 2, 1) := by decide +kernel
theorem c_20_40 : cd 20 40 = some (.if_icmp .gt (7), 3) := by decide +kernel
theorem c_20_43 : cd 20 43 = some (.iconst (1), 1) := by decide +kernel
theorem c_20_44 : cd 20 44 = some (.goto (4), 3) := by decide +kernel
theorem c_20_47 : cd 20 47 = some (.iconst (0), 1) := by decide +kernel
theorem c_20_48 : cd 20 48 = some (.istore 5, 2) := by decide +kernel
theorem c_20_50 : cd 20 50 = some (.aload_n 0, 1) := by decide +kernel
theorem c_20_51 : cd 20 51 = some (.getfield 21, 3) := by decide +kernel
theorem c_20_54 : cd 20 54 = some (.iload 4, 2) := by decide +kernel
theorem c_20_56 : cd 20 56 = some (.iaload, 1) := by decide +kernel
theorem c_20_57 : cd 20 57 = some (.iload_n 2, 1) := by decide +kernel
theorem c_20_58 : cd 20 58 = some (.if_icmp .gt (29), 3) := by decide +kernel
theorem c_20_61 : cd 20 61 = some (.iload 5, 2) := by decide +kernel
theorem c_20_63 : cd 20 63 = some (.ifCond .ne (24), 3) := by decide +kernel
theorem c_20_66 : cd 20 66 = some (.aload_n 0, 1) := by decide +kernel
theorem c_20_67 : cd 20 67 = some (.getfield 27, 3) := by decide +kernel
theorem c_20_70 : cd 20 70 = some (.iload 4, 2) := by decide +kernel
theorem c_20_72 : cd 20 72 = some (.iaload, 1) := by decide +kernel
theorem c_20_73 : cd 20 73 = some (.iload_n 3, 1) := by decide +kernel
theorem c_20_74 : cd 20 74 = some (.iconst (-1), 1) := by decide +kernel
theorem c_20_75 : cd 20 75 = some (.ixor, 1) := by decide +kernel
theorem c_20_76 : cd 20 76 = some (.iand, 1) := by decide +kernel
theorem c_20_77 : cd 20 77 = some (.ifCond .ne (10), 3) := by decide +kernel
theorem c_20_80 : cd 20 80 = some (.iload_n 3, 1) := by decide +kernel
theorem c_20_81 : cd 20 81 = some (.iconst (1), 1) := by decide +kernel
theorem c_20_82 : cd 20 82 = some (.iload 4, 2) := by decide +kernel
theorem c_20_84 : cd 20 84 = some (.ishl, 1) := by decide +kernel
theorem c_20_85 : cd 20 85 = some (.ior, 1) := by decide +kernel
theorem c_20_86 : cd 20 86 = some (.istore_n 3, 1) := by decide +kernel
theorem c_20_87 : cd 20 87 = some (.iinc 4 (1), 3) := by decide +kernel
theorem c_20_90 : cd 20 90 = some (.goto (-85), 3) := by decide +kernel
theorem c_20_93 : cd 20 93 = some (.iload_n 3, 1) := by decide +kernel
theorem c_20_94 : cd 20 94 = some (.ireturn, 1) := by decide +kernel
def f_Dk_standingWithout_87 (σ : Mm) (k5 : Nat → Int32 → Int32 → Int32 → Int32 → Option (Int32)) (x0 : Nat) (x1 : Int32) (x2 : Int32) (x3 : Int32) (x4 : Int32) : Option Int32 := k5 x0 x1 x2 x3 (x4 + (1 : Int32))
set_option maxRecDepth 100000 in
set_option maxHeartbeats 4000000 in
theorem t_Dk_standingWithout_87 {X : Xt} {S : Sh} (hS : ShOK S) {d : Nat} (hd : 0 ≤ d) (σ : Mm) {k5 : Nat → Int32 → Int32 → Int32 → Int32 → Option (Int32)} (hk5 : ∀ (x0 : Nat) (x1 : Int32) (x2 : Int32) (x3 : Int32) (x4 : Int32) (u5 : Value) (h_x0 : tgT x0 = 1), Rf X S (emI σ) (k5 x0 x1 x2 x3 x4) d 20 5 [.ref x0, .int x1, .int x2, .int x3, .int x4, u5] [] σ) (x0 : Nat) (x1 : Int32) (x2 : Int32) (x3 : Int32) (x4 : Int32) (u5 : Value) (h_x0 : tgT x0 = 1) : Rf X S (emI σ) (f_Dk_standingWithout_87 σ k5 x0 x1 x2 x3 x4) d 20 87 [.ref x0, .int x1, .int x2, .int x3, .int x4, u5] [] σ := by
  unfold f_Dk_standingWithout_87
  refine rf_iinc c_20_87 rfl ki_1 rfl ?_
  refine rf_goto c_20_90 rfl ?_
  exact hk5 x0 x1 x2 x3 (x4 + (1 : Int32)) (u5) h_x0
def f_Dk_standingWithout_48 (σ : Mm) (k5 : Nat → Int32 → Int32 → Int32 → Int32 → Option (Int32)) (x0 : Nat) (x1 : Int32) (x2 : Int32) (x3 : Int32) (x4 : Int32) (y0 : Int32) : Option Int32 := if inbB x4 24 = true then (if x2 < (σ (rfT x0 3) (ix x4)) then (f_Dk_standingWithout_87 σ k5 x0 x1 x2 x3 x4) else (if ¬ y0 = 0 then (f_Dk_standingWithout_87 σ k5 x0 x1 x2 x3 x4) else (if inbB x4 24 = true then (if ¬ ((σ (rfT x0 5) (ix x4)) &&& (x3 ^^^ (-1 : Int32))) = 0 then (f_Dk_standingWithout_87 σ k5 x0 x1 x2 x3 x4) else (f_Dk_standingWithout_87 σ k5 x0 x1 x2 (x3 ||| ((1 : Int32) <<< (x4 &&& 31))) x4)) else none))) else none
set_option maxRecDepth 100000 in
set_option maxHeartbeats 4000000 in
theorem t_Dk_standingWithout_48 {X : Xt} {S : Sh} (hS : ShOK S) {d : Nat} (hd : 0 ≤ d) (σ : Mm) {k5 : Nat → Int32 → Int32 → Int32 → Int32 → Option (Int32)} (hk5 : ∀ (x0 : Nat) (x1 : Int32) (x2 : Int32) (x3 : Int32) (x4 : Int32) (u5 : Value) (h_x0 : tgT x0 = 1), Rf X S (emI σ) (k5 x0 x1 x2 x3 x4) d 20 5 [.ref x0, .int x1, .int x2, .int x3, .int x4, u5] [] σ) (x0 : Nat) (x1 : Int32) (x2 : Int32) (x3 : Int32) (x4 : Int32) (y0 : Int32) (u5 : Value) (h_x0 : tgT x0 = 1) : Rf X S (emI σ) (f_Dk_standingWithout_48 σ k5 x0 x1 x2 x3 x4 y0) d 20 48 [.ref x0, .int x1, .int x2, .int x3, .int x4, u5] [.int y0] σ := by
  unfold f_Dk_standingWithout_48
  refine rf_ist (i := 5) (Or.inl ⟨rfl, rfl⟩) c_20_48 (Nat.le_of_ble_eq_true rfl) rfl ?_
  refine rf_ald (i := 0) (Or.inr ⟨0, rfl, rfl, rfl⟩) c_20_50 rfl ?_
  refine rf_getr hS c_20_51 rfl fl_1_21 rfl h_x0 ?_
  refine rf_ild (i := 4) (Or.inl ⟨rfl, rfl⟩) c_20_54 rfl ?_
  refine rf_ite (fun hb56 => ?_) (fun _ => rf_none)
  refine rf_iald hS c_20_56 (tf_1_3 h_x0) (lf_1_3 h_x0) hb56 ?_
  refine rf_ild (i := 2) (Or.inr ⟨2, rfl, rfl, rfl⟩) c_20_57 rfl ?_
  refine rf_ite (fun hc58 => ?_) (fun hc58 => ?_)
  · refine rf_b2t c_20_58 rfl (decide_eq_true hc58) ?_
    exact t_Dk_standingWithout_87 hS hd σ hk5 x0 x1 x2 x3 x4 (.int y0) h_x0
  · refine rf_b2f c_20_58 rfl (decide_eq_false hc58) ?_
    refine rf_ild (i := 5) (Or.inl ⟨rfl, rfl⟩) c_20_61 rfl ?_
    refine rf_ite (fun hc63 => ?_) (fun hc63 => ?_)
    · refine rf_b1t c_20_63 rfl (decide_eq_true hc63) ?_
      exact t_Dk_standingWithout_87 hS hd σ hk5 x0 x1 x2 x3 x4 (.int y0) h_x0
    · refine rf_b1f c_20_63 rfl (decide_eq_false hc63) ?_
      refine rf_ald (i := 0) (Or.inr ⟨0, rfl, rfl, rfl⟩) c_20_66 rfl ?_
      refine rf_getr hS c_20_67 rfl fl_1_27 rfl h_x0 ?_
      refine rf_ild (i := 4) (Or.inl ⟨rfl, rfl⟩) c_20_70 rfl ?_
      refine rf_ite (fun hb72 => ?_) (fun _ => rf_none)
      refine rf_iald hS c_20_72 (tf_1_5 h_x0) (lf_1_5 h_x0) hb72 ?_
      refine rf_ild (i := 3) (Or.inr ⟨3, rfl, rfl, rfl⟩) c_20_73 rfl ?_
      refine rf_iconst c_20_74 ki_m1 ?_
      refine rf_ixor c_20_75 ?_
      refine rf_iand c_20_76 ?_
      refine rf_ite (fun hc77 => ?_) (fun hc77 => ?_)
      · refine rf_b1t c_20_77 rfl (decide_eq_true hc77) ?_
        exact t_Dk_standingWithout_87 hS hd σ hk5 x0 x1 x2 x3 x4 (.int y0) h_x0
      · refine rf_b1f c_20_77 rfl (decide_eq_false hc77) ?_
        refine rf_ild (i := 3) (Or.inr ⟨3, rfl, rfl, rfl⟩) c_20_80 rfl ?_
        refine rf_iconst c_20_81 ki_1 ?_
        refine rf_ild (i := 4) (Or.inl ⟨rfl, rfl⟩) c_20_82 rfl ?_
        refine rf_ishl c_20_84 ?_
        refine rf_ior c_20_85 ?_
        refine rf_ist (i := 3) (Or.inr ⟨3, rfl, rfl, rfl⟩) c_20_86 (Nat.le_of_ble_eq_true rfl) rfl ?_
        exact t_Dk_standingWithout_87 hS hd σ hk5 x0 x1 x2 (x3 ||| ((1 : Int32) <<< (x4 &&& 31))) x4 (.int y0) h_x0
def f_Dk_standingWithout_43 (σ : Mm) (k5 : Nat → Int32 → Int32 → Int32 → Int32 → Option (Int32)) (x0 : Nat) (x1 : Int32) (x2 : Int32) (x3 : Int32) (x4 : Int32) : Option Int32 := f_Dk_standingWithout_48 σ k5 x0 x1 x2 x3 x4 (1 : Int32)
set_option maxRecDepth 100000 in
set_option maxHeartbeats 4000000 in
theorem t_Dk_standingWithout_43 {X : Xt} {S : Sh} (hS : ShOK S) {d : Nat} (hd : 0 ≤ d) (σ : Mm) {k5 : Nat → Int32 → Int32 → Int32 → Int32 → Option (Int32)} (hk5 : ∀ (x0 : Nat) (x1 : Int32) (x2 : Int32) (x3 : Int32) (x4 : Int32) (u5 : Value) (h_x0 : tgT x0 = 1), Rf X S (emI σ) (k5 x0 x1 x2 x3 x4) d 20 5 [.ref x0, .int x1, .int x2, .int x3, .int x4, u5] [] σ) (x0 : Nat) (x1 : Int32) (x2 : Int32) (x3 : Int32) (x4 : Int32) (u5 : Value) (h_x0 : tgT x0 = 1) : Rf X S (emI σ) (f_Dk_standingWithout_43 σ k5 x0 x1 x2 x3 x4) d 20 43 [.ref x0, .int x1, .int x2, .int x3, .int x4, u5] [] σ := by
  unfold f_Dk_standingWithout_43
  refine rf_iconst c_20_43 ki_1 ?_
  refine rf_goto c_20_44 rfl ?_
  exact t_Dk_standingWithout_48 hS hd σ hk5 x0 x1 x2 x3 x4 (1 : Int32) (u5) h_x0
def f_Dk_standingWithout_47 (σ : Mm) (k5 : Nat → Int32 → Int32 → Int32 → Int32 → Option (Int32)) (x0 : Nat) (x1 : Int32) (x2 : Int32) (x3 : Int32) (x4 : Int32) : Option Int32 := f_Dk_standingWithout_48 σ k5 x0 x1 x2 x3 x4 (0 : Int32)
set_option maxRecDepth 100000 in
set_option maxHeartbeats 4000000 in
theorem t_Dk_standingWithout_47 {X : Xt} {S : Sh} (hS : ShOK S) {d : Nat} (hd : 0 ≤ d) (σ : Mm) {k5 : Nat → Int32 → Int32 → Int32 → Int32 → Option (Int32)} (hk5 : ∀ (x0 : Nat) (x1 : Int32) (x2 : Int32) (x3 : Int32) (x4 : Int32) (u5 : Value) (h_x0 : tgT x0 = 1), Rf X S (emI σ) (k5 x0 x1 x2 x3 x4) d 20 5 [.ref x0, .int x1, .int x2, .int x3, .int x4, u5] [] σ) (x0 : Nat) (x1 : Int32) (x2 : Int32) (x3 : Int32) (x4 : Int32) (u5 : Value) (h_x0 : tgT x0 = 1) : Rf X S (emI σ) (f_Dk_standingWithout_47 σ k5 x0 x1 x2 x3 x4) d 20 47 [.ref x0, .int x1, .int x2, .int x3, .int x4, u5] [] σ := by
  unfold f_Dk_standingWithout_47
  refine rf_iconst c_20_47 ki_0 ?_
  exact t_Dk_standingWithout_48 hS hd σ hk5 x0 x1 x2 x3 x4 (0 : Int32) (u5) h_x0
def f_Dk_standingWithout_5 (σ : Mm) : Nat → Nat → Int32 → Int32 → Int32 → Int32 → Option Int32
  | 0, _, _, _, _, _ => none
  | n + 1, x0, x1, x2, x3, x4 => (if (σ x0 8) ≤ x4 then (some x3) else (if x4 = x1 then (f_Dk_standingWithout_43 σ (f_Dk_standingWithout_5 σ n) x0 x1 x2 x3 x4) else (if inbB x4 24 = true then (if (σ (rfT x0 6) (ix x4)) = (-1000000005 : Int32) then (f_Dk_standingWithout_47 σ (f_Dk_standingWithout_5 σ n) x0 x1 x2 x3 x4) else (if inbB x4 24 = true then (if x2 < (σ (rfT x0 6) (ix x4)) then (f_Dk_standingWithout_47 σ (f_Dk_standingWithout_5 σ n) x0 x1 x2 x3 x4) else (f_Dk_standingWithout_43 σ (f_Dk_standingWithout_5 σ n) x0 x1 x2 x3 x4)) else none)) else none)))
set_option maxRecDepth 100000 in
set_option maxHeartbeats 4000000 in
theorem t_Dk_standingWithout_5 {X : Xt} {S : Sh} (hS : ShOK S) {d : Nat} (hd : 0 ≤ d) (σ : Mm) : ∀ (n : Nat) (x0 : Nat) (x1 : Int32) (x2 : Int32) (x3 : Int32) (x4 : Int32) (u5 : Value) (h_x0 : tgT x0 = 1), Rf X S (emI σ) (f_Dk_standingWithout_5 σ n x0 x1 x2 x3 x4) d 20 5 [.ref x0, .int x1, .int x2, .int x3, .int x4, u5] [] σ := by
  intro n
  induction n with
  | zero => intro x0 x1 x2 x3 x4 u5 h_x0; exact rf_none
  | succ n ih =>
    intro x0 x1 x2 x3 x4 u5 h_x0
    rw [f_Dk_standingWithout_5]
    refine rf_ild (i := 4) (Or.inl ⟨rfl, rfl⟩) c_20_5 rfl ?_
    refine rf_ald (i := 0) (Or.inr ⟨0, rfl, rfl, rfl⟩) c_20_7 rfl ?_
    refine rf_geti hS c_20_8 rfl fl_1_42 rfl h_x0 ?_
    refine rf_ite (fun hc11 => ?_) (fun hc11 => ?_)
    · refine rf_b2t c_20_11 rfl (decide_eq_true hc11) ?_
      refine rf_ild (i := 3) (Or.inr ⟨3, rfl, rfl, rfl⟩) c_20_93 rfl ?_
      exact rf_ret c_20_94 rfl rfl rfl rfl
    · refine rf_b2f c_20_11 rfl (decide_eq_false hc11) ?_
      refine rf_ild (i := 4) (Or.inl ⟨rfl, rfl⟩) c_20_14 rfl ?_
      refine rf_ild (i := 1) (Or.inr ⟨1, rfl, rfl, rfl⟩) c_20_16 rfl ?_
      refine rf_ite (fun hc17 => ?_) (fun hc17 => ?_)
      · refine rf_b2t c_20_17 rfl (decide_eq_true hc17) ?_
        exact t_Dk_standingWithout_43 hS hd σ ih x0 x1 x2 x3 x4 (u5) h_x0
      · refine rf_b2f c_20_17 rfl (decide_eq_false hc17) ?_
        refine rf_ald (i := 0) (Or.inr ⟨0, rfl, rfl, rfl⟩) c_20_20 rfl ?_
        refine rf_getr hS c_20_21 rfl fl_1_30 rfl h_x0 ?_
        refine rf_ild (i := 4) (Or.inl ⟨rfl, rfl⟩) c_20_24 rfl ?_
        refine rf_ite (fun hb26 => ?_) (fun _ => rf_none)
        refine rf_iald hS c_20_26 (tf_1_6 h_x0) (lf_1_6 h_x0) hb26 ?_
        refine rf_ldc (Or.inl ⟨rfl, rfl⟩) c_20_27 rfl kl_1_51 ?_
        refine rf_ite (fun hc29 => ?_) (fun hc29 => ?_)
        · refine rf_b2t c_20_29 rfl (decide_eq_true hc29) ?_
          exact t_Dk_standingWithout_47 hS hd σ ih x0 x1 x2 x3 x4 (u5) h_x0
        · refine rf_b2f c_20_29 rfl (decide_eq_false hc29) ?_
          refine rf_ald (i := 0) (Or.inr ⟨0, rfl, rfl, rfl⟩) c_20_32 rfl ?_
          refine rf_getr hS c_20_33 rfl fl_1_30 rfl h_x0 ?_
          refine rf_ild (i := 4) (Or.inl ⟨rfl, rfl⟩) c_20_36 rfl ?_
          refine rf_ite (fun hb38 => ?_) (fun _ => rf_none)
          refine rf_iald hS c_20_38 (tf_1_6 h_x0) (lf_1_6 h_x0) hb38 ?_
          refine rf_ild (i := 2) (Or.inr ⟨2, rfl, rfl, rfl⟩) c_20_39 rfl ?_
          refine rf_ite (fun hc40 => ?_) (fun hc40 => ?_)
          · refine rf_b2t c_20_40 rfl (decide_eq_true hc40) ?_
            exact t_Dk_standingWithout_47 hS hd σ ih x0 x1 x2 x3 x4 (u5) h_x0
          · refine rf_b2f c_20_40 rfl (decide_eq_false hc40) ?_
            exact t_Dk_standingWithout_43 hS hd σ ih x0 x1 x2 x3 x4 (u5) h_x0
def f_Dk_standingWithout (σ : Mm) (x0 : Nat) (x1 : Int32) (x2 : Int32) : Option Int32 := f_Dk_standingWithout_5 σ NN x0 x1 x2 (0 : Int32) (0 : Int32)
set_option maxRecDepth 100000 in
set_option maxHeartbeats 4000000 in
theorem t_Dk_standingWithout {X : Xt} {S : Sh} (hS : ShOK S) {d : Nat} (hd : 0 ≤ d) (σ : Mm) (x0 : Nat) (x1 : Int32) (x2 : Int32) (h_x0 : tgT x0 = 1) : Rf X S (emI σ) (f_Dk_standingWithout σ x0 x1 x2) d 20 0 [.ref x0, .int x1, .int x2, unset0, unset0, unset0] [] σ := by
  unfold f_Dk_standingWithout
  refine rf_iconst c_20_0 ki_0 ?_
  refine rf_ist (i := 3) (Or.inr ⟨3, rfl, rfl, rfl⟩) c_20_1 (Nat.le_of_ble_eq_true rfl) rfl ?_
  refine rf_iconst c_20_2 ki_0 ?_
  refine rf_ist (i := 4) (Or.inl ⟨rfl, rfl⟩) c_20_3 (Nat.le_of_ble_eq_true rfl) rfl ?_
  exact t_Dk_standingWithout_5 hS hd σ  NN x0 x1 x2 (0 : Int32) (0 : Int32) (unset0) h_x0
theorem c_19_0 : cd 19 0 = some (.aload_n 0, 1) := by decide +kernel
theorem c_19_1 : cd 19 1 = some (.ldc 51, 2) := by decide +kernel
theorem c_19_3 : cd 19 3 = some (.iload_n 1, 1) := by decide +kernel
theorem c_19_4 : cd 19 4 = some (.invokevirtual 56, 3) := by decide +kernel
theorem c_19_7 : cd 19 7 = some (.ireturn, 1) := by decide +kernel
def f_Dk_standing (σ : Mm) (x0 : Nat) (x1 : Int32) : Option Int32 := (f_Dk_standingWithout σ x0 (-1000000005 : Int32) x1).bind fun v4 => some v4
set_option maxRecDepth 100000 in
set_option maxHeartbeats 4000000 in
theorem t_Dk_standing_e {X : Xt} {S : Sh} (hS : ShOK S) {d : Nat} (hd : 1 ≤ d + 1) (σ : Mm) (x0 : Nat) (x1 : Int32) (h_x0 : tgT x0 = 1) : Rf X S (emI σ) (f_Dk_standing σ x0 x1) (d + 1) 19 0 [.ref x0, .int x1] [] σ := by
  unfold f_Dk_standing
  refine rf_ald (i := 0) (Or.inr ⟨0, rfl, rfl, rfl⟩) c_19_0 rfl ?_
  refine rf_ldc (Or.inl ⟨rfl, rfl⟩) c_19_1 rfl kl_1_51 ?_
  refine rf_ild (i := 1) (Or.inr ⟨1, rfl, rfl, rfl⟩) c_19_3 rfl ?_
  refine rf_callI (as := [.ref x0, .int (-1000000005 : Int32), .int x1]) (kd := 1) c_19_4 rfl (by decide) rfl ml_1_56 (by decide) rfl (rcv_1 hS rfl rfl h_x0 (by decide)) (Nat.zero_le _) rfl rfl (t_Dk_standingWithout hS (by omega) σ x0 (-1000000005 : Int32) x1 h_x0) (fun v4 => ?_)
  exact rf_ret c_19_7 rfl rfl rfl rfl
theorem t_Dk_standing {X : Xt} {S : Sh} (hS : ShOK S) {d : Nat} (hd : 1 ≤ d) (σ : Mm) (x0 : Nat) (x1 : Int32) (h_x0 : tgT x0 = 1) : Rf X S (emI σ) (f_Dk_standing σ x0 x1) d 19 0 [.ref x0, .int x1] [] σ := by
  obtain ⟨d1, rfl⟩ : ∃ d1, d = d1 + 1 := ⟨d - 1, by omega⟩
  exact t_Dk_standing_e hS hd σ x0 x1 h_x0
theorem c_21_0 : cd 21 0 = some (.aload_n 0, 1) := by decide +kernel
theorem c_21_1 : cd 21 1 = some (.iload_n 2, 1) := by decide +kernel
theorem c_21_2 : cd 21 2 = some (.invokevirtual 60, 3) := by decide +kernel
theorem c_21_5 : cd 21 5 = some (.iload_n 1, 1) := by decide +kernel
theorem c_21_6 : cd 21 6 = some (.ishr, 1) := by decide +kernel
theorem c_21_7 : cd 21 7 = some (.iconst (1), 1) := by decide +kernel
theorem c_21_8 : cd 21 8 = some (.iand, 1) := by decide +kernel
theorem c_21_9 : cd 21 9 = some (.iconst (1), 1) := by decide +kernel
theorem c_21_10 : cd 21 10 = some (.if_icmp .ne (7), 3) := by decide +kernel
theorem c_21_13 : cd 21 13 = some (.iconst (1), 1) := by decide +kernel
theorem c_21_14 : cd 21 14 = some (.goto (4), 3) := by decide +kernel
theorem c_21_17 : cd 21 17 = some (.iconst (0), 1) := by decide +kernel
theorem c_21_18 : cd 21 18 = some (.ireturn, 1) := by decide +kernel
def f_Dk_standsOn_18 (σ : Mm) (y0 : Int32) : Option Int32 := if zB y0 = true then some y0 else none
set_option maxRecDepth 100000 in
set_option maxHeartbeats 4000000 in
theorem t_Dk_standsOn_18 {X : Xt} {S : Sh} (hS : ShOK S) {d : Nat} (hd : 2 ≤ d + 1) (σ : Mm) (y0 : Int32) (u0 : Value) (u1 : Value) (u2 : Value) : Rf X S (emI σ) (f_Dk_standsOn_18 σ y0) (d + 1) 21 18 [u0, u1, u2] [.int y0] σ := by
  unfold f_Dk_standsOn_18
  refine rf_ite (fun hq18 => ?_) (fun _ => rf_none)
  exact rf_ret c_21_18 rfl (zB_n hq18) rfl rfl
def f_Dk_standsOn (σ : Mm) (x0 : Nat) (x1 : Int32) (x2 : Int32) : Option Int32 := (f_Dk_standing σ x0 x2).bind fun v2 => (if ¬ ((v2 >>> (x1 &&& 31)) &&& (1 : Int32)) = (1 : Int32) then (f_Dk_standsOn_18 σ (0 : Int32)) else (f_Dk_standsOn_18 σ (1 : Int32)))
set_option maxRecDepth 100000 in
set_option maxHeartbeats 4000000 in
theorem t_Dk_standsOn_e {X : Xt} {S : Sh} (hS : ShOK S) {d : Nat} (hd : 2 ≤ d + 1) (σ : Mm) (x0 : Nat) (x1 : Int32) (x2 : Int32) (h_x0 : tgT x0 = 1) : Rf X S (emI σ) (f_Dk_standsOn σ x0 x1 x2) (d + 1) 21 0 [.ref x0, .int x1, .int x2] [] σ := by
  unfold f_Dk_standsOn
  refine rf_ald (i := 0) (Or.inr ⟨0, rfl, rfl, rfl⟩) c_21_0 rfl ?_
  refine rf_ild (i := 2) (Or.inr ⟨2, rfl, rfl, rfl⟩) c_21_1 rfl ?_
  refine rf_callI (as := [.ref x0, .int x2]) (kd := 1) c_21_2 rfl (by decide) rfl ml_1_60 (by decide) rfl (rcv_1 hS rfl rfl h_x0 (by decide)) (Nat.zero_le _) rfl rfl (t_Dk_standing hS (by omega) σ x0 x2 h_x0) (fun v2 => ?_)
  refine rf_ild (i := 1) (Or.inr ⟨1, rfl, rfl, rfl⟩) c_21_5 rfl ?_
  refine rf_ishr c_21_6 ?_
  refine rf_iconst c_21_7 ki_1 ?_
  refine rf_iand c_21_8 ?_
  refine rf_iconst c_21_9 ki_1 ?_
  refine rf_ite (fun hc10 => ?_) (fun hc10 => ?_)
  · refine rf_b2t c_21_10 rfl (decide_eq_true hc10) ?_
    refine rf_iconst c_21_17 ki_0 ?_
    exact t_Dk_standsOn_18 hS hd σ  (0 : Int32) (.ref x0) (.int x1) (.int x2)
  · refine rf_b2f c_21_10 rfl (decide_eq_false hc10) ?_
    refine rf_iconst c_21_13 ki_1 ?_
    refine rf_goto c_21_14 rfl ?_
    exact t_Dk_standsOn_18 hS hd σ  (1 : Int32) (.ref x0) (.int x1) (.int x2)
theorem t_Dk_standsOn {X : Xt} {S : Sh} (hS : ShOK S) {d : Nat} (hd : 2 ≤ d) (σ : Mm) (x0 : Nat) (x1 : Int32) (x2 : Int32) (h_x0 : tgT x0 = 1) : Rf X S (emI σ) (f_Dk_standsOn σ x0 x1 x2) d 21 0 [.ref x0, .int x1, .int x2] [] σ := by
  obtain ⟨d1, rfl⟩ : ∃ d1, d = d1 + 1 := ⟨d - 1, by omega⟩
  exact t_Dk_standsOn_e hS hd σ x0 x1 x2 h_x0
theorem c_22_0 : cd 22 0 = some (.aload_n 0, 1) := by decide +kernel
theorem c_22_1 : cd 22 1 = some (.iload_n 2, 1) := by decide +kernel
theorem c_22_2 : cd 22 2 = some (.invokevirtual 60, 3) := by decide +kernel
theorem c_22_5 : cd 22 5 = some (.aload_n 0, 1) := by decide +kernel
theorem c_22_6 : cd 22 6 = some (.iload_n 1, 1) := by decide +kernel
theorem c_22_7 : cd 22 7 = some (.iload_n 2, 1) := by decide +kernel
theorem c_22_8 : cd 22 8 = some (.invokevirtual 56, 3) := by decide +kernel
theorem c_22_11 : cd 22 11 = some (.iconst (-1), 1) := by decide +kernel
theorem c_22_12 : cd 22 12 = some (.ixor, 1) := by decide +kernel
theorem c_22_13 : cd 22 13 = some (.iand, 1) := by decide +kernel
theorem c_22_14 : cd 22 14 = some (.ireturn, 1) := by decide +kernel
def f_Dk_fallingWith (σ : Mm) (x0 : Nat) (x1 : Int32) (x2 : Int32) : Option Int32 := (f_Dk_standing σ x0 x2).bind fun v2 => (f_Dk_standingWithout σ x0 x1 x2).bind fun v8 => some (v2 &&& (v8 ^^^ (-1 : Int32)))
set_option maxRecDepth 100000 in
set_option maxHeartbeats 4000000 in
theorem t_Dk_fallingWith_e {X : Xt} {S : Sh} (hS : ShOK S) {d : Nat} (hd : 2 ≤ d + 1) (σ : Mm) (x0 : Nat) (x1 : Int32) (x2 : Int32) (h_x0 : tgT x0 = 1) : Rf X S (emI σ) (f_Dk_fallingWith σ x0 x1 x2) (d + 1) 22 0 [.ref x0, .int x1, .int x2] [] σ := by
  unfold f_Dk_fallingWith
  refine rf_ald (i := 0) (Or.inr ⟨0, rfl, rfl, rfl⟩) c_22_0 rfl ?_
  refine rf_ild (i := 2) (Or.inr ⟨2, rfl, rfl, rfl⟩) c_22_1 rfl ?_
  refine rf_callI (as := [.ref x0, .int x2]) (kd := 1) c_22_2 rfl (by decide) rfl ml_1_60 (by decide) rfl (rcv_1 hS rfl rfl h_x0 (by decide)) (Nat.zero_le _) rfl rfl (t_Dk_standing hS (by omega) σ x0 x2 h_x0) (fun v2 => ?_)
  refine rf_ald (i := 0) (Or.inr ⟨0, rfl, rfl, rfl⟩) c_22_5 rfl ?_
  refine rf_ild (i := 1) (Or.inr ⟨1, rfl, rfl, rfl⟩) c_22_6 rfl ?_
  refine rf_ild (i := 2) (Or.inr ⟨2, rfl, rfl, rfl⟩) c_22_7 rfl ?_
  refine rf_callI (as := [.ref x0, .int x1, .int x2]) (kd := 1) c_22_8 rfl (by decide) rfl ml_1_56 (by decide) rfl (rcv_1 hS rfl rfl h_x0 (by decide)) (by simp [Value.category]) rfl rfl (t_Dk_standingWithout hS (by omega) σ x0 x1 x2 h_x0) (fun v8 => ?_)
  refine rf_iconst c_22_11 ki_m1 ?_
  refine rf_ixor c_22_12 ?_
  refine rf_iand c_22_13 ?_
  exact rf_ret c_22_14 rfl rfl rfl rfl
theorem t_Dk_fallingWith {X : Xt} {S : Sh} (hS : ShOK S) {d : Nat} (hd : 2 ≤ d) (σ : Mm) (x0 : Nat) (x1 : Int32) (x2 : Int32) (h_x0 : tgT x0 = 1) : Rf X S (emI σ) (f_Dk_fallingWith σ x0 x1 x2) d 22 0 [.ref x0, .int x1, .int x2] [] σ := by
  obtain ⟨d1, rfl⟩ : ∃ d1, d = d1 + 1 := ⟨d - 1, by omega⟩
  exact t_Dk_fallingWith_e hS hd σ x0 x1 x2 h_x0
theorem c_23_0 : cd 23 0 = some (.aload_n 0, 1) := by decide +kernel
theorem c_23_1 : cd 23 1 = some (.iload_n 2, 1) := by decide +kernel
theorem c_23_2 : cd 23 2 = some (.invokevirtual 60, 3) := by decide +kernel
theorem c_23_5 : cd 23 5 = some (.istore_n 3, 1) := by decide +kernel
theorem c_23_6 : cd 23 6 = some (.aload_n 0, 1) := by decide +kernel
theorem c_23_7 : cd 23 7 = some (.getfield 42, 3) := by decide +kernel
theorem c_23_10 : cd 23 10 = some (.iconst (1), 1) := by decide +kernel
theorem c_23_11 : cd 23 11 = some (.isub, 1) := by decide +kernel
theorem c_23_12 : cd 23 12 = some (.istore 4, 2) := by decide +kernel
theorem c_23_14 : cd 23 14 = some (.iload 4, 2) := by decide +kernel
theorem c_23_16 : cd 23 16 = some (.ifCond .lt (33), 3) := by decide +kernel
theorem c_23_19 : cd 23 19 = some (.iload_n 3, 1) := by decide +kernel
theorem c_23_20 : cd 23 20 = some (.iload 4, 2) := by decide +kernel
theorem c_23_22 : cd 23 22 = some (.ishr, 1) := by decide +kernel
theorem c_23_23 : cd 23 23 = some (.iconst (1), 1) := by decide +kernel
theorem c_23_24 : cd 23 24 = some (.iand, 1) := by decide +kernel
theorem c_23_25 : cd 23 25 = some (.iconst (1), 1) := by decide +kernel
theorem c_23_26 : cd 23 26 = some (.if_icmp .ne (17), 3) := by decide +kernel
theorem c_23_29 : cd 23 29 = some (.aload_n 0, 1) := by decide +kernel
theorem c_23_30 : cd 23 30 = some (.getfield 15, 3) := by decide +kernel
theorem c_23_33 : cd 23 33 = some (.iload 4, 2) := by decide +kernel
theorem c_23_35 : cd 23 35 = some (.iaload, 1) := by decide +kernel
theorem c_23_36 : cd 23 36 = some (.iload_n 1, 1) := by decide +kernel
theorem c_23_37 : cd 23 37 = some (.if_icmp .ne (6), 3) := by decide +kernel
theorem c_23_40 : cd 23 40 = some (.iload 4, 2) := by decide +kernel
theorem c_23_42 : cd 23 42 = some (.ireturn, 1) := by decide +kernel
theorem c_23_43 : cd 23 43 = some (.iinc 4 (-1), 3) := by decide +kernel
theorem c_23_46 : cd 23 46 = some (.goto (-32), 3) := by decide +kernel
theorem c_23_49 : cd 23 49 = some (.ldc 51, 2) := by decide +kernel
theorem c_23_51 : cd 23 51 = some (.ireturn, 1) := by decide +kernel
def f_Dk_greatestOn_43 (σ : Mm) (k14 : Nat → Int32 → Int32 → Int32 → Option (Int32)) (x0 : Nat) (x1 : Int32) (x3 : Int32) (x4 : Int32) : Option Int32 := k14 x0 x1 x3 (x4 + (-1 : Int32))
set_option maxRecDepth 100000 in
set_option maxHeartbeats 4000000 in
theorem t_Dk_greatestOn_43 {X : Xt} {S : Sh} (hS : ShOK S) {d : Nat} (hd : 2 ≤ d + 1) (σ : Mm) {k14 : Nat → Int32 → Int32 → Int32 → Option (Int32)} (hk14 : ∀ (x0 : Nat) (x1 : Int32) (x3 : Int32) (x4 : Int32) (u2 : Value) (h_x0 : tgT x0 = 1), Rf X S (emI σ) (k14 x0 x1 x3 x4) (d + 1) 23 14 [.ref x0, .int x1, u2, .int x3, .int x4] [] σ) (x0 : Nat) (x1 : Int32) (x3 : Int32) (x4 : Int32) (u2 : Value) (h_x0 : tgT x0 = 1) : Rf X S (emI σ) (f_Dk_greatestOn_43 σ k14 x0 x1 x3 x4) (d + 1) 23 43 [.ref x0, .int x1, u2, .int x3, .int x4] [] σ := by
  unfold f_Dk_greatestOn_43
  refine rf_iinc c_23_43 rfl ki_m1 rfl ?_
  refine rf_goto c_23_46 rfl ?_
  exact hk14 x0 x1 x3 (x4 + (-1 : Int32)) (u2) h_x0
def f_Dk_greatestOn_14 (σ : Mm) : Nat → Nat → Int32 → Int32 → Int32 → Option Int32
  | 0, _, _, _, _ => none
  | n + 1, x0, x1, x3, x4 => (if x4 < 0 then (some (-1000000005 : Int32)) else (if ¬ ((x3 >>> (x4 &&& 31)) &&& (1 : Int32)) = (1 : Int32) then (f_Dk_greatestOn_43 σ (f_Dk_greatestOn_14 σ n) x0 x1 x3 x4) else (if inbB x4 24 = true then (if ¬ (σ (rfT x0 1) (ix x4)) = x1 then (f_Dk_greatestOn_43 σ (f_Dk_greatestOn_14 σ n) x0 x1 x3 x4) else (some x4)) else none)))
set_option maxRecDepth 100000 in
set_option maxHeartbeats 4000000 in
theorem t_Dk_greatestOn_14 {X : Xt} {S : Sh} (hS : ShOK S) {d : Nat} (hd : 2 ≤ d + 1) (σ : Mm) : ∀ (n : Nat) (x0 : Nat) (x1 : Int32) (x3 : Int32) (x4 : Int32) (u2 : Value) (h_x0 : tgT x0 = 1), Rf X S (emI σ) (f_Dk_greatestOn_14 σ n x0 x1 x3 x4) (d + 1) 23 14 [.ref x0, .int x1, u2, .int x3, .int x4] [] σ := by
  intro n
  induction n with
  | zero => intro x0 x1 x3 x4 u2 h_x0; exact rf_none
  | succ n ih =>
    intro x0 x1 x3 x4 u2 h_x0
    rw [f_Dk_greatestOn_14]
    refine rf_ild (i := 4) (Or.inl ⟨rfl, rfl⟩) c_23_14 rfl ?_
    refine rf_ite (fun hc16 => ?_) (fun hc16 => ?_)
    · refine rf_b1t c_23_16 rfl (decide_eq_true hc16) ?_
      refine rf_ldc (Or.inl ⟨rfl, rfl⟩) c_23_49 rfl kl_1_51 ?_
      exact rf_ret c_23_51 rfl rfl rfl rfl
    · refine rf_b1f c_23_16 rfl (decide_eq_false hc16) ?_
      refine rf_ild (i := 3) (Or.inr ⟨3, rfl, rfl, rfl⟩) c_23_19 rfl ?_
      refine rf_ild (i := 4) (Or.inl ⟨rfl, rfl⟩) c_23_20 rfl ?_
      refine rf_ishr c_23_22 ?_
      refine rf_iconst c_23_23 ki_1 ?_
      refine rf_iand c_23_24 ?_
      refine rf_iconst c_23_25 ki_1 ?_
      refine rf_ite (fun hc26 => ?_) (fun hc26 => ?_)
      · refine rf_b2t c_23_26 rfl (decide_eq_true hc26) ?_
        exact t_Dk_greatestOn_43 hS hd σ ih x0 x1 x3 x4 (u2) h_x0
      · refine rf_b2f c_23_26 rfl (decide_eq_false hc26) ?_
        refine rf_ald (i := 0) (Or.inr ⟨0, rfl, rfl, rfl⟩) c_23_29 rfl ?_
        refine rf_getr hS c_23_30 rfl fl_1_15 rfl h_x0 ?_
        refine rf_ild (i := 4) (Or.inl ⟨rfl, rfl⟩) c_23_33 rfl ?_
        refine rf_ite (fun hb35 => ?_) (fun _ => rf_none)
        refine rf_iald hS c_23_35 (tf_1_1 h_x0) (lf_1_1 h_x0) hb35 ?_
        refine rf_ild (i := 1) (Or.inr ⟨1, rfl, rfl, rfl⟩) c_23_36 rfl ?_
        refine rf_ite (fun hc37 => ?_) (fun hc37 => ?_)
        · refine rf_b2t c_23_37 rfl (decide_eq_true hc37) ?_
          exact t_Dk_greatestOn_43 hS hd σ ih x0 x1 x3 x4 (u2) h_x0
        · refine rf_b2f c_23_37 rfl (decide_eq_false hc37) ?_
          refine rf_ild (i := 4) (Or.inl ⟨rfl, rfl⟩) c_23_40 rfl ?_
          exact rf_ret c_23_42 rfl rfl rfl rfl
def f_Dk_greatestOn (σ : Mm) (x0 : Nat) (x1 : Int32) (x2 : Int32) : Option Int32 := (f_Dk_standing σ x0 x2).bind fun v2 => f_Dk_greatestOn_14 σ NN x0 x1 v2 ((σ x0 8) - (1 : Int32))
set_option maxRecDepth 100000 in
set_option maxHeartbeats 4000000 in
theorem t_Dk_greatestOn_e {X : Xt} {S : Sh} (hS : ShOK S) {d : Nat} (hd : 2 ≤ d + 1) (σ : Mm) (x0 : Nat) (x1 : Int32) (x2 : Int32) (h_x0 : tgT x0 = 1) : Rf X S (emI σ) (f_Dk_greatestOn σ x0 x1 x2) (d + 1) 23 0 [.ref x0, .int x1, .int x2, unset0, unset0] [] σ := by
  unfold f_Dk_greatestOn
  refine rf_ald (i := 0) (Or.inr ⟨0, rfl, rfl, rfl⟩) c_23_0 rfl ?_
  refine rf_ild (i := 2) (Or.inr ⟨2, rfl, rfl, rfl⟩) c_23_1 rfl ?_
  refine rf_callI (as := [.ref x0, .int x2]) (kd := 1) c_23_2 rfl (by decide) rfl ml_1_60 (by decide) rfl (rcv_1 hS rfl rfl h_x0 (by decide)) (Nat.zero_le _) rfl rfl (t_Dk_standing hS (by omega) σ x0 x2 h_x0) (fun v2 => ?_)
  refine rf_ist (i := 3) (Or.inr ⟨3, rfl, rfl, rfl⟩) c_23_5 (Nat.le_of_ble_eq_true rfl) rfl ?_
  refine rf_ald (i := 0) (Or.inr ⟨0, rfl, rfl, rfl⟩) c_23_6 rfl ?_
  refine rf_geti hS c_23_7 rfl fl_1_42 rfl h_x0 ?_
  refine rf_iconst c_23_10 ki_1 ?_
  refine rf_isub c_23_11 ?_
  refine rf_ist (i := 4) (Or.inl ⟨rfl, rfl⟩) c_23_12 (Nat.le_of_ble_eq_true rfl) rfl ?_
  exact t_Dk_greatestOn_14 hS hd σ  NN x0 x1 v2 ((σ x0 8) - (1 : Int32)) (.int x2) h_x0
theorem t_Dk_greatestOn {X : Xt} {S : Sh} (hS : ShOK S) {d : Nat} (hd : 2 ≤ d) (σ : Mm) (x0 : Nat) (x1 : Int32) (x2 : Int32) (h_x0 : tgT x0 = 1) : Rf X S (emI σ) (f_Dk_greatestOn σ x0 x1 x2) d 23 0 [.ref x0, .int x1, .int x2, unset0, unset0] [] σ := by
  obtain ⟨d1, rfl⟩ : ∃ d1, d = d1 + 1 := ⟨d - 1, by omega⟩
  exact t_Dk_greatestOn_e hS hd σ x0 x1 x2 h_x0
theorem c_24_0 : cd 24 0 = some (.aload_n 0, 1) := by decide +kernel
theorem c_24_1 : cd 24 1 = some (.iload_n 3, 1) := by decide +kernel
theorem c_24_2 : cd 24 2 = some (.invokevirtual 60, 3) := by decide +kernel
theorem c_24_5 : cd 24 5 = some (.istore 4, 2) := by decide +kernel
theorem c_24_7 : cd 24 7 = some (.aload_n 0, 1) := by decide +kernel
theorem c_24_8 : cd 24 8 = some (.getfield 42, 3) := by decide +kernel
theorem c_24_11 : cd 24 11 = some (.iconst (1), 1) := by decide +kernel
theorem c_24_12 : cd 24 12 = some (.isub, 1) := by decide +kernel
theorem c_24_13 : cd 24 13 = some (.istore 5, 2) := by decide +kernel
theorem c_24_15 : cd 24 15 = some (.iload 5, 2) := by decide +kernel
theorem c_24_17 : cd 24 17 = some (.ifCond .lt (49), 3) := by decide +kernel
theorem c_24_20 : cd 24 20 = some (.iload 4, 2) := by decide +kernel
theorem c_24_22 : cd 24 22 = some (.iload 5, 2) := by decide +kernel
theorem c_24_24 : cd 24 24 = some (.ishr, 1) := by decide +kernel
theorem c_24_25 : cd 24 25 = some (.iconst (1), 1) := by decide +kernel
theorem c_24_26 : cd 24 26 = some (.iand, 1) := by decide +kernel
theorem c_24_27 : cd 24 27 = some (.iconst (1), 1) := by decide +kernel
theorem c_24_28 : cd 24 28 = some (.if_icmp .ne (32), 3) := by decide +kernel
theorem c_24_31 : cd 24 31 = some (.aload_n 0, 1) := by decide +kernel
theorem c_24_32 : cd 24 32 = some (.getfield 15, 3) := by decide +kernel
theorem c_24_35 : cd 24 35 = some (.iload 5, 2) := by decide +kernel
theorem c_24_37 : cd 24 37 = some (.iaload, 1) := by decide +kernel
theorem c_24_38 : cd 24 38 = some (.iload_n 2, 1) := by decide +kernel
theorem c_24_39 : cd 24 39 = some (.if_icmp .ne (21), 3) := by decide +kernel
theorem c_24_42 : cd 24 42 = some (.aload_n 0, 1) := by decide +kernel
theorem c_24_43 : cd 24 43 = some (.getfield 24, 3) := by decide +kernel
theorem c_24_46 : cd 24 46 = some (.iload 5, 2) := by decide +kernel
theorem c_24_48 : cd 24 48 = some (.iaload, 1) := by decide +kernel
theorem c_24_49 : cd 24 49 = some (.iload_n 1, 1) := by decide +kernel
theorem c_24_50 : cd 24 50 = some (.ishr, 1) := by decide +kernel
theorem c_24_51 : cd 24 51 = some (.iconst (1), 1) := by decide +kernel
theorem c_24_52 : cd 24 52 = some (.iand, 1) := by decide +kernel
theorem c_24_53 : cd 24 53 = some (.iconst (1), 1) := by decide +kernel
theorem c_24_54 : cd 24 54 = some (.if_icmp .ne (6), 3) := by decide +kernel
theorem c_24_57 : cd 24 57 = some (.iload 5, 2) := by decide +kernel
theorem c_24_59 : cd 24 59 = some (.ireturn, 1) := by decide +kernel
theorem c_24_60 : cd 24 60 = some (.iinc 5 (-1), 3) := by decide +kernel
theorem c_24_63 : cd 24 63 = some (.goto (-48), 3) := by decide +kernel
theorem c_24_66 : cd 24 66 = some (.ldc 51, 2) := by decide +kernel
theorem c_24_68 : cd 24 68 = some (.ireturn, 1) := by decide +kernel
def f_Dk_greatestBinding_60 (σ : Mm) (k15 : Nat → Int32 → Int32 → Int32 → Int32 → Option (Int32)) (x0 : Nat) (x1 : Int32) (x2 : Int32) (x4 : Int32) (x5 : Int32) : Option Int32 := k15 x0 x1 x2 x4 (x5 + (-1 : Int32))
set_option maxRecDepth 100000 in
set_option maxHeartbeats 4000000 in
theorem t_Dk_greatestBinding_60 {X : Xt} {S : Sh} (hS : ShOK S) {d : Nat} (hd : 2 ≤ d + 1) (σ : Mm) {k15 : Nat → Int32 → Int32 → Int32 → Int32 → Option (Int32)} (hk15 : ∀ (x0 : Nat) (x1 : Int32) (x2 : Int32) (x4 : Int32) (x5 : Int32) (u3 : Value) (h_x0 : tgT x0 = 1), Rf X S (emI σ) (k15 x0 x1 x2 x4 x5) (d + 1) 24 15 [.ref x0, .int x1, .int x2, u3, .int x4, .int x5] [] σ) (x0 : Nat) (x1 : Int32) (x2 : Int32) (x4 : Int32) (x5 : Int32) (u3 : Value) (h_x0 : tgT x0 = 1) : Rf X S (emI σ) (f_Dk_greatestBinding_60 σ k15 x0 x1 x2 x4 x5) (d + 1) 24 60 [.ref x0, .int x1, .int x2, u3, .int x4, .int x5] [] σ := by
  unfold f_Dk_greatestBinding_60
  refine rf_iinc c_24_60 rfl ki_m1 rfl ?_
  refine rf_goto c_24_63 rfl ?_
  exact hk15 x0 x1 x2 x4 (x5 + (-1 : Int32)) (u3) h_x0
def f_Dk_greatestBinding_15 (σ : Mm) : Nat → Nat → Int32 → Int32 → Int32 → Int32 → Option Int32
  | 0, _, _, _, _, _ => none
  | n + 1, x0, x1, x2, x4, x5 => (if x5 < 0 then (some (-1000000005 : Int32)) else (if ¬ ((x4 >>> (x5 &&& 31)) &&& (1 : Int32)) = (1 : Int32) then (f_Dk_greatestBinding_60 σ (f_Dk_greatestBinding_15 σ n) x0 x1 x2 x4 x5) else (if inbB x5 24 = true then (if ¬ (σ (rfT x0 1) (ix x5)) = x2 then (f_Dk_greatestBinding_60 σ (f_Dk_greatestBinding_15 σ n) x0 x1 x2 x4 x5) else (if inbB x5 24 = true then (if ¬ (((σ (rfT x0 4) (ix x5)) >>> (x1 &&& 31)) &&& (1 : Int32)) = (1 : Int32) then (f_Dk_greatestBinding_60 σ (f_Dk_greatestBinding_15 σ n) x0 x1 x2 x4 x5) else (some x5)) else none)) else none)))
set_option maxRecDepth 100000 in
set_option maxHeartbeats 4000000 in
theorem t_Dk_greatestBinding_15 {X : Xt} {S : Sh} (hS : ShOK S) {d : Nat} (hd : 2 ≤ d + 1) (σ : Mm) : ∀ (n : Nat) (x0 : Nat) (x1 : Int32) (x2 : Int32) (x4 : Int32) (x5 : Int32) (u3 : Value) (h_x0 : tgT x0 = 1), Rf X S (emI σ) (f_Dk_greatestBinding_15 σ n x0 x1 x2 x4 x5) (d + 1) 24 15 [.ref x0, .int x1, .int x2, u3, .int x4, .int x5] [] σ := by
  intro n
  induction n with
  | zero => intro x0 x1 x2 x4 x5 u3 h_x0; exact rf_none
  | succ n ih =>
    intro x0 x1 x2 x4 x5 u3 h_x0
    rw [f_Dk_greatestBinding_15]
    refine rf_ild (i := 5) (Or.inl ⟨rfl, rfl⟩) c_24_15 rfl ?_
    refine rf_ite (fun hc17 => ?_) (fun hc17 => ?_)
    · refine rf_b1t c_24_17 rfl (decide_eq_true hc17) ?_
      refine rf_ldc (Or.inl ⟨rfl, rfl⟩) c_24_66 rfl kl_1_51 ?_
      exact rf_ret c_24_68 rfl rfl rfl rfl
    · refine rf_b1f c_24_17 rfl (decide_eq_false hc17) ?_
      refine rf_ild (i := 4) (Or.inl ⟨rfl, rfl⟩) c_24_20 rfl ?_
      refine rf_ild (i := 5) (Or.inl ⟨rfl, rfl⟩) c_24_22 rfl ?_
      refine rf_ishr c_24_24 ?_
      refine rf_iconst c_24_25 ki_1 ?_
      refine rf_iand c_24_26 ?_
      refine rf_iconst c_24_27 ki_1 ?_
      refine rf_ite (fun hc28 => ?_) (fun hc28 => ?_)
      · refine rf_b2t c_24_28 rfl (decide_eq_true hc28) ?_
        exact t_Dk_greatestBinding_60 hS hd σ ih x0 x1 x2 x4 x5 (u3) h_x0
      · refine rf_b2f c_24_28 rfl (decide_eq_false hc28) ?_
        refine rf_ald (i := 0) (Or.inr ⟨0, rfl, rfl, rfl⟩) c_24_31 rfl ?_
        refine rf_getr hS c_24_32 rfl fl_1_15 rfl h_x0 ?_
        refine rf_ild (i := 5) (Or.inl ⟨rfl, rfl⟩) c_24_35 rfl ?_
        refine rf_ite (fun hb37 => ?_) (fun _ => rf_none)
        refine rf_iald hS c_24_37 (tf_1_1 h_x0) (lf_1_1 h_x0) hb37 ?_
        refine rf_ild (i := 2) (Or.inr ⟨2, rfl, rfl, rfl⟩) c_24_38 rfl ?_
        refine rf_ite (fun hc39 => ?_) (fun hc39 => ?_)
        · refine rf_b2t c_24_39 rfl (decide_eq_true hc39) ?_
          exact t_Dk_greatestBinding_60 hS hd σ ih x0 x1 x2 x4 x5 (u3) h_x0
        · refine rf_b2f c_24_39 rfl (decide_eq_false hc39) ?_
          refine rf_ald (i := 0) (Or.inr ⟨0, rfl, rfl, rfl⟩) c_24_42 rfl ?_
          refine rf_getr hS c_24_43 rfl fl_1_24 rfl h_x0 ?_
          refine rf_ild (i := 5) (Or.inl ⟨rfl, rfl⟩) c_24_46 rfl ?_
          refine rf_ite (fun hb48 => ?_) (fun _ => rf_none)
          refine rf_iald hS c_24_48 (tf_1_4 h_x0) (lf_1_4 h_x0) hb48 ?_
          refine rf_ild (i := 1) (Or.inr ⟨1, rfl, rfl, rfl⟩) c_24_49 rfl ?_
          refine rf_ishr c_24_50 ?_
          refine rf_iconst c_24_51 ki_1 ?_
          refine rf_iand c_24_52 ?_
          refine rf_iconst c_24_53 ki_1 ?_
          refine rf_ite (fun hc54 => ?_) (fun hc54 => ?_)
          · refine rf_b2t c_24_54 rfl (decide_eq_true hc54) ?_
            exact t_Dk_greatestBinding_60 hS hd σ ih x0 x1 x2 x4 x5 (u3) h_x0
          · refine rf_b2f c_24_54 rfl (decide_eq_false hc54) ?_
            refine rf_ild (i := 5) (Or.inl ⟨rfl, rfl⟩) c_24_57 rfl ?_
            exact rf_ret c_24_59 rfl rfl rfl rfl
def f_Dk_greatestBinding (σ : Mm) (x0 : Nat) (x1 : Int32) (x2 : Int32) (x3 : Int32) : Option Int32 := (f_Dk_standing σ x0 x3).bind fun v2 => f_Dk_greatestBinding_15 σ NN x0 x1 x2 v2 ((σ x0 8) - (1 : Int32))
set_option maxRecDepth 100000 in
set_option maxHeartbeats 4000000 in
theorem t_Dk_greatestBinding_e {X : Xt} {S : Sh} (hS : ShOK S) {d : Nat} (hd : 2 ≤ d + 1) (σ : Mm) (x0 : Nat) (x1 : Int32) (x2 : Int32) (x3 : Int32) (h_x0 : tgT x0 = 1) : Rf X S (emI σ) (f_Dk_greatestBinding σ x0 x1 x2 x3) (d + 1) 24 0 [.ref x0, .int x1, .int x2, .int x3, unset0, unset0] [] σ := by
  unfold f_Dk_greatestBinding
  refine rf_ald (i := 0) (Or.inr ⟨0, rfl, rfl, rfl⟩) c_24_0 rfl ?_
  refine rf_ild (i := 3) (Or.inr ⟨3, rfl, rfl, rfl⟩) c_24_1 rfl ?_
  refine rf_callI (as := [.ref x0, .int x3]) (kd := 1) c_24_2 rfl (by decide) rfl ml_1_60 (by decide) rfl (rcv_1 hS rfl rfl h_x0 (by decide)) (Nat.zero_le _) rfl rfl (t_Dk_standing hS (by omega) σ x0 x3 h_x0) (fun v2 => ?_)
  refine rf_ist (i := 4) (Or.inl ⟨rfl, rfl⟩) c_24_5 (Nat.le_of_ble_eq_true rfl) rfl ?_
  refine rf_ald (i := 0) (Or.inr ⟨0, rfl, rfl, rfl⟩) c_24_7 rfl ?_
  refine rf_geti hS c_24_8 rfl fl_1_42 rfl h_x0 ?_
  refine rf_iconst c_24_11 ki_1 ?_
  refine rf_isub c_24_12 ?_
  refine rf_ist (i := 5) (Or.inl ⟨rfl, rfl⟩) c_24_13 (Nat.le_of_ble_eq_true rfl) rfl ?_
  exact t_Dk_greatestBinding_15 hS hd σ  NN x0 x1 x2 v2 ((σ x0 8) - (1 : Int32)) (.int x3) h_x0
theorem t_Dk_greatestBinding {X : Xt} {S : Sh} (hS : ShOK S) {d : Nat} (hd : 2 ≤ d) (σ : Mm) (x0 : Nat) (x1 : Int32) (x2 : Int32) (x3 : Int32) (h_x0 : tgT x0 = 1) : Rf X S (emI σ) (f_Dk_greatestBinding σ x0 x1 x2 x3) d 24 0 [.ref x0, .int x1, .int x2, .int x3, unset0, unset0] [] σ := by
  obtain ⟨d1, rfl⟩ : ∃ d1, d = d1 + 1 := ⟨d - 1, by omega⟩
  exact t_Dk_greatestBinding_e hS hd σ x0 x1 x2 x3 h_x0
theorem c_26_0 : cd 26 0 = some (.aload_n 0, 1) := by decide +kernel
theorem c_26_1 : cd 26 1 = some (.getfield 15, 3) := by decide +kernel
theorem c_26_4 : cd 26 4 = some (.iload_n 1, 1) := by decide +kernel
theorem c_26_5 : cd 26 5 = some (.iaload, 1) := by decide +kernel
theorem c_26_6 : cd 26 6 = some (.aload_n 0, 1) := by decide +kernel
theorem c_26_7 : cd 26 7 = some (.getfield 15, 3) := by decide +kernel
theorem c_26_10 : cd 26 10 = some (.iload_n 2, 1) := by decide +kernel
theorem c_26_11 : cd 26 11 = some (.iaload, 1) := by decide +kernel
theorem c_26_12 : cd 26 12 = some (.if_icmp .ne (38), 3) := by decide +kernel
theorem c_26_15 : cd 26 15 = some (.aload_n 0, 1) := by decide +kernel
theorem c_26_16 : cd 26 16 = some (.getfield 18, 3) := by decide +kernel
theorem c_26_19 : cd 26 19 = some (.iload_n 1, 1) := by decide +kernel
theorem c_26_20 : cd 26 20 = some (.iaload, 1) := by decide +kernel
theorem c_26_21 : cd 26 21 = some (.aload_n 0, 1) := by decide +kernel
theorem c_26_22 : cd 26 22 = some (.getfield 18, 3) := by decide +kernel
theorem c_26_25 : cd 26 25 = some (.iload_n 2, 1) := by decide +kernel
theorem c_26_26 : cd 26 26 = some (.iaload, 1) := by decide +kernel
theorem c_26_27 : cd 26 27 = some (.if_icmp .eq (23), 3) := by decide +kernel
theorem c_26_30 : cd 26 30 = some (.aload_n 0, 1) := by decide +kernel
theorem c_26_31 : cd 26 31 = some (.getfield 24, 3) := by decide +kernel
theorem c_26_34 : cd 26 34 = some (.iload_n 1, 1) := by decide +kernel
theorem c_26_35 : cd 26 35 = some (.iaload, 1) := by decide +kernel
theorem c_26_36 : cd 26 36 = some (.aload_n 0, 1) := by decide +kernel
theorem c_26_37 : cd 26 37 = some (.getfield 24, 3) := by decide +kernel
theorem c_26_40 : cd 26 40 = some (.iload_n 2, 1) := by decide +kernel
theorem c_26_41 : cd 26 41 = some (.iaload, 1) := by decide +kernel
theorem c_26_42 : cd 26 42 = some (.iand, 1) := by decide +kernel
theorem c_26_43 : cd 26 43 = some (.ifCond .eq (7), 3) := by decide +kernel
theorem c_26_46 : cd 26 46 = some (.iconst (1), 1) := by decide +kernel
theorem c_26_47 : cd 26 47 = some (.goto (4), 3) := by decide +kernel
theorem c_26_50 : cd 26 50 = some (.iconst (0), 1) := by decide +kernel
theorem c_26_51 : cd 26 51 = some (.ireturn, 1) := by decide +kernel
def f_Dk_isAgainst_51 (σ : Mm) (y0 : Int32) : Option Int32 := if zB y0 = true then some y0 else none
set_option maxRecDepth 100000 in
set_option maxHeartbeats 4000000 in
theorem t_Dk_isAgainst_51 {X : Xt} {S : Sh} (hS : ShOK S) {d : Nat} (hd : 0 ≤ d) (σ : Mm) (y0 : Int32) (u0 : Value) (u1 : Value) (u2 : Value) : Rf X S (emI σ) (f_Dk_isAgainst_51 σ y0) d 26 51 [u0, u1, u2] [.int y0] σ := by
  unfold f_Dk_isAgainst_51
  refine rf_ite (fun hq51 => ?_) (fun _ => rf_none)
  exact rf_ret c_26_51 rfl (zB_n hq51) rfl rfl
def f_Dk_isAgainst_50 (σ : Mm) : Option Int32 := f_Dk_isAgainst_51 σ (0 : Int32)
set_option maxRecDepth 100000 in
set_option maxHeartbeats 4000000 in
theorem t_Dk_isAgainst_50 {X : Xt} {S : Sh} (hS : ShOK S) {d : Nat} (hd : 0 ≤ d) (σ : Mm) (u0 : Value) (u1 : Value) (u2 : Value) : Rf X S (emI σ) (f_Dk_isAgainst_50 σ) d 26 50 [u0, u1, u2] [] σ := by
  unfold f_Dk_isAgainst_50
  refine rf_iconst c_26_50 ki_0 ?_
  exact t_Dk_isAgainst_51 hS hd σ  (0 : Int32) (u0) (u1) (u2)
def f_Dk_isAgainst (σ : Mm) (x0 : Nat) (x1 : Int32) (x2 : Int32) : Option Int32 := if inbB x1 24 = true then if inbB x2 24 = true then (if ¬ (σ (rfT x0 1) (ix x1)) = (σ (rfT x0 1) (ix x2)) then (f_Dk_isAgainst_50 σ ) else (if inbB x1 24 = true then if inbB x2 24 = true then (if (σ (rfT x0 2) (ix x1)) = (σ (rfT x0 2) (ix x2)) then (f_Dk_isAgainst_50 σ ) else (if inbB x1 24 = true then if inbB x2 24 = true then (if ((σ (rfT x0 4) (ix x1)) &&& (σ (rfT x0 4) (ix x2))) = 0 then (f_Dk_isAgainst_50 σ ) else (f_Dk_isAgainst_51 σ (1 : Int32))) else none else none)) else none else none)) else none else none
set_option maxRecDepth 100000 in
set_option maxHeartbeats 4000000 in
theorem t_Dk_isAgainst {X : Xt} {S : Sh} (hS : ShOK S) {d : Nat} (hd : 0 ≤ d) (σ : Mm) (x0 : Nat) (x1 : Int32) (x2 : Int32) (h_x0 : tgT x0 = 1) : Rf X S (emI σ) (f_Dk_isAgainst σ x0 x1 x2) d 26 0 [.ref x0, .int x1, .int x2] [] σ := by
  unfold f_Dk_isAgainst
  refine rf_ald (i := 0) (Or.inr ⟨0, rfl, rfl, rfl⟩) c_26_0 rfl ?_
  refine rf_getr hS c_26_1 rfl fl_1_15 rfl h_x0 ?_
  refine rf_ild (i := 1) (Or.inr ⟨1, rfl, rfl, rfl⟩) c_26_4 rfl ?_
  refine rf_ite (fun hb5 => ?_) (fun _ => rf_none)
  refine rf_iald hS c_26_5 (tf_1_1 h_x0) (lf_1_1 h_x0) hb5 ?_
  refine rf_ald (i := 0) (Or.inr ⟨0, rfl, rfl, rfl⟩) c_26_6 rfl ?_
  refine rf_getr hS c_26_7 rfl fl_1_15 rfl h_x0 ?_
  refine rf_ild (i := 2) (Or.inr ⟨2, rfl, rfl, rfl⟩) c_26_10 rfl ?_
  refine rf_ite (fun hb11 => ?_) (fun _ => rf_none)
  refine rf_iald hS c_26_11 (tf_1_1 h_x0) (lf_1_1 h_x0) hb11 ?_
  refine rf_ite (fun hc12 => ?_) (fun hc12 => ?_)
  · refine rf_b2t c_26_12 rfl (decide_eq_true hc12) ?_
    exact t_Dk_isAgainst_50 hS hd σ  (.ref x0) (.int x1) (.int x2)
  · refine rf_b2f c_26_12 rfl (decide_eq_false hc12) ?_
    refine rf_ald (i := 0) (Or.inr ⟨0, rfl, rfl, rfl⟩) c_26_15 rfl ?_
    refine rf_getr hS c_26_16 rfl fl_1_18 rfl h_x0 ?_
    refine rf_ild (i := 1) (Or.inr ⟨1, rfl, rfl, rfl⟩) c_26_19 rfl ?_
    refine rf_ite (fun hb20 => ?_) (fun _ => rf_none)
    refine rf_iald hS c_26_20 (tf_1_2 h_x0) (lf_1_2 h_x0) hb20 ?_
    refine rf_ald (i := 0) (Or.inr ⟨0, rfl, rfl, rfl⟩) c_26_21 rfl ?_
    refine rf_getr hS c_26_22 rfl fl_1_18 rfl h_x0 ?_
    refine rf_ild (i := 2) (Or.inr ⟨2, rfl, rfl, rfl⟩) c_26_25 rfl ?_
    refine rf_ite (fun hb26 => ?_) (fun _ => rf_none)
    refine rf_iald hS c_26_26 (tf_1_2 h_x0) (lf_1_2 h_x0) hb26 ?_
    refine rf_ite (fun hc27 => ?_) (fun hc27 => ?_)
    · refine rf_b2t c_26_27 rfl (decide_eq_true hc27) ?_
      exact t_Dk_isAgainst_50 hS hd σ  (.ref x0) (.int x1) (.int x2)
    · refine rf_b2f c_26_27 rfl (decide_eq_false hc27) ?_
      refine rf_ald (i := 0) (Or.inr ⟨0, rfl, rfl, rfl⟩) c_26_30 rfl ?_
      refine rf_getr hS c_26_31 rfl fl_1_24 rfl h_x0 ?_
      refine rf_ild (i := 1) (Or.inr ⟨1, rfl, rfl, rfl⟩) c_26_34 rfl ?_
      refine rf_ite (fun hb35 => ?_) (fun _ => rf_none)
      refine rf_iald hS c_26_35 (tf_1_4 h_x0) (lf_1_4 h_x0) hb35 ?_
      refine rf_ald (i := 0) (Or.inr ⟨0, rfl, rfl, rfl⟩) c_26_36 rfl ?_
      refine rf_getr hS c_26_37 rfl fl_1_24 rfl h_x0 ?_
      refine rf_ild (i := 2) (Or.inr ⟨2, rfl, rfl, rfl⟩) c_26_40 rfl ?_
      refine rf_ite (fun hb41 => ?_) (fun _ => rf_none)
      refine rf_iald hS c_26_41 (tf_1_4 h_x0) (lf_1_4 h_x0) hb41 ?_
      refine rf_iand c_26_42 ?_
      refine rf_ite (fun hc43 => ?_) (fun hc43 => ?_)
      · refine rf_b1t c_26_43 rfl (decide_eq_true hc43) ?_
        exact t_Dk_isAgainst_50 hS hd σ  (.ref x0) (.int x1) (.int x2)
      · refine rf_b1f c_26_43 rfl (decide_eq_false hc43) ?_
        refine rf_iconst c_26_46 ki_1 ?_
        refine rf_goto c_26_47 rfl ?_
        exact t_Dk_isAgainst_51 hS hd σ  (1 : Int32) (.ref x0) (.int x1) (.int x2)
theorem c_25_0 : cd 25 0 = some (.aload_n 0, 1) := by decide +kernel
theorem c_25_1 : cd 25 1 = some (.iload_n 2, 1) := by decide +kernel
theorem c_25_2 : cd 25 2 = some (.invokevirtual 60, 3) := by decide +kernel
theorem c_25_5 : cd 25 5 = some (.istore_n 3, 1) := by decide +kernel
theorem c_25_6 : cd 25 6 = some (.iconst (0), 1) := by decide +kernel
theorem c_25_7 : cd 25 7 = some (.istore 4, 2) := by decide +kernel
theorem c_25_9 : cd 25 9 = some (.iconst (0), 1) := by decide +kernel
theorem c_25_10 : cd 25 10 = some (.istore 5, 2) := by decide +kernel
theorem c_25_12 : cd 25 12 = some (.iload 5, 2) := by decide +kernel
theorem c_25_14 : cd 25 14 = some (.aload_n 0, 1) := by decide +kernel
theorem c_25_15 : cd 25 15 = some (.getfield 42, 3) := by decide +kernel
theorem c_25_18 : cd 25 18 = some (.if_icmp .ge (76), 3) := by decide +kernel
theorem c_25_21 : cd 25 21 = some (.iload 5, 2) := by decide +kernel
theorem c_25_23 : cd 25 23 = some (.iconst (1), 1) := by decide +kernel
theorem c_25_24 : cd 25 24 = some (.iadd, 1) := by decide +kernel
theorem c_25_25 : cd 25 25 = some (.istore 6, 2) := by decide +kernel
theorem c_25_27 : cd 25 27 = some (.iload 6, 2) := by decide +kernel
theorem c_25_29 : cd 25 29 = some (.aload_n 0, 1) := by decide +kernel
theorem c_25_30 : cd 25 30 = some (.getfield 42, 3) := by decide +kernel
theorem c_25_33 : cd 25 33 = some (.if_icmp .ge (55), 3) := by decide +kernel
theorem c_25_36 : cd 25 36 = some (.iload_n 3, 1) := by decide +kernel
theorem c_25_37 : cd 25 37 = some (.iload 5, 2) := by decide +kernel
theorem c_25_39 : cd 25 39 = some (.ishr, 1) := by decide +kernel
theorem c_25_40 : cd 25 40 = some (.iload_n 3, 1) := by decide +kernel
theorem c_25_41 : cd 25 41 = some (.iload 6, 2) := by decide +kernel
theorem c_25_43 : cd 25 43 = some (.ishr, 1) := by decide +kernel
theorem c_25_44 : cd 25 44 = some (.iand, 1) := by decide +kernel
theorem c_25_45 : cd 25 45 = some (.iconst (1), 1) := by decide +kernel
theorem c_25_46 : cd 25 46 = some (.iand, 1) := by decide +kernel
theorem c_25_47 : cd 25 47 = some (.iconst (1), 1) := by decide +kernel
theorem c_25_48 : cd 25 48 = some (.if_icmp .ne (34), 3) := by decide +kernel
theorem c_25_51 : cd 25 51 = some (.aload_n 0, 1) := by decide +kernel
theorem c_25_52 : cd 25 52 = some (.iload 5, 2) := by decide +kernel
theorem c_25_54 : cd 25 54 = some (.iload 6, 2) := by decide +kernel
theorem c_25_56 : cd 25 56 = some (.invokevirtual 64, 3) := by decide +kernel
theorem c_25_59 : cd 25 59 = some (.ifCond .eq (23), 3) := by decide +kernel
theorem c_25_62 : cd 25 62 = some (.iload_n 1, 1) := by decide +kernel
theorem c_25_63 : cd 25 63 = some (.ifCond .eq (16), 3) := by decide +kernel
theorem c_25_66 : cd 25 66 = some (.iload_n 1, 1) := by decide +kernel
theorem c_25_67 : cd 25 67 = some (.iconst (1), 1) := by decide +kernel
theorem c_25_68 : cd 25 68 = some (.if_icmp .ne (8), 3) := by decide +kernel
theorem c_25_71 : cd 25 71 = some (.iload 5, 2) := by decide +kernel
theorem c_25_73 : cd 25 73 = some (.goto (5), 3) := by decide +kernel
theorem c_25_76 : cd 25 76 = some (.iload 6, 2) := by decide +kernel
theorem c_25_78 : cd 25 78 = some (.ireturn, 1) := by decide +kernel
theorem c_25_79 : cd 25 79 = some (.iinc 4 (1), 3) := by decide +kernel
theorem c_25_82 : cd 25 82 = some (.iinc 6 (1), 3) := by decide +kernel
theorem c_25_85 : cd 25 85 = some (.goto (-58), 3) := by decide +kernel
theorem c_25_88 : cd 25 88 = some (.iinc 5 (1), 3) := by decide +kernel
theorem c_25_91 : cd 25 91 = some (.goto (-79), 3) := by decide +kernel
theorem c_25_94 : cd 25 94 = some (.iload_n 1, 1) := by decide +kernel
theorem c_25_95 : cd 25 95 = some (.ifCond .ne (8), 3) := by decide +kernel
theorem c_25_98 : cd 25 98 = some (.iload 4, 2) := by decide +kernel
theorem c_25_100 : cd 25 100 = some (.goto (5), 3) := by decide +kernel
theorem c_25_103 : cd 25 103 = some (.ldc 51, 2) := by decide +kernel
theorem c_25_105 : cd 25 105 = some (.ireturn, 1) := by decide +kernel
def f_Dk_opposed_78 (σ : Mm) (y0 : Int32) : Option Int32 := some y0
set_option maxRecDepth 100000 in
set_option maxHeartbeats 4000000 in
theorem t_Dk_opposed_78 {X : Xt} {S : Sh} (hS : ShOK S) {d : Nat} (hd : 2 ≤ d + 1) (σ : Mm) (y0 : Int32) (u0 : Value) (u1 : Value) (u2 : Value) (u3 : Value) (u4 : Value) (u5 : Value) (u6 : Value) : Rf X S (emI σ) (f_Dk_opposed_78 σ y0) (d + 1) 25 78 [u0, u1, u2, u3, u4, u5, u6] [.int y0] σ := by
  unfold f_Dk_opposed_78
  exact rf_ret c_25_78 rfl rfl rfl rfl
def f_Dk_opposed_82 (σ : Mm) (k12 : Nat → Int32 → Int32 → Int32 → Int32 → Option (Int32)) (k27 : Nat → Int32 → Int32 → Int32 → Int32 → Int32 → Option (Int32)) (x0 : Nat) (x1 : Int32) (x3 : Int32) (x4 : Int32) (x5 : Int32) (x6 : Int32) : Option Int32 := k27 x0 x1 x3 x4 x5 (x6 + (1 : Int32))
set_option maxRecDepth 100000 in
set_option maxHeartbeats 4000000 in
theorem t_Dk_opposed_82 {X : Xt} {S : Sh} (hS : ShOK S) {d : Nat} (hd : 2 ≤ d + 1) (σ : Mm) {k12 : Nat → Int32 → Int32 → Int32 → Int32 → Option (Int32)} (hk12 : ∀ (x0 : Nat) (x1 : Int32) (x3 : Int32) (x4 : Int32) (x5 : Int32) (u2 : Value) (u6 : Value) (h_x0 : tgT x0 = 1), Rf X S (emI σ) (k12 x0 x1 x3 x4 x5) (d + 1) 25 12 [.ref x0, .int x1, u2, .int x3, .int x4, .int x5, u6] [] σ) {k27 : Nat → Int32 → Int32 → Int32 → Int32 → Int32 → Option (Int32)} (hk27 : ∀ (x0 : Nat) (x1 : Int32) (x3 : Int32) (x4 : Int32) (x5 : Int32) (x6 : Int32) (u2 : Value) (h_x0 : tgT x0 = 1), Rf X S (emI σ) (k27 x0 x1 x3 x4 x5 x6) (d + 1) 25 27 [.ref x0, .int x1, u2, .int x3, .int x4, .int x5, .int x6] [] σ) (x0 : Nat) (x1 : Int32) (x3 : Int32) (x4 : Int32) (x5 : Int32) (x6 : Int32) (u2 : Value) (h_x0 : tgT x0 = 1) : Rf X S (emI σ) (f_Dk_opposed_82 σ k12 k27 x0 x1 x3 x4 x5 x6) (d + 1) 25 82 [.ref x0, .int x1, u2, .int x3, .int x4, .int x5, .int x6] [] σ := by
  unfold f_Dk_opposed_82
  refine rf_iinc c_25_82 rfl ki_1 rfl ?_
  refine rf_goto c_25_85 rfl ?_
  exact hk27 x0 x1 x3 x4 x5 (x6 + (1 : Int32)) (u2) h_x0
def f_Dk_opposed_27 (σ : Mm) (k12 : Nat → Int32 → Int32 → Int32 → Int32 → Option (Int32)) : Nat → Nat → Int32 → Int32 → Int32 → Int32 → Int32 → Option Int32
  | 0, _, _, _, _, _, _ => none
  | n + 1, x0, x1, x3, x4, x5, x6 => (if (σ x0 8) ≤ x6 then (k12 x0 x1 x3 x4 (x5 + (1 : Int32))) else (if ¬ (((x3 >>> (x5 &&& 31)) &&& (x3 >>> (x6 &&& 31))) &&& (1 : Int32)) = (1 : Int32) then (f_Dk_opposed_82 σ k12 (f_Dk_opposed_27 σ k12 n) x0 x1 x3 x4 x5 x6) else ((f_Dk_isAgainst σ x0 x5 x6).bind fun v56 => (if v56 = 0 then (f_Dk_opposed_82 σ k12 (f_Dk_opposed_27 σ k12 n) x0 x1 x3 x4 x5 x6) else (if x1 = 0 then (f_Dk_opposed_82 σ k12 (f_Dk_opposed_27 σ k12 n) x0 x1 x3 (x4 + (1 : Int32)) x5 x6) else (if ¬ x1 = (1 : Int32) then (f_Dk_opposed_78 σ x6) else (f_Dk_opposed_78 σ x5)))))))
set_option maxRecDepth 100000 in
set_option maxHeartbeats 4000000 in
theorem t_Dk_opposed_27 {X : Xt} {S : Sh} (hS : ShOK S) {d : Nat} (hd : 2 ≤ d + 1) (σ : Mm) {k12 : Nat → Int32 → Int32 → Int32 → Int32 → Option (Int32)} (hk12 : ∀ (x0 : Nat) (x1 : Int32) (x3 : Int32) (x4 : Int32) (x5 : Int32) (u2 : Value) (u6 : Value) (h_x0 : tgT x0 = 1), Rf X S (emI σ) (k12 x0 x1 x3 x4 x5) (d + 1) 25 12 [.ref x0, .int x1, u2, .int x3, .int x4, .int x5, u6] [] σ) : ∀ (n : Nat) (x0 : Nat) (x1 : Int32) (x3 : Int32) (x4 : Int32) (x5 : Int32) (x6 : Int32) (u2 : Value) (h_x0 : tgT x0 = 1), Rf X S (emI σ) (f_Dk_opposed_27 σ k12 n x0 x1 x3 x4 x5 x6) (d + 1) 25 27 [.ref x0, .int x1, u2, .int x3, .int x4, .int x5, .int x6] [] σ := by
  intro n
  induction n with
  | zero => intro x0 x1 x3 x4 x5 x6 u2 h_x0; exact rf_none
  | succ n ih =>
    intro x0 x1 x3 x4 x5 x6 u2 h_x0
    rw [f_Dk_opposed_27]
    refine rf_ild (i := 6) (Or.inl ⟨rfl, rfl⟩) c_25_27 rfl ?_
    refine rf_ald (i := 0) (Or.inr ⟨0, rfl, rfl, rfl⟩) c_25_29 rfl ?_
    refine rf_geti hS c_25_30 rfl fl_1_42 rfl h_x0 ?_
    refine rf_ite (fun hc33 => ?_) (fun hc33 => ?_)
    · refine rf_b2t c_25_33 rfl (decide_eq_true hc33) ?_
      refine rf_iinc c_25_88 rfl ki_1 rfl ?_
      refine rf_goto c_25_91 rfl ?_
      exact hk12 x0 x1 x3 x4 (x5 + (1 : Int32)) (u2) (.int x6) h_x0
    · refine rf_b2f c_25_33 rfl (decide_eq_false hc33) ?_
      refine rf_ild (i := 3) (Or.inr ⟨3, rfl, rfl, rfl⟩) c_25_36 rfl ?_
      refine rf_ild (i := 5) (Or.inl ⟨rfl, rfl⟩) c_25_37 rfl ?_
      refine rf_ishr c_25_39 ?_
      refine rf_ild (i := 3) (Or.inr ⟨3, rfl, rfl, rfl⟩) c_25_40 rfl ?_
      refine rf_ild (i := 6) (Or.inl ⟨rfl, rfl⟩) c_25_41 rfl ?_
      refine rf_ishr c_25_43 ?_
      refine rf_iand c_25_44 ?_
      refine rf_iconst c_25_45 ki_1 ?_
      refine rf_iand c_25_46 ?_
      refine rf_iconst c_25_47 ki_1 ?_
      refine rf_ite (fun hc48 => ?_) (fun hc48 => ?_)
      · refine rf_b2t c_25_48 rfl (decide_eq_true hc48) ?_
        exact t_Dk_opposed_82 hS hd σ hk12 ih x0 x1 x3 x4 x5 x6 (u2) h_x0
      · refine rf_b2f c_25_48 rfl (decide_eq_false hc48) ?_
        refine rf_ald (i := 0) (Or.inr ⟨0, rfl, rfl, rfl⟩) c_25_51 rfl ?_
        refine rf_ild (i := 5) (Or.inl ⟨rfl, rfl⟩) c_25_52 rfl ?_
        refine rf_ild (i := 6) (Or.inl ⟨rfl, rfl⟩) c_25_54 rfl ?_
        refine rf_callI (as := [.ref x0, .int x5, .int x6]) (kd := 1) c_25_56 rfl (by decide) rfl ml_1_64 (by decide) rfl (rcv_1 hS rfl rfl h_x0 (by decide)) (Nat.zero_le _) rfl rfl (t_Dk_isAgainst hS (by omega) σ x0 x5 x6 h_x0) (fun v56 => ?_)
        refine rf_ite (fun hc59 => ?_) (fun hc59 => ?_)
        · refine rf_b1t c_25_59 rfl (decide_eq_true hc59) ?_
          exact t_Dk_opposed_82 hS hd σ hk12 ih x0 x1 x3 x4 x5 x6 (u2) h_x0
        · refine rf_b1f c_25_59 rfl (decide_eq_false hc59) ?_
          refine rf_ild (i := 1) (Or.inr ⟨1, rfl, rfl, rfl⟩) c_25_62 rfl ?_
          refine rf_ite (fun hc63 => ?_) (fun hc63 => ?_)
          · refine rf_b1t c_25_63 rfl (decide_eq_true hc63) ?_
            refine rf_iinc c_25_79 rfl ki_1 rfl ?_
            exact t_Dk_opposed_82 hS hd σ hk12 ih x0 x1 x3 (x4 + (1 : Int32)) x5 x6 (u2) h_x0
          · refine rf_b1f c_25_63 rfl (decide_eq_false hc63) ?_
            refine rf_ild (i := 1) (Or.inr ⟨1, rfl, rfl, rfl⟩) c_25_66 rfl ?_
            refine rf_iconst c_25_67 ki_1 ?_
            refine rf_ite (fun hc68 => ?_) (fun hc68 => ?_)
            · refine rf_b2t c_25_68 rfl (decide_eq_true hc68) ?_
              refine rf_ild (i := 6) (Or.inl ⟨rfl, rfl⟩) c_25_76 rfl ?_
              exact t_Dk_opposed_78 hS hd σ  x6 (.ref x0) (.int x1) (u2) (.int x3) (.int x4) (.int x5) (.int x6)
            · refine rf_b2f c_25_68 rfl (decide_eq_false hc68) ?_
              refine rf_ild (i := 5) (Or.inl ⟨rfl, rfl⟩) c_25_71 rfl ?_
              refine rf_goto c_25_73 rfl ?_
              exact t_Dk_opposed_78 hS hd σ  x5 (.ref x0) (.int x1) (u2) (.int x3) (.int x4) (.int x5) (.int x6)
def f_Dk_opposed_105 (σ : Mm) (y0 : Int32) : Option Int32 := some y0
set_option maxRecDepth 100000 in
set_option maxHeartbeats 4000000 in
theorem t_Dk_opposed_105 {X : Xt} {S : Sh} (hS : ShOK S) {d : Nat} (hd : 2 ≤ d + 1) (σ : Mm) (y0 : Int32) (u0 : Value) (u1 : Value) (u2 : Value) (u3 : Value) (u4 : Value) (u5 : Value) (u6 : Value) : Rf X S (emI σ) (f_Dk_opposed_105 σ y0) (d + 1) 25 105 [u0, u1, u2, u3, u4, u5, u6] [.int y0] σ := by
  unfold f_Dk_opposed_105
  exact rf_ret c_25_105 rfl rfl rfl rfl
def f_Dk_opposed_12 (σ : Mm) : Nat → Nat → Int32 → Int32 → Int32 → Int32 → Option Int32
  | 0, _, _, _, _, _ => none
  | n + 1, x0, x1, x3, x4, x5 => (if (σ x0 8) ≤ x5 then (if ¬ x1 = 0 then (f_Dk_opposed_105 σ (-1000000005 : Int32)) else (f_Dk_opposed_105 σ x4)) else (f_Dk_opposed_27 σ (f_Dk_opposed_12 σ n) NN x0 x1 x3 x4 x5 (x5 + (1 : Int32))))
set_option maxRecDepth 100000 in
set_option maxHeartbeats 4000000 in
theorem t_Dk_opposed_12 {X : Xt} {S : Sh} (hS : ShOK S) {d : Nat} (hd : 2 ≤ d + 1) (σ : Mm) : ∀ (n : Nat) (x0 : Nat) (x1 : Int32) (x3 : Int32) (x4 : Int32) (x5 : Int32) (u2 : Value) (u6 : Value) (h_x0 : tgT x0 = 1), Rf X S (emI σ) (f_Dk_opposed_12 σ n x0 x1 x3 x4 x5) (d + 1) 25 12 [.ref x0, .int x1, u2, .int x3, .int x4, .int x5, u6] [] σ := by
  intro n
  induction n with
  | zero => intro x0 x1 x3 x4 x5 u2 u6 h_x0; exact rf_none
  | succ n ih =>
    intro x0 x1 x3 x4 x5 u2 u6 h_x0
    rw [f_Dk_opposed_12]
    refine rf_ild (i := 5) (Or.inl ⟨rfl, rfl⟩) c_25_12 rfl ?_
    refine rf_ald (i := 0) (Or.inr ⟨0, rfl, rfl, rfl⟩) c_25_14 rfl ?_
    refine rf_geti hS c_25_15 rfl fl_1_42 rfl h_x0 ?_
    refine rf_ite (fun hc18 => ?_) (fun hc18 => ?_)
    · refine rf_b2t c_25_18 rfl (decide_eq_true hc18) ?_
      refine rf_ild (i := 1) (Or.inr ⟨1, rfl, rfl, rfl⟩) c_25_94 rfl ?_
      refine rf_ite (fun hc95 => ?_) (fun hc95 => ?_)
      · refine rf_b1t c_25_95 rfl (decide_eq_true hc95) ?_
        refine rf_ldc (Or.inl ⟨rfl, rfl⟩) c_25_103 rfl kl_1_51 ?_
        exact t_Dk_opposed_105 hS hd σ  (-1000000005 : Int32) (.ref x0) (.int x1) (u2) (.int x3) (.int x4) (.int x5) (u6)
      · refine rf_b1f c_25_95 rfl (decide_eq_false hc95) ?_
        refine rf_ild (i := 4) (Or.inl ⟨rfl, rfl⟩) c_25_98 rfl ?_
        refine rf_goto c_25_100 rfl ?_
        exact t_Dk_opposed_105 hS hd σ  x4 (.ref x0) (.int x1) (u2) (.int x3) (.int x4) (.int x5) (u6)
    · refine rf_b2f c_25_18 rfl (decide_eq_false hc18) ?_
      refine rf_ild (i := 5) (Or.inl ⟨rfl, rfl⟩) c_25_21 rfl ?_
      refine rf_iconst c_25_23 ki_1 ?_
      refine rf_iadd c_25_24 ?_
      refine rf_ist (i := 6) (Or.inl ⟨rfl, rfl⟩) c_25_25 (Nat.le_of_ble_eq_true rfl) rfl ?_
      exact t_Dk_opposed_27 hS hd σ ih NN x0 x1 x3 x4 x5 (x5 + (1 : Int32)) (u2) h_x0
def f_Dk_opposed (σ : Mm) (x0 : Nat) (x1 : Int32) (x2 : Int32) : Option Int32 := (f_Dk_standing σ x0 x2).bind fun v2 => f_Dk_opposed_12 σ NN x0 x1 v2 (0 : Int32) (0 : Int32)
set_option maxRecDepth 100000 in
set_option maxHeartbeats 4000000 in
theorem t_Dk_opposed_e {X : Xt} {S : Sh} (hS : ShOK S) {d : Nat} (hd : 2 ≤ d + 1) (σ : Mm) (x0 : Nat) (x1 : Int32) (x2 : Int32) (h_x0 : tgT x0 = 1) : Rf X S (emI σ) (f_Dk_opposed σ x0 x1 x2) (d + 1) 25 0 [.ref x0, .int x1, .int x2, unset0, unset0, unset0, unset0] [] σ := by
  unfold f_Dk_opposed
  refine rf_ald (i := 0) (Or.inr ⟨0, rfl, rfl, rfl⟩) c_25_0 rfl ?_
  refine rf_ild (i := 2) (Or.inr ⟨2, rfl, rfl, rfl⟩) c_25_1 rfl ?_
  refine rf_callI (as := [.ref x0, .int x2]) (kd := 1) c_25_2 rfl (by decide) rfl ml_1_60 (by decide) rfl (rcv_1 hS rfl rfl h_x0 (by decide)) (Nat.zero_le _) rfl rfl (t_Dk_standing hS (by omega) σ x0 x2 h_x0) (fun v2 => ?_)
  refine rf_ist (i := 3) (Or.inr ⟨3, rfl, rfl, rfl⟩) c_25_5 (Nat.le_of_ble_eq_true rfl) rfl ?_
  refine rf_iconst c_25_6 ki_0 ?_
  refine rf_ist (i := 4) (Or.inl ⟨rfl, rfl⟩) c_25_7 (Nat.le_of_ble_eq_true rfl) rfl ?_
  refine rf_iconst c_25_9 ki_0 ?_
  refine rf_ist (i := 5) (Or.inl ⟨rfl, rfl⟩) c_25_10 (Nat.le_of_ble_eq_true rfl) rfl ?_
  exact t_Dk_opposed_12 hS hd σ  NN x0 x1 v2 (0 : Int32) (0 : Int32) (.int x2) (unset0) h_x0
theorem t_Dk_opposed {X : Xt} {S : Sh} (hS : ShOK S) {d : Nat} (hd : 2 ≤ d) (σ : Mm) (x0 : Nat) (x1 : Int32) (x2 : Int32) (h_x0 : tgT x0 = 1) : Rf X S (emI σ) (f_Dk_opposed σ x0 x1 x2) d 25 0 [.ref x0, .int x1, .int x2, unset0, unset0, unset0, unset0] [] σ := by
  obtain ⟨d1, rfl⟩ : ∃ d1, d = d1 + 1 := ⟨d - 1, by omega⟩
  exact t_Dk_opposed_e hS hd σ x0 x1 x2 h_x0
theorem c_28_0 : cd 28 0 = some (.aload_n 1, 1) := by decide +kernel
theorem c_28_1 : cd 28 1 = some (.getfield 9, 3) := by decide +kernel
theorem c_28_4 : cd 28 4 = some (.iconst (0), 1) := by decide +kernel
theorem c_28_5 : cd 28 5 = some (.aload_n 0, 1) := by decide +kernel
theorem c_28_6 : cd 28 6 = some (.getfield 9, 3) := by decide +kernel
theorem c_28_9 : cd 28 9 = some (.iconst (0), 1) := by decide +kernel
theorem c_28_10 : cd 28 10 = some (.bipush (40), 2) := by decide +kernel
theorem c_28_12 : cd 28 12 = some (.invokestatic 21, 3) := by decide +kernel
theorem c_28_15 : cd 28 15 = some (.aload_n 1, 1) := by decide +kernel
theorem c_28_16 : cd 28 16 = some (.getfield 15, 3) := by decide +kernel
theorem c_28_19 : cd 28 19 = some (.iconst (0), 1) := by decide +kernel
theorem c_28_20 : cd 28 20 = some (.aload_n 0, 1) := by decide +kernel
theorem c_28_21 : cd 28 21 = some (.getfield 15, 3) := by decide +kernel
theorem c_28_24 : cd 28 24 = some (.iconst (0), 1) := by decide +kernel
theorem c_28_25 : cd 28 25 = some (.bipush (40), 2) := by decide +kernel
theorem c_28_27 : cd 28 27 = some (.invokestatic 21, 3) := by decide +kernel
theorem c_28_30 : cd 28 30 = some (.aload_n 1, 1) := by decide +kernel
theorem c_28_31 : cd 28 31 = some (.getfield 18, 3) := by decide +kernel
theorem c_28_34 : cd 28 34 = some (.iconst (0), 1) := by decide +kernel
theorem c_28_35 : cd 28 35 = some (.aload_n 0, 1) := by decide +kernel
theorem c_28_36 : cd 28 36 = some (.getfield 18, 3) := by decide +kernel
theorem c_28_39 : cd 28 39 = some (.iconst (0), 1) := by decide +kernel
theorem c_28_40 : cd 28 40 = some (.bipush (40), 2) := by decide +kernel
theorem c_28_42 : cd 28 42 = some (.invokestatic 21, 3) := by decide +kernel
theorem c_28_45 : cd 28 45 = some (.aload_n 0, 1) := by decide +kernel
theorem c_28_46 : cd 28 46 = some (.aload_n 1, 1) := by decide +kernel
theorem c_28_47 : cd 28 47 = some (.getfield 27, 3) := by decide +kernel
theorem c_28_50 : cd 28 50 = some (.putfield 27, 3) := by decide +kernel
theorem c_28_53 : cd 28 53 = some (.aload_n 0, 1) := by decide +kernel
theorem c_28_54 : cd 28 54 = some (.aload_n 1, 1) := by decide +kernel
theorem c_28_55 : cd 28 55 = some (.getfield 31, 3) := by decide +kernel
theorem c_28_58 : cd 28 58 = some (.putfield 31, 3) := by decide +kernel
theorem c_28_61 : cd 28 61 = some (.return_, 1) := by decide +kernel
def f_Ho_become (x0 : Nat) (x1 : Nat) (σ : Mm) : Option Mm := nmM (cp2 σ (rfT x1 0) (ix (0 : Int32)) (rfT x0 0) (ix (0 : Int32)) (ix (40 : Int32))) fun σ12 => nmM (cp2 σ12 (rfT x1 1) (ix (0 : Int32)) (rfT x0 1) (ix (0 : Int32)) (ix (40 : Int32))) fun σ27 => nmM (cp2 σ27 (rfT x1 2) (ix (0 : Int32)) (rfT x0 2) (ix (0 : Int32)) (ix (40 : Int32))) fun σ42 => nmM (up2 σ42 x0 3 (σ42 x1 3)) fun σ50 => nmM (up2 σ50 x0 4 (σ50 x1 4)) fun σ58 => some σ58
set_option maxRecDepth 100000 in
set_option maxHeartbeats 4000000 in
theorem t_Ho_become {X : Xt} {S : Sh} (hS : ShOK S) {d : Nat} (hd : 6 ≤ d) (x0 : Nat) (x1 : Nat) (σ : Mm) (h_x0 : tgT x0 = 2) (h_x1 : tgT x1 = 2) : Rf X S emV (f_Ho_become x0 x1 σ) d 28 0 [.ref x0, .ref x1] [] σ := by
  unfold f_Ho_become
  refine rf_ald (i := 1) (Or.inr ⟨1, rfl, rfl, rfl⟩) c_28_0 rfl ?_
  refine rf_getr hS c_28_1 rfl fl_2_9 rfl h_x1 ?_
  refine rf_iconst c_28_4 ki_0 ?_
  refine rf_ald (i := 0) (Or.inr ⟨0, rfl, rfl, rfl⟩) c_28_5 rfl ?_
  refine rf_getr hS c_28_6 rfl fl_2_9 rfl h_x0 ?_
  refine rf_iconst c_28_9 ki_0 ?_
  refine rf_bipush c_28_10 kb_40 ?_
  refine rf_copy hS c_28_12 rfl ml_2_21 (by omega) (Nat.zero_le _) (tf_2_0 h_x1) (tf_2_0 h_x0) (lf_2_0 h_x1) (lf_2_0 h_x0) (by decide) ?_
  refine rf_nm (fun σ12 => ?_)
  refine rf_ald (i := 1) (Or.inr ⟨1, rfl, rfl, rfl⟩) c_28_15 rfl ?_
  refine rf_getr hS c_28_16 rfl fl_2_15 rfl h_x1 ?_
  refine rf_iconst c_28_19 ki_0 ?_
  refine rf_ald (i := 0) (Or.inr ⟨0, rfl, rfl, rfl⟩) c_28_20 rfl ?_
  refine rf_getr hS c_28_21 rfl fl_2_15 rfl h_x0 ?_
  refine rf_iconst c_28_24 ki_0 ?_
  refine rf_bipush c_28_25 kb_40 ?_
  refine rf_copy hS c_28_27 rfl ml_2_21 (by omega) (Nat.zero_le _) (tf_2_1 h_x1) (tf_2_1 h_x0) (lf_2_1 h_x1) (lf_2_1 h_x0) (by decide) ?_
  refine rf_nm (fun σ27 => ?_)
  refine rf_ald (i := 1) (Or.inr ⟨1, rfl, rfl, rfl⟩) c_28_30 rfl ?_
  refine rf_getr hS c_28_31 rfl fl_2_18 rfl h_x1 ?_
  refine rf_iconst c_28_34 ki_0 ?_
  refine rf_ald (i := 0) (Or.inr ⟨0, rfl, rfl, rfl⟩) c_28_35 rfl ?_
  refine rf_getr hS c_28_36 rfl fl_2_18 rfl h_x0 ?_
  refine rf_iconst c_28_39 ki_0 ?_
  refine rf_bipush c_28_40 kb_40 ?_
  refine rf_copy hS c_28_42 rfl ml_2_21 (by omega) (Nat.zero_le _) (tf_2_2 h_x1) (tf_2_2 h_x0) (lf_2_2 h_x1) (lf_2_2 h_x0) (by decide) ?_
  refine rf_nm (fun σ42 => ?_)
  refine rf_ald (i := 0) (Or.inr ⟨0, rfl, rfl, rfl⟩) c_28_45 rfl ?_
  refine rf_ald (i := 1) (Or.inr ⟨1, rfl, rfl, rfl⟩) c_28_46 rfl ?_
  refine rf_geti hS c_28_47 rfl fl_2_27 rfl h_x1 ?_
  refine rf_puti hS c_28_50 rfl fl_2_27 rfl rfl rfl rfl h_x0 ?_
  refine rf_nm (fun σ50 => ?_)
  refine rf_ald (i := 0) (Or.inr ⟨0, rfl, rfl, rfl⟩) c_28_53 rfl ?_
  refine rf_ald (i := 1) (Or.inr ⟨1, rfl, rfl, rfl⟩) c_28_54 rfl ?_
  refine rf_geti hS c_28_55 rfl fl_2_31 rfl h_x1 ?_
  refine rf_puti hS c_28_58 rfl fl_2_31 rfl rfl rfl rfl h_x0 ?_
  refine rf_nm (fun σ58 => ?_)
  exact rf_vret c_28_61 rfl rfl
theorem c_29_0 : cd 29 0 = some (.aload_n 0, 1) := by decide +kernel
theorem c_29_1 : cd 29 1 = some (.getfield 27, 3) := by decide +kernel
theorem c_29_4 : cd 29 4 = some (.bipush (8), 2) := by decide +kernel
theorem c_29_6 : cd 29 6 = some (.if_icmp .lt (6), 3) := by decide +kernel
theorem c_29_9 : cd 29 9 = some (.ldc 34, 2) := by decide +kernel
theorem c_29_11 : cd 29 11 = some (.ireturn, 1) := by decide +kernel
theorem c_29_12 : cd 29 12 = some (.aload_n 0, 1) := by decide +kernel
theorem c_29_13 : cd 29 13 = some (.dup, 1) := by decide +kernel
theorem c_29_14 : cd 29 14 = some (.getfield 27, 3) := by decide +kernel
theorem c_29_17 : cd 29 17 = some (.iconst (1), 1) := by decide +kernel
theorem c_29_18 : cd 29 18 = some (.iadd, 1) := by decide +kernel
theorem c_29_19 : cd 29 19 = some (.putfield 27, 3) := by decide +kernel
theorem c_29_22 : cd 29 22 = some (.aload_n 0, 1) := by decide +kernel
theorem c_29_23 : cd 29 23 = some (.getfield 27, 3) := by decide +kernel
theorem c_29_26 : cd 29 26 = some (.iconst (1), 1) := by decide +kernel
theorem c_29_27 : cd 29 27 = some (.isub, 1) := by decide +kernel
theorem c_29_28 : cd 29 28 = some (.ireturn, 1) := by decide +kernel
def f_Ho_addOffice (x0 : Nat) (σ : Mm) : Option (Int32 × Mm) := (if (σ x0 3) < (8 : Int32) then (nmM (up2 σ x0 3 ((σ x0 3) + (1 : Int32))) fun σ19 => some (((σ19 x0 3) - (1 : Int32)), σ19)) else (some ((-1000000003 : Int32), σ)))
set_option maxRecDepth 100000 in
set_option maxHeartbeats 4000000 in
theorem t_Ho_addOffice {X : Xt} {S : Sh} (hS : ShOK S) {d : Nat} (hd : 0 ≤ d) (x0 : Nat) (σ : Mm) (h_x0 : tgT x0 = 2) : Rf X S emM (f_Ho_addOffice x0 σ) d 29 0 [.ref x0] [] σ := by
  unfold f_Ho_addOffice
  refine rf_ald (i := 0) (Or.inr ⟨0, rfl, rfl, rfl⟩) c_29_0 rfl ?_
  refine rf_geti hS c_29_1 rfl fl_2_27 rfl h_x0 ?_
  refine rf_bipush c_29_4 kb_8 ?_
  refine rf_ite (fun hc6 => ?_) (fun hc6 => ?_)
  · refine rf_b2t c_29_6 rfl (decide_eq_true hc6) ?_
    refine rf_ald (i := 0) (Or.inr ⟨0, rfl, rfl, rfl⟩) c_29_12 rfl ?_
    refine rf_dup c_29_13 rfl ?_
    refine rf_geti hS c_29_14 rfl fl_2_27 rfl h_x0 ?_
    refine rf_iconst c_29_17 ki_1 ?_
    refine rf_iadd c_29_18 ?_
    refine rf_puti hS c_29_19 rfl fl_2_27 rfl rfl rfl rfl h_x0 ?_
    refine rf_nm (fun σ19 => ?_)
    refine rf_ald (i := 0) (Or.inr ⟨0, rfl, rfl, rfl⟩) c_29_22 rfl ?_
    refine rf_geti hS c_29_23 rfl fl_2_27 rfl h_x0 ?_
    refine rf_iconst c_29_26 ki_1 ?_
    refine rf_isub c_29_27 ?_
    exact rf_ret c_29_28 rfl rfl rfl rfl
  · refine rf_b2f c_29_6 rfl (decide_eq_false hc6) ?_
    refine rf_ldc (Or.inl ⟨rfl, rfl⟩) c_29_9 rfl kl_2_34 ?_
    exact rf_ret c_29_11 rfl rfl rfl rfl
theorem c_31_0 : cd 31 0 = some (.ldc 39, 2) := by decide +kernel
theorem c_31_2 : cd 31 2 = some (.istore_n 3, 1) := by decide +kernel
theorem c_31_3 : cd 31 3 = some (.iconst (0), 1) := by decide +kernel
theorem c_31_4 : cd 31 4 = some (.istore 4, 2) := by decide +kernel
theorem c_31_6 : cd 31 6 = some (.iload 4, 2) := by decide +kernel
theorem c_31_8 : cd 31 8 = some (.aload_n 0, 1) := by decide +kernel
theorem c_31_9 : cd 31 9 = some (.getfield 31, 3) := by decide +kernel
theorem c_31_12 : cd 31 12 = some (.if_icmp .ge (39), 3) := by decide +kernel
theorem c_31_15 : cd 31 15 = some (.aload_n 0, 1) := by decide +kernel
theorem c_31_16 : cd 31 16 = some (.getfield 9, 3) := by decide +kernel
theorem c_31_19 : cd 31 19 = some (.iload 4, 2) := by decide +kernel
theorem c_31_21 : cd 31 21 = some (.iaload, 1) := by decide +kernel
theorem c_31_22 : cd 31 22 = some (.iload_n 1, 1) := by decide +kernel
theorem c_31_23 : cd 31 23 = some (.if_icmp .ne (22), 3) := by decide +kernel
theorem c_31_26 : cd 31 26 = some (.aload_n 0, 1) := by decide +kernel
theorem c_31_27 : cd 31 27 = some (.getfield 18, 3) := by decide +kernel
theorem c_31_30 : cd 31 30 = some (.iload 4, 2) := by decide +kernel
theorem c_31_32 : cd 31 32 = some (.iaload, 1) := by decide +kernel
theorem c_31_33 : cd 31 33 = some (.iload_n 2, 1) := by decide +kernel
theorem c_31_34 : cd 31 34 = some (.if_icmp .gt (11), 3) := by decide +kernel
theorem c_31_37 : cd 31 37 = some (.aload_n 0, 1) := by decide +kernel
theorem c_31_38 : cd 31 38 = some (.getfield 15, 3) := by decide +kernel
theorem c_31_41 : cd 31 41 = some (.iload 4, 2) := by decide +kernel
theorem c_31_43 : cd 31 43 = some (.iaload, 1) := by decide +kernel
theorem c_31_44 : cd 31 44 = some (.istore_n 3, 1) := by decide +kernel
theorem c_31_45 : cd 31 45 = some (.iinc 4 (1), 3) := by decide +kernel
theorem c_31_48 : cd 31 48 = some (.goto (-42), 3) := by decide +kernel
theorem c_31_51 : cd 31 51 = some (.iload_n 3, 1) := by decide +kernel
theorem c_31_52 : cd 31 52 = some (.ireturn, 1) := by decide +kernel
def f_Ho_holderOn_45 (σ : Mm) (k6 : Nat → Int32 → Int32 → Int32 → Int32 → Option (Int32)) (x0 : Nat) (x1 : Int32) (x2 : Int32) (x3 : Int32) (x4 : Int32) : Option Int32 := k6 x0 x1 x2 x3 (x4 + (1 : Int32))
set_option maxRecDepth 100000 in
set_option maxHeartbeats 4000000 in
theorem t_Ho_holderOn_45 {X : Xt} {S : Sh} (hS : ShOK S) {d : Nat} (hd : 0 ≤ d) (σ : Mm) {k6 : Nat → Int32 → Int32 → Int32 → Int32 → Option (Int32)} (hk6 : ∀ (x0 : Nat) (x1 : Int32) (x2 : Int32) (x3 : Int32) (x4 : Int32) (h_x0 : tgT x0 = 2), Rf X S (emI σ) (k6 x0 x1 x2 x3 x4) d 31 6 [.ref x0, .int x1, .int x2, .int x3, .int x4] [] σ) (x0 : Nat) (x1 : Int32) (x2 : Int32) (x3 : Int32) (x4 : Int32) (h_x0 : tgT x0 = 2) : Rf X S (emI σ) (f_Ho_holderOn_45 σ k6 x0 x1 x2 x3 x4) d 31 45 [.ref x0, .int x1, .int x2, .int x3, .int x4] [] σ := by
  unfold f_Ho_holderOn_45
  refine rf_iinc c_31_45 rfl ki_1 rfl ?_
  refine rf_goto c_31_48 rfl ?_
  exact hk6 x0 x1 x2 x3 (x4 + (1 : Int32)) h_x0
def f_Ho_holderOn_6 (σ : Mm) : Nat → Nat → Int32 → Int32 → Int32 → Int32 → Option Int32
  | 0, _, _, _, _, _ => none
  | n + 1, x0, x1, x2, x3, x4 => (if (σ x0 4) ≤ x4 then (some x3) else (if inbB x4 40 = true then (if ¬ (σ (rfT x0 0) (ix x4)) = x1 then (f_Ho_holderOn_45 σ (f_Ho_holderOn_6 σ n) x0 x1 x2 x3 x4) else (if inbB x4 40 = true then (if x2 < (σ (rfT x0 2) (ix x4)) then (f_Ho_holderOn_45 σ (f_Ho_holderOn_6 σ n) x0 x1 x2 x3 x4) else (if inbB x4 40 = true then f_Ho_holderOn_45 σ (f_Ho_holderOn_6 σ n) x0 x1 x2 (σ (rfT x0 1) (ix x4)) x4 else none)) else none)) else none))
set_option maxRecDepth 100000 in
set_option maxHeartbeats 4000000 in
theorem t_Ho_holderOn_6 {X : Xt} {S : Sh} (hS : ShOK S) {d : Nat} (hd : 0 ≤ d) (σ : Mm) : ∀ (n : Nat) (x0 : Nat) (x1 : Int32) (x2 : Int32) (x3 : Int32) (x4 : Int32) (h_x0 : tgT x0 = 2), Rf X S (emI σ) (f_Ho_holderOn_6 σ n x0 x1 x2 x3 x4) d 31 6 [.ref x0, .int x1, .int x2, .int x3, .int x4] [] σ := by
  intro n
  induction n with
  | zero => intro x0 x1 x2 x3 x4 h_x0; exact rf_none
  | succ n ih =>
    intro x0 x1 x2 x3 x4 h_x0
    rw [f_Ho_holderOn_6]
    refine rf_ild (i := 4) (Or.inl ⟨rfl, rfl⟩) c_31_6 rfl ?_
    refine rf_ald (i := 0) (Or.inr ⟨0, rfl, rfl, rfl⟩) c_31_8 rfl ?_
    refine rf_geti hS c_31_9 rfl fl_2_31 rfl h_x0 ?_
    refine rf_ite (fun hc12 => ?_) (fun hc12 => ?_)
    · refine rf_b2t c_31_12 rfl (decide_eq_true hc12) ?_
      refine rf_ild (i := 3) (Or.inr ⟨3, rfl, rfl, rfl⟩) c_31_51 rfl ?_
      exact rf_ret c_31_52 rfl rfl rfl rfl
    · refine rf_b2f c_31_12 rfl (decide_eq_false hc12) ?_
      refine rf_ald (i := 0) (Or.inr ⟨0, rfl, rfl, rfl⟩) c_31_15 rfl ?_
      refine rf_getr hS c_31_16 rfl fl_2_9 rfl h_x0 ?_
      refine rf_ild (i := 4) (Or.inl ⟨rfl, rfl⟩) c_31_19 rfl ?_
      refine rf_ite (fun hb21 => ?_) (fun _ => rf_none)
      refine rf_iald hS c_31_21 (tf_2_0 h_x0) (lf_2_0 h_x0) hb21 ?_
      refine rf_ild (i := 1) (Or.inr ⟨1, rfl, rfl, rfl⟩) c_31_22 rfl ?_
      refine rf_ite (fun hc23 => ?_) (fun hc23 => ?_)
      · refine rf_b2t c_31_23 rfl (decide_eq_true hc23) ?_
        exact t_Ho_holderOn_45 hS hd σ ih x0 x1 x2 x3 x4 h_x0
      · refine rf_b2f c_31_23 rfl (decide_eq_false hc23) ?_
        refine rf_ald (i := 0) (Or.inr ⟨0, rfl, rfl, rfl⟩) c_31_26 rfl ?_
        refine rf_getr hS c_31_27 rfl fl_2_18 rfl h_x0 ?_
        refine rf_ild (i := 4) (Or.inl ⟨rfl, rfl⟩) c_31_30 rfl ?_
        refine rf_ite (fun hb32 => ?_) (fun _ => rf_none)
        refine rf_iald hS c_31_32 (tf_2_2 h_x0) (lf_2_2 h_x0) hb32 ?_
        refine rf_ild (i := 2) (Or.inr ⟨2, rfl, rfl, rfl⟩) c_31_33 rfl ?_
        refine rf_ite (fun hc34 => ?_) (fun hc34 => ?_)
        · refine rf_b2t c_31_34 rfl (decide_eq_true hc34) ?_
          exact t_Ho_holderOn_45 hS hd σ ih x0 x1 x2 x3 x4 h_x0
        · refine rf_b2f c_31_34 rfl (decide_eq_false hc34) ?_
          refine rf_ald (i := 0) (Or.inr ⟨0, rfl, rfl, rfl⟩) c_31_37 rfl ?_
          refine rf_getr hS c_31_38 rfl fl_2_15 rfl h_x0 ?_
          refine rf_ild (i := 4) (Or.inl ⟨rfl, rfl⟩) c_31_41 rfl ?_
          refine rf_ite (fun hb43 => ?_) (fun _ => rf_none)
          refine rf_iald hS c_31_43 (tf_2_1 h_x0) (lf_2_1 h_x0) hb43 ?_
          refine rf_ist (i := 3) (Or.inr ⟨3, rfl, rfl, rfl⟩) c_31_44 (Nat.le_of_ble_eq_true rfl) rfl ?_
          exact t_Ho_holderOn_45 hS hd σ ih x0 x1 x2 (σ (rfT x0 1) (ix x4)) x4 h_x0
def f_Ho_holderOn (σ : Mm) (x0 : Nat) (x1 : Int32) (x2 : Int32) : Option Int32 := f_Ho_holderOn_6 σ NN x0 x1 x2 (-1000000005 : Int32) (0 : Int32)
set_option maxRecDepth 100000 in
set_option maxHeartbeats 4000000 in
theorem t_Ho_holderOn {X : Xt} {S : Sh} (hS : ShOK S) {d : Nat} (hd : 0 ≤ d) (σ : Mm) (x0 : Nat) (x1 : Int32) (x2 : Int32) (h_x0 : tgT x0 = 2) : Rf X S (emI σ) (f_Ho_holderOn σ x0 x1 x2) d 31 0 [.ref x0, .int x1, .int x2, unset0, unset0] [] σ := by
  unfold f_Ho_holderOn
  refine rf_ldc (Or.inl ⟨rfl, rfl⟩) c_31_0 rfl kl_2_39 ?_
  refine rf_ist (i := 3) (Or.inr ⟨3, rfl, rfl, rfl⟩) c_31_2 (Nat.le_of_ble_eq_true rfl) rfl ?_
  refine rf_iconst c_31_3 ki_0 ?_
  refine rf_ist (i := 4) (Or.inl ⟨rfl, rfl⟩) c_31_4 (Nat.le_of_ble_eq_true rfl) rfl ?_
  exact t_Ho_holderOn_6 hS hd σ  NN x0 x1 x2 (-1000000005 : Int32) (0 : Int32) h_x0
