/-! methods: Ct_current Ct_bound Ct_against Ct_law Ct_more Ct_run Ct_beside Ct_copy Ct_comesBack Ct_out Ct_suspect Ct_look Ct_knows Ct_open Ct_group Ct_reckoned Ct_register Ct_note Ct_carry Ct_isRoomSeat Ct_layDown Ct_lay Ct_ask Ct_item Ct_rest Ct_tell Ct_check Ct_keep Ct_back Ct_count Mo_in Mo_orNone Mo_bits Mo_firstBit -/
theorem c_147_0 : cd 147 0 = some (.iload_n 1, 1) := by decide +kernel
theorem c_147_1 : cd 147 1 = some (.invokestatic 133, 3) := by decide +kernel
theorem c_147_4 : cd 147 4 = some (.ifCond .eq (10), 3) := by decide +kernel
theorem c_147_7 : cd 147 7 = some (.iload_n 2, 1) := by decide +kernel
theorem c_147_8 : cd 147 8 = some (.invokestatic 81, 3) := by decide +kernel
theorem c_147_11 : cd 147 11 = some (.ifCond .ne (6), 3) := by decide +kernel
theorem c_147_14 : cd 147 14 = some (.ldc 72, 2) := by decide +kernel
theorem c_147_16 : cd 147 16 = some (.ireturn, 1) := by decide +kernel
theorem c_147_17 : cd 147 17 = some (.aload_n 0, 1) := by decide +kernel
theorem c_147_18 : cd 147 18 = some (.getfield 10, 3) := by decide +kernel
theorem c_147_21 : cd 147 21 = some (.getfield 269, 3) := by decide +kernel
theorem c_147_24 : cd 147 24 = some (.iload_n 1, 1) := by decide +kernel
theorem c_147_25 : cd 147 25 = some (.iload_n 2, 1) := by decide +kernel
theorem c_147_26 : cd 147 26 = some (.invokevirtual 313, 3) := by decide +kernel
theorem c_147_29 : cd 147 29 = some (.ireturn, 1) := by decide +kernel
def f_Ct_current_14 (σ : Mm) : Option Int32 := some (-1000000001 : Int32)
set_option maxRecDepth 100000 in
set_option maxHeartbeats 4000000 in
theorem t_Ct_current_14 {X : Xt} {S : Sh} (hS : ShOK S) {d : Nat} (hd : 3 ≤ d + 1) (σ : Mm) (u0 : Value) (u1 : Value) (u2 : Value) : Rf X S (emI σ) (f_Ct_current_14 σ) (d + 1) 147 14 [u0, u1, u2] [] σ := by
  unfold f_Ct_current_14
  refine rf_ldc (Or.inl ⟨rfl, rfl⟩) c_147_14 rfl kl_11_72 ?_
  exact rf_ret c_147_16 rfl rfl rfl rfl
def f_Ct_current (σ : Mm) (x0 : Nat) (x1 : Int32) (x2 : Int32) : Option Int32 := (f_Ct_isThing σ x1).bind fun v1 => (if v1 = 0 then (f_Ct_current_14 σ ) else ((f_Ct_isDay σ x2).bind fun v8 => (if ¬ v8 = 0 then ((f_Dk_greatestOn σ (rfT (rfT x0 0) 4) x1 x2).bind fun v26 => some v26) else (f_Ct_current_14 σ ))))
set_option maxRecDepth 100000 in
set_option maxHeartbeats 4000000 in
theorem t_Ct_current_e {X : Xt} {S : Sh} (hS : ShOK S) {d : Nat} (hd : 3 ≤ d + 1) (σ : Mm) (x0 : Nat) (x1 : Int32) (x2 : Int32) (h_x0 : tgT x0 = 11) : Rf X S (emI σ) (f_Ct_current σ x0 x1 x2) (d + 1) 147 0 [.ref x0, .int x1, .int x2] [] σ := by
  unfold f_Ct_current
  refine rf_ild (i := 1) (Or.inr ⟨1, rfl, rfl, rfl⟩) c_147_0 rfl ?_
  refine rf_callI (as := [.int x1]) (kd := 0) c_147_1 rfl (by decide) rfl ml_11_133 (by decide) rfl (rcv_0 rfl) (Nat.zero_le _) rfl rfl (t_Ct_isThing hS (by omega) σ x1) (fun v1 => ?_)
  refine rf_ite (fun hc4 => ?_) (fun hc4 => ?_)
  · refine rf_b1t c_147_4 rfl (decide_eq_true hc4) ?_
    exact t_Ct_current_14 hS hd σ  (.ref x0) (.int x1) (.int x2)
  · refine rf_b1f c_147_4 rfl (decide_eq_false hc4) ?_
    refine rf_ild (i := 2) (Or.inr ⟨2, rfl, rfl, rfl⟩) c_147_7 rfl ?_
    refine rf_callI (as := [.int x2]) (kd := 0) c_147_8 rfl (by decide) rfl ml_11_81 (by decide) rfl (rcv_0 rfl) (Nat.zero_le _) rfl rfl (t_Ct_isDay hS (by omega) σ x2) (fun v8 => ?_)
    refine rf_ite (fun hc11 => ?_) (fun hc11 => ?_)
    · refine rf_b1t c_147_11 rfl (decide_eq_true hc11) ?_
      refine rf_ald (i := 0) (Or.inr ⟨0, rfl, rfl, rfl⟩) c_147_17 rfl ?_
      refine rf_getr hS c_147_18 rfl fl_11_10 rfl h_x0 ?_
      refine rf_getr hS c_147_21 rfl fl_11_269 rfl (tf_11_0 h_x0) ?_
      refine rf_ild (i := 1) (Or.inr ⟨1, rfl, rfl, rfl⟩) c_147_24 rfl ?_
      refine rf_ild (i := 2) (Or.inr ⟨2, rfl, rfl, rfl⟩) c_147_25 rfl ?_
      refine rf_callI (as := [.ref (rfT (rfT x0 0) 4), .int x1, .int x2]) (kd := 1) c_147_26 rfl (by decide) rfl ml_11_313 (by decide) rfl (rcv_1 hS rfl rfl (tf_7_4 (tf_11_0 h_x0)) (by decide)) (Nat.zero_le _) rfl rfl (t_Dk_greatestOn hS (by omega) σ (rfT (rfT x0 0) 4) x1 x2 (tf_7_4 (tf_11_0 h_x0))) (fun v26 => ?_)
      exact rf_ret c_147_29 rfl rfl rfl rfl
    · refine rf_b1f c_147_11 rfl (decide_eq_false hc11) ?_
      exact t_Ct_current_14 hS hd σ  (.ref x0) (.int x1) (.int x2)
theorem t_Ct_current {X : Xt} {S : Sh} (hS : ShOK S) {d : Nat} (hd : 3 ≤ d) (σ : Mm) (x0 : Nat) (x1 : Int32) (x2 : Int32) (h_x0 : tgT x0 = 11) : Rf X S (emI σ) (f_Ct_current σ x0 x1 x2) d 147 0 [.ref x0, .int x1, .int x2] [] σ := by
  obtain ⟨d1, rfl⟩ : ∃ d1, d = d1 + 1 := ⟨d - 1, by omega⟩
  exact t_Ct_current_e hS hd σ x0 x1 x2 h_x0
theorem c_148_0 : cd 148 0 = some (.aload_n 0, 1) := by decide +kernel
theorem c_148_1 : cd 148 1 = some (.iload_n 1, 1) := by decide +kernel
theorem c_148_2 : cd 148 2 = some (.invokevirtual 64, 3) := by decide +kernel
theorem c_148_5 : cd 148 5 = some (.ifCond .eq (10), 3) := by decide +kernel
theorem c_148_8 : cd 148 8 = some (.iload_n 2, 1) := by decide +kernel
theorem c_148_9 : cd 148 9 = some (.invokestatic 133, 3) := by decide +kernel
theorem c_148_12 : cd 148 12 = some (.ifCond .ne (6), 3) := by decide +kernel
theorem c_148_15 : cd 148 15 = some (.ldc 72, 2) := by decide +kernel
theorem c_148_17 : cd 148 17 = some (.ireturn, 1) := by decide +kernel
theorem c_148_18 : cd 148 18 = some (.aload_n 0, 1) := by decide +kernel
theorem c_148_19 : cd 148 19 = some (.getfield 10, 3) := by decide +kernel
theorem c_148_22 : cd 148 22 = some (.getfield 269, 3) := by decide +kernel
theorem c_148_25 : cd 148 25 = some (.iload_n 1, 1) := by decide +kernel
theorem c_148_26 : cd 148 26 = some (.iload_n 2, 1) := by decide +kernel
theorem c_148_27 : cd 148 27 = some (.aload_n 0, 1) := by decide +kernel
theorem c_148_28 : cd 148 28 = some (.getfield 10, 3) := by decide +kernel
theorem c_148_31 : cd 148 31 = some (.getfield 73, 3) := by decide +kernel
theorem c_148_34 : cd 148 34 = some (.invokevirtual 316, 3) := by decide +kernel
theorem c_148_37 : cd 148 37 = some (.ireturn, 1) := by decide +kernel
def f_Ct_bound_15 (σ : Mm) : Option Int32 := some (-1000000001 : Int32)
set_option maxRecDepth 100000 in
set_option maxHeartbeats 4000000 in
theorem t_Ct_bound_15 {X : Xt} {S : Sh} (hS : ShOK S) {d : Nat} (hd : 3 ≤ d + 1) (σ : Mm) (u0 : Value) (u1 : Value) (u2 : Value) : Rf X S (emI σ) (f_Ct_bound_15 σ) (d + 1) 148 15 [u0, u1, u2] [] σ := by
  unfold f_Ct_bound_15
  refine rf_ldc (Or.inl ⟨rfl, rfl⟩) c_148_15 rfl kl_11_72 ?_
  exact rf_ret c_148_17 rfl rfl rfl rfl
def f_Ct_bound (σ : Mm) (x0 : Nat) (x1 : Int32) (x2 : Int32) : Option Int32 := (f_Ct_isOffice σ x0 x1).bind fun v2 => (if v2 = 0 then (f_Ct_bound_15 σ ) else ((f_Ct_isThing σ x2).bind fun v9 => (if ¬ v9 = 0 then ((f_Dk_greatestBinding σ (rfT (rfT x0 0) 4) x1 x2 (σ (rfT x0 0) 8)).bind fun v34 => some v34) else (f_Ct_bound_15 σ ))))
set_option maxRecDepth 100000 in
set_option maxHeartbeats 4000000 in
theorem t_Ct_bound_e {X : Xt} {S : Sh} (hS : ShOK S) {d : Nat} (hd : 3 ≤ d + 1) (σ : Mm) (x0 : Nat) (x1 : Int32) (x2 : Int32) (h_x0 : tgT x0 = 11) : Rf X S (emI σ) (f_Ct_bound σ x0 x1 x2) (d + 1) 148 0 [.ref x0, .int x1, .int x2] [] σ := by
  unfold f_Ct_bound
  refine rf_ald (i := 0) (Or.inr ⟨0, rfl, rfl, rfl⟩) c_148_0 rfl ?_
  refine rf_ild (i := 1) (Or.inr ⟨1, rfl, rfl, rfl⟩) c_148_1 rfl ?_
  refine rf_callI (as := [.ref x0, .int x1]) (kd := 1) c_148_2 rfl (by decide) rfl ml_11_64 (by decide) rfl (rcv_1 hS rfl rfl h_x0 (by decide)) (Nat.zero_le _) rfl rfl (t_Ct_isOffice hS (by omega) σ x0 x1 h_x0) (fun v2 => ?_)
  refine rf_ite (fun hc5 => ?_) (fun hc5 => ?_)
  · refine rf_b1t c_148_5 rfl (decide_eq_true hc5) ?_
    exact t_Ct_bound_15 hS hd σ  (.ref x0) (.int x1) (.int x2)
  · refine rf_b1f c_148_5 rfl (decide_eq_false hc5) ?_
    refine rf_ild (i := 2) (Or.inr ⟨2, rfl, rfl, rfl⟩) c_148_8 rfl ?_
    refine rf_callI (as := [.int x2]) (kd := 0) c_148_9 rfl (by decide) rfl ml_11_133 (by decide) rfl (rcv_0 rfl) (Nat.zero_le _) rfl rfl (t_Ct_isThing hS (by omega) σ x2) (fun v9 => ?_)
    refine rf_ite (fun hc12 => ?_) (fun hc12 => ?_)
    · refine rf_b1t c_148_12 rfl (decide_eq_true hc12) ?_
      refine rf_ald (i := 0) (Or.inr ⟨0, rfl, rfl, rfl⟩) c_148_18 rfl ?_
      refine rf_getr hS c_148_19 rfl fl_11_10 rfl h_x0 ?_
      refine rf_getr hS c_148_22 rfl fl_11_269 rfl (tf_11_0 h_x0) ?_
      refine rf_ild (i := 1) (Or.inr ⟨1, rfl, rfl, rfl⟩) c_148_25 rfl ?_
      refine rf_ild (i := 2) (Or.inr ⟨2, rfl, rfl, rfl⟩) c_148_26 rfl ?_
      refine rf_ald (i := 0) (Or.inr ⟨0, rfl, rfl, rfl⟩) c_148_27 rfl ?_
      refine rf_getr hS c_148_28 rfl fl_11_10 rfl h_x0 ?_
      refine rf_geti hS c_148_31 rfl fl_11_73 rfl (tf_11_0 h_x0) ?_
      refine rf_callI (as := [.ref (rfT (rfT x0 0) 4), .int x1, .int x2, .int (σ (rfT x0 0) 8)]) (kd := 1) c_148_34 rfl (by decide) rfl ml_11_316 (by decide) rfl (rcv_1 hS rfl rfl (tf_7_4 (tf_11_0 h_x0)) (by decide)) (Nat.zero_le _) rfl rfl (t_Dk_greatestBinding hS (by omega) σ (rfT (rfT x0 0) 4) x1 x2 (σ (rfT x0 0) 8) (tf_7_4 (tf_11_0 h_x0))) (fun v34 => ?_)
      exact rf_ret c_148_37 rfl rfl rfl rfl
    · refine rf_b1f c_148_12 rfl (decide_eq_false hc12) ?_
      exact t_Ct_bound_15 hS hd σ  (.ref x0) (.int x1) (.int x2)
theorem t_Ct_bound {X : Xt} {S : Sh} (hS : ShOK S) {d : Nat} (hd : 3 ≤ d) (σ : Mm) (x0 : Nat) (x1 : Int32) (x2 : Int32) (h_x0 : tgT x0 = 11) : Rf X S (emI σ) (f_Ct_bound σ x0 x1 x2) d 148 0 [.ref x0, .int x1, .int x2] [] σ := by
  obtain ⟨d1, rfl⟩ : ∃ d1, d = d1 + 1 := ⟨d - 1, by omega⟩
  exact t_Ct_bound_e hS hd σ x0 x1 x2 h_x0
theorem c_149_0 : cd 149 0 = some (.iload_n 1, 1) := by decide +kernel
theorem c_149_1 : cd 149 1 = some (.iconst (0), 1) := by decide +kernel
theorem c_149_2 : cd 149 2 = some (.iconst (2), 1) := by decide +kernel
theorem c_149_3 : cd 149 3 = some (.invokestatic 92, 3) := by decide +kernel
theorem c_149_6 : cd 149 6 = some (.ifCond .ne (6), 3) := by decide +kernel
theorem c_149_9 : cd 149 9 = some (.ldc 72, 2) := by decide +kernel
theorem c_149_11 : cd 149 11 = some (.ireturn, 1) := by decide +kernel
theorem c_149_12 : cd 149 12 = some (.aload_n 0, 1) := by decide +kernel
theorem c_149_13 : cd 149 13 = some (.getfield 10, 3) := by decide +kernel
theorem c_149_16 : cd 149 16 = some (.getfield 269, 3) := by decide +kernel
theorem c_149_19 : cd 149 19 = some (.iload_n 1, 1) := by decide +kernel
theorem c_149_20 : cd 149 20 = some (.aload_n 0, 1) := by decide +kernel
theorem c_149_21 : cd 149 21 = some (.getfield 10, 3) := by decide +kernel
theorem c_149_24 : cd 149 24 = some (.getfield 73, 3) := by decide +kernel
theorem c_149_27 : cd 149 27 = some (.invokevirtual 319, 3) := by decide +kernel
theorem c_149_30 : cd 149 30 = some (.ireturn, 1) := by decide +kernel
def f_Ct_against (σ : Mm) (x0 : Nat) (x1 : Int32) : Option Int32 := (f_Ct_isWithin σ x1 (0 : Int32) (2 : Int32)).bind fun v3 => (if ¬ v3 = 0 then ((f_Dk_opposed σ (rfT (rfT x0 0) 4) x1 (σ (rfT x0 0) 8)).bind fun v27 => some v27) else (some (-1000000001 : Int32)))
set_option maxRecDepth 100000 in
set_option maxHeartbeats 4000000 in
theorem t_Ct_against_e {X : Xt} {S : Sh} (hS : ShOK S) {d : Nat} (hd : 3 ≤ d + 1) (σ : Mm) (x0 : Nat) (x1 : Int32) (h_x0 : tgT x0 = 11) : Rf X S (emI σ) (f_Ct_against σ x0 x1) (d + 1) 149 0 [.ref x0, .int x1] [] σ := by
  unfold f_Ct_against
  refine rf_ild (i := 1) (Or.inr ⟨1, rfl, rfl, rfl⟩) c_149_0 rfl ?_
  refine rf_iconst c_149_1 ki_0 ?_
  refine rf_iconst c_149_2 ki_2 ?_
  refine rf_callI (as := [.int x1, .int (0 : Int32), .int (2 : Int32)]) (kd := 0) c_149_3 rfl (by decide) rfl ml_11_92 (by decide) rfl (rcv_0 rfl) (Nat.zero_le _) rfl rfl (t_Ct_isWithin hS (by omega) σ x1 (0 : Int32) (2 : Int32)) (fun v3 => ?_)
  refine rf_ite (fun hc6 => ?_) (fun hc6 => ?_)
  · refine rf_b1t c_149_6 rfl (decide_eq_true hc6) ?_
    refine rf_ald (i := 0) (Or.inr ⟨0, rfl, rfl, rfl⟩) c_149_12 rfl ?_
    refine rf_getr hS c_149_13 rfl fl_11_10 rfl h_x0 ?_
    refine rf_getr hS c_149_16 rfl fl_11_269 rfl (tf_11_0 h_x0) ?_
    refine rf_ild (i := 1) (Or.inr ⟨1, rfl, rfl, rfl⟩) c_149_19 rfl ?_
    refine rf_ald (i := 0) (Or.inr ⟨0, rfl, rfl, rfl⟩) c_149_20 rfl ?_
    refine rf_getr hS c_149_21 rfl fl_11_10 rfl h_x0 ?_
    refine rf_geti hS c_149_24 rfl fl_11_73 rfl (tf_11_0 h_x0) ?_
    refine rf_callI (as := [.ref (rfT (rfT x0 0) 4), .int x1, .int (σ (rfT x0 0) 8)]) (kd := 1) c_149_27 rfl (by decide) rfl ml_11_319 (by decide) rfl (rcv_1 hS rfl rfl (tf_7_4 (tf_11_0 h_x0)) (by decide)) (Nat.zero_le _) rfl rfl (t_Dk_opposed hS (by omega) σ (rfT (rfT x0 0) 4) x1 (σ (rfT x0 0) 8) (tf_7_4 (tf_11_0 h_x0))) (fun v27 => ?_)
    exact rf_ret c_149_30 rfl rfl rfl rfl
  · refine rf_b1f c_149_6 rfl (decide_eq_false hc6) ?_
    refine rf_ldc (Or.inl ⟨rfl, rfl⟩) c_149_9 rfl kl_11_72 ?_
    exact rf_ret c_149_11 rfl rfl rfl rfl
theorem t_Ct_against {X : Xt} {S : Sh} (hS : ShOK S) {d : Nat} (hd : 3 ≤ d) (σ : Mm) (x0 : Nat) (x1 : Int32) (h_x0 : tgT x0 = 11) : Rf X S (emI σ) (f_Ct_against σ x0 x1) d 149 0 [.ref x0, .int x1] [] σ := by
  obtain ⟨d1, rfl⟩ : ∃ d1, d = d1 + 1 := ⟨d - 1, by omega⟩
  exact t_Ct_against_e hS hd σ x0 x1 h_x0
theorem c_150_0 : cd 150 0 = some (.iload_n 1, 1) := by decide +kernel
theorem c_150_1 : cd 150 1 = some (.invokestatic 133, 3) := by decide +kernel
theorem c_150_4 : cd 150 4 = some (.ifCond .eq (12), 3) := by decide +kernel
theorem c_150_7 : cd 150 7 = some (.iload_n 2, 1) := by decide +kernel
theorem c_150_8 : cd 150 8 = some (.bipush (99), 2) := by decide +kernel
theorem c_150_10 : cd 150 10 = some (.invokestatic 68, 3) := by decide +kernel
theorem c_150_13 : cd 150 13 = some (.ifCond .ne (6), 3) := by decide +kernel
theorem c_150_16 : cd 150 16 = some (.ldc 72, 2) := by decide +kernel
theorem c_150_18 : cd 150 18 = some (.ireturn, 1) := by decide +kernel
theorem c_150_19 : cd 150 19 = some (.aload_n 0, 1) := by decide +kernel
theorem c_150_20 : cd 150 20 = some (.getfield 10, 3) := by decide +kernel
theorem c_150_23 : cd 150 23 = some (.getfield 322, 3) := by decide +kernel
theorem c_150_26 : cd 150 26 = some (.iload_n 1, 1) := by decide +kernel
theorem c_150_27 : cd 150 27 = some (.iaload, 1) := by decide +kernel
theorem c_150_28 : cd 150 28 = some (.istore_n 3, 1) := by decide +kernel
theorem c_150_29 : cd 150 29 = some (.aload_n 0, 1) := by decide +kernel
theorem c_150_30 : cd 150 30 = some (.getfield 10, 3) := by decide +kernel
theorem c_150_33 : cd 150 33 = some (.getfield 322, 3) := by decide +kernel
theorem c_150_36 : cd 150 36 = some (.iload_n 1, 1) := by decide +kernel
theorem c_150_37 : cd 150 37 = some (.iload_n 2, 1) := by decide +kernel
theorem c_150_38 : cd 150 38 = some (.iastore, 1) := by decide +kernel
theorem c_150_39 : cd 150 39 = some (.iload_n 3, 1) := by decide +kernel
theorem c_150_40 : cd 150 40 = some (.ireturn, 1) := by decide +kernel
def f_Ct_law_16 (σ : Mm) : Option (Int32 × Mm) := some ((-1000000001 : Int32), σ)
set_option maxRecDepth 100000 in
set_option maxHeartbeats 4000000 in
theorem t_Ct_law_16 {X : Xt} {S : Sh} (hS : ShOK S) {d : Nat} (hd : 2 ≤ d + 1) (u0 : Value) (u1 : Value) (u2 : Value) (u3 : Value) (σ : Mm) : Rf X S emM (f_Ct_law_16 σ) (d + 1) 150 16 [u0, u1, u2, u3] [] σ := by
  unfold f_Ct_law_16
  refine rf_ldc (Or.inl ⟨rfl, rfl⟩) c_150_16 rfl kl_11_72 ?_
  exact rf_ret c_150_18 rfl rfl rfl rfl
def f_Ct_law (x0 : Nat) (x1 : Int32) (x2 : Int32) (σ : Mm) : Option (Int32 × Mm) := (f_Ct_isThing σ x1).bind fun v1 => (if v1 = 0 then (f_Ct_law_16  σ) else ((f_Ct_isNoneOrWithin σ x2 (99 : Int32)).bind fun v10 => (if ¬ v10 = 0 then (if inbB x1 10 = true then if inbB x1 10 = true then nmM (up2 σ (rfT (rfT x0 0) 7) (ix x1) x2) fun σ38 => some ((σ (rfT (rfT x0 0) 7) (ix x1)), σ38) else none else none) else (f_Ct_law_16  σ))))
set_option maxRecDepth 100000 in
set_option maxHeartbeats 4000000 in
theorem t_Ct_law_e {X : Xt} {S : Sh} (hS : ShOK S) {d : Nat} (hd : 2 ≤ d + 1) (x0 : Nat) (x1 : Int32) (x2 : Int32) (σ : Mm) (h_x0 : tgT x0 = 11) : Rf X S emM (f_Ct_law x0 x1 x2 σ) (d + 1) 150 0 [.ref x0, .int x1, .int x2, unset0] [] σ := by
  unfold f_Ct_law
  refine rf_ild (i := 1) (Or.inr ⟨1, rfl, rfl, rfl⟩) c_150_0 rfl ?_
  refine rf_callI (as := [.int x1]) (kd := 0) c_150_1 rfl (by decide) rfl ml_11_133 (by decide) rfl (rcv_0 rfl) (Nat.zero_le _) rfl rfl (t_Ct_isThing hS (by omega) σ x1) (fun v1 => ?_)
  refine rf_ite (fun hc4 => ?_) (fun hc4 => ?_)
  · refine rf_b1t c_150_4 rfl (decide_eq_true hc4) ?_
    exact t_Ct_law_16 hS hd  (.ref x0) (.int x1) (.int x2) (unset0) σ
  · refine rf_b1f c_150_4 rfl (decide_eq_false hc4) ?_
    refine rf_ild (i := 2) (Or.inr ⟨2, rfl, rfl, rfl⟩) c_150_7 rfl ?_
    refine rf_bipush c_150_8 kb_99 ?_
    refine rf_callI (as := [.int x2, .int (99 : Int32)]) (kd := 0) c_150_10 rfl (by decide) rfl ml_11_68 (by decide) rfl (rcv_0 rfl) (Nat.zero_le _) rfl rfl (t_Ct_isNoneOrWithin hS (by omega) σ x2 (99 : Int32)) (fun v10 => ?_)
    refine rf_ite (fun hc13 => ?_) (fun hc13 => ?_)
    · refine rf_b1t c_150_13 rfl (decide_eq_true hc13) ?_
      refine rf_ald (i := 0) (Or.inr ⟨0, rfl, rfl, rfl⟩) c_150_19 rfl ?_
      refine rf_getr hS c_150_20 rfl fl_11_10 rfl h_x0 ?_
      refine rf_getr hS c_150_23 rfl fl_11_322 rfl (tf_11_0 h_x0) ?_
      refine rf_ild (i := 1) (Or.inr ⟨1, rfl, rfl, rfl⟩) c_150_26 rfl ?_
      refine rf_ite (fun hb27 => ?_) (fun _ => rf_none)
      refine rf_iald hS c_150_27 (tf_7_7 (tf_11_0 h_x0)) (lf_7_7 (tf_11_0 h_x0)) hb27 ?_
      refine rf_ist (i := 3) (Or.inr ⟨3, rfl, rfl, rfl⟩) c_150_28 (Nat.le_of_ble_eq_true rfl) rfl ?_
      refine rf_ald (i := 0) (Or.inr ⟨0, rfl, rfl, rfl⟩) c_150_29 rfl ?_
      refine rf_getr hS c_150_30 rfl fl_11_10 rfl h_x0 ?_
      refine rf_getr hS c_150_33 rfl fl_11_322 rfl (tf_11_0 h_x0) ?_
      refine rf_ild (i := 1) (Or.inr ⟨1, rfl, rfl, rfl⟩) c_150_36 rfl ?_
      refine rf_ild (i := 2) (Or.inr ⟨2, rfl, rfl, rfl⟩) c_150_37 rfl ?_
      refine rf_ite (fun hb38 => ?_) (fun _ => rf_none)
      refine rf_iast hS c_150_38 (tf_7_7 (tf_11_0 h_x0)) (lf_7_7 (tf_11_0 h_x0)) hb38 ?_
      refine rf_nm (fun σ38 => ?_)
      refine rf_ild (i := 3) (Or.inr ⟨3, rfl, rfl, rfl⟩) c_150_39 rfl ?_
      exact rf_ret c_150_40 rfl rfl rfl rfl
    · refine rf_b1f c_150_13 rfl (decide_eq_false hc13) ?_
      exact t_Ct_law_16 hS hd  (.ref x0) (.int x1) (.int x2) (unset0) σ
theorem t_Ct_law {X : Xt} {S : Sh} (hS : ShOK S) {d : Nat} (hd : 2 ≤ d) (x0 : Nat) (x1 : Int32) (x2 : Int32) (σ : Mm) (h_x0 : tgT x0 = 11) : Rf X S emM (f_Ct_law x0 x1 x2 σ) d 150 0 [.ref x0, .int x1, .int x2, unset0] [] σ := by
  obtain ⟨d1, rfl⟩ : ∃ d1, d = d1 + 1 := ⟨d - 1, by omega⟩
  exact t_Ct_law_e hS hd x0 x1 x2 σ h_x0
theorem c_151_0 : cd 151 0 = some (.iload_n 1, 1) := by decide +kernel
theorem c_151_1 : cd 151 1 = some (.invokestatic 133, 3) := by decide +kernel
theorem c_151_4 : cd 151 4 = some (.ifCond .ne (6), 3) := by decide +kernel
theorem c_151_7 : cd 151 7 = some (.ldc 72, 2) := by decide +kernel
theorem c_151_9 : cd 151 9 = some (.ireturn, 1) := by decide +kernel
theorem c_151_10 : cd 151 10 = some (.aload_n 0, 1) := by decide +kernel
theorem c_151_11 : cd 151 11 = some (.getfield 10, 3) := by decide +kernel
theorem c_151_14 : cd 151 14 = some (.getfield 269, 3) := by decide +kernel
theorem c_151_17 : cd 151 17 = some (.iload_n 1, 1) := by decide +kernel
theorem c_151_18 : cd 151 18 = some (.aload_n 0, 1) := by decide +kernel
theorem c_151_19 : cd 151 19 = some (.getfield 10, 3) := by decide +kernel
theorem c_151_22 : cd 151 22 = some (.getfield 73, 3) := by decide +kernel
theorem c_151_25 : cd 151 25 = some (.invokevirtual 313, 3) := by decide +kernel
theorem c_151_28 : cd 151 28 = some (.istore_n 2, 1) := by decide +kernel
theorem c_151_29 : cd 151 29 = some (.aload_n 0, 1) := by decide +kernel
theorem c_151_30 : cd 151 30 = some (.getfield 10, 3) := by decide +kernel
theorem c_151_33 : cd 151 33 = some (.getfield 322, 3) := by decide +kernel
theorem c_151_36 : cd 151 36 = some (.iload_n 1, 1) := by decide +kernel
theorem c_151_37 : cd 151 37 = some (.iaload, 1) := by decide +kernel
theorem c_151_38 : cd 151 38 = some (.ldc 248, 2) := by decide +kernel
theorem c_151_40 : cd 151 40 = some (.if_icmp .eq (11), 3) := by decide +kernel
theorem c_151_43 : cd 151 43 = some (.aload_n 0, 1) := by decide +kernel
theorem c_151_44 : cd 151 44 = some (.iload_n 2, 1) := by decide +kernel
theorem c_151_45 : cd 151 45 = some (.invokevirtual 296, 3) := by decide +kernel
theorem c_151_48 : cd 151 48 = some (.ifCond .ne (6), 3) := by decide +kernel
theorem c_151_51 : cd 151 51 = some (.ldc 248, 2) := by decide +kernel
theorem c_151_53 : cd 151 53 = some (.ireturn, 1) := by decide +kernel
theorem c_151_54 : cd 151 54 = some (.aload_n 0, 1) := by decide +kernel
theorem c_151_55 : cd 151 55 = some (.getfield 10, 3) := by decide +kernel
theorem c_151_58 : cd 151 58 = some (.getfield 322, 3) := by decide +kernel
theorem c_151_61 : cd 151 61 = some (.iload_n 1, 1) := by decide +kernel
theorem c_151_62 : cd 151 62 = some (.iaload, 1) := by decide +kernel
theorem c_151_63 : cd 151 63 = some (.aload_n 0, 1) := by decide +kernel
theorem c_151_64 : cd 151 64 = some (.getfield 10, 3) := by decide +kernel
theorem c_151_67 : cd 151 67 = some (.getfield 269, 3) := by decide +kernel
theorem c_151_70 : cd 151 70 = some (.getfield 325, 3) := by decide +kernel
theorem c_151_73 : cd 151 73 = some (.iload_n 2, 1) := by decide +kernel
theorem c_151_74 : cd 151 74 = some (.iaload, 1) := by decide +kernel
theorem c_151_75 : cd 151 75 = some (.isub, 1) := by decide +kernel
theorem c_151_76 : cd 151 76 = some (.ireturn, 1) := by decide +kernel
def f_Ct_more_51 (σ : Mm) : Option Int32 := some (-1000000005 : Int32)
set_option maxRecDepth 100000 in
set_option maxHeartbeats 4000000 in
theorem t_Ct_more_51 {X : Xt} {S : Sh} (hS : ShOK S) {d : Nat} (hd : 3 ≤ d + 1) (σ : Mm) (u0 : Value) (u1 : Value) (u2 : Value) : Rf X S (emI σ) (f_Ct_more_51 σ) (d + 1) 151 51 [u0, u1, u2] [] σ := by
  unfold f_Ct_more_51
  refine rf_ldc (Or.inl ⟨rfl, rfl⟩) c_151_51 rfl kl_11_248 ?_
  exact rf_ret c_151_53 rfl rfl rfl rfl
def f_Ct_more (σ : Mm) (x0 : Nat) (x1 : Int32) : Option Int32 := (f_Ct_isThing σ x1).bind fun v1 => (if ¬ v1 = 0 then ((f_Dk_greatestOn σ (rfT (rfT x0 0) 4) x1 (σ (rfT x0 0) 8)).bind fun v25 => if inbB x1 10 = true then (if (σ (rfT (rfT x0 0) 7) (ix x1)) = (-1000000005 : Int32) then (f_Ct_more_51 σ ) else ((f_Ct_isDecision σ x0 v25).bind fun v45 => (if ¬ v45 = 0 then (if inbB x1 10 = true then if inbB v25 24 = true then some ((σ (rfT (rfT x0 0) 7) (ix x1)) - (σ (rfT (rfT (rfT x0 0) 4) 2) (ix v25))) else none else none) else (f_Ct_more_51 σ )))) else none) else (some (-1000000001 : Int32)))
set_option maxRecDepth 100000 in
set_option maxHeartbeats 4000000 in
theorem t_Ct_more_e {X : Xt} {S : Sh} (hS : ShOK S) {d : Nat} (hd : 3 ≤ d + 1) (σ : Mm) (x0 : Nat) (x1 : Int32) (h_x0 : tgT x0 = 11) : Rf X S (emI σ) (f_Ct_more σ x0 x1) (d + 1) 151 0 [.ref x0, .int x1, unset0] [] σ := by
  unfold f_Ct_more
  refine rf_ild (i := 1) (Or.inr ⟨1, rfl, rfl, rfl⟩) c_151_0 rfl ?_
  refine rf_callI (as := [.int x1]) (kd := 0) c_151_1 rfl (by decide) rfl ml_11_133 (by decide) rfl (rcv_0 rfl) (Nat.zero_le _) rfl rfl (t_Ct_isThing hS (by omega) σ x1) (fun v1 => ?_)
  refine rf_ite (fun hc4 => ?_) (fun hc4 => ?_)
  · refine rf_b1t c_151_4 rfl (decide_eq_true hc4) ?_
    refine rf_ald (i := 0) (Or.inr ⟨0, rfl, rfl, rfl⟩) c_151_10 rfl ?_
    refine rf_getr hS c_151_11 rfl fl_11_10 rfl h_x0 ?_
    refine rf_getr hS c_151_14 rfl fl_11_269 rfl (tf_11_0 h_x0) ?_
    refine rf_ild (i := 1) (Or.inr ⟨1, rfl, rfl, rfl⟩) c_151_17 rfl ?_
    refine rf_ald (i := 0) (Or.inr ⟨0, rfl, rfl, rfl⟩) c_151_18 rfl ?_
    refine rf_getr hS c_151_19 rfl fl_11_10 rfl h_x0 ?_
    refine rf_geti hS c_151_22 rfl fl_11_73 rfl (tf_11_0 h_x0) ?_
    refine rf_callI (as := [.ref (rfT (rfT x0 0) 4), .int x1, .int (σ (rfT x0 0) 8)]) (kd := 1) c_151_25 rfl (by decide) rfl ml_11_313 (by decide) rfl (rcv_1 hS rfl rfl (tf_7_4 (tf_11_0 h_x0)) (by decide)) (Nat.zero_le _) rfl rfl (t_Dk_greatestOn hS (by omega) σ (rfT (rfT x0 0) 4) x1 (σ (rfT x0 0) 8) (tf_7_4 (tf_11_0 h_x0))) (fun v25 => ?_)
    refine rf_ist (i := 2) (Or.inr ⟨2, rfl, rfl, rfl⟩) c_151_28 (Nat.le_of_ble_eq_true rfl) rfl ?_
    refine rf_ald (i := 0) (Or.inr ⟨0, rfl, rfl, rfl⟩) c_151_29 rfl ?_
    refine rf_getr hS c_151_30 rfl fl_11_10 rfl h_x0 ?_
    refine rf_getr hS c_151_33 rfl fl_11_322 rfl (tf_11_0 h_x0) ?_
    refine rf_ild (i := 1) (Or.inr ⟨1, rfl, rfl, rfl⟩) c_151_36 rfl ?_
    refine rf_ite (fun hb37 => ?_) (fun _ => rf_none)
    refine rf_iald hS c_151_37 (tf_7_7 (tf_11_0 h_x0)) (lf_7_7 (tf_11_0 h_x0)) hb37 ?_
    refine rf_ldc (Or.inl ⟨rfl, rfl⟩) c_151_38 rfl kl_11_248 ?_
    refine rf_ite (fun hc40 => ?_) (fun hc40 => ?_)
    · refine rf_b2t c_151_40 rfl (decide_eq_true hc40) ?_
      exact t_Ct_more_51 hS hd σ  (.ref x0) (.int x1) (.int v25)
    · refine rf_b2f c_151_40 rfl (decide_eq_false hc40) ?_
      refine rf_ald (i := 0) (Or.inr ⟨0, rfl, rfl, rfl⟩) c_151_43 rfl ?_
      refine rf_ild (i := 2) (Or.inr ⟨2, rfl, rfl, rfl⟩) c_151_44 rfl ?_
      refine rf_callI (as := [.ref x0, .int v25]) (kd := 1) c_151_45 rfl (by decide) rfl ml_11_296 (by decide) rfl (rcv_1 hS rfl rfl h_x0 (by decide)) (Nat.zero_le _) rfl rfl (t_Ct_isDecision hS (by omega) σ x0 v25 h_x0) (fun v45 => ?_)
      refine rf_ite (fun hc48 => ?_) (fun hc48 => ?_)
      · refine rf_b1t c_151_48 rfl (decide_eq_true hc48) ?_
        refine rf_ald (i := 0) (Or.inr ⟨0, rfl, rfl, rfl⟩) c_151_54 rfl ?_
        refine rf_getr hS c_151_55 rfl fl_11_10 rfl h_x0 ?_
        refine rf_getr hS c_151_58 rfl fl_11_322 rfl (tf_11_0 h_x0) ?_
        refine rf_ild (i := 1) (Or.inr ⟨1, rfl, rfl, rfl⟩) c_151_61 rfl ?_
        refine rf_ite (fun hb62 => ?_) (fun _ => rf_none)
        refine rf_iald hS c_151_62 (tf_7_7 (tf_11_0 h_x0)) (lf_7_7 (tf_11_0 h_x0)) hb62 ?_
        refine rf_ald (i := 0) (Or.inr ⟨0, rfl, rfl, rfl⟩) c_151_63 rfl ?_
        refine rf_getr hS c_151_64 rfl fl_11_10 rfl h_x0 ?_
        refine rf_getr hS c_151_67 rfl fl_11_269 rfl (tf_11_0 h_x0) ?_
        refine rf_getr hS c_151_70 rfl fl_11_325 rfl (tf_7_4 (tf_11_0 h_x0)) ?_
        refine rf_ild (i := 2) (Or.inr ⟨2, rfl, rfl, rfl⟩) c_151_73 rfl ?_
        refine rf_ite (fun hb74 => ?_) (fun _ => rf_none)
        refine rf_iald hS c_151_74 (tf_1_2 (tf_7_4 (tf_11_0 h_x0))) (lf_1_2 (tf_7_4 (tf_11_0 h_x0))) hb74 ?_
        refine rf_isub c_151_75 ?_
        exact rf_ret c_151_76 rfl rfl rfl rfl
      · refine rf_b1f c_151_48 rfl (decide_eq_false hc48) ?_
        exact t_Ct_more_51 hS hd σ  (.ref x0) (.int x1) (.int v25)
  · refine rf_b1f c_151_4 rfl (decide_eq_false hc4) ?_
    refine rf_ldc (Or.inl ⟨rfl, rfl⟩) c_151_7 rfl kl_11_72 ?_
    exact rf_ret c_151_9 rfl rfl rfl rfl
theorem t_Ct_more {X : Xt} {S : Sh} (hS : ShOK S) {d : Nat} (hd : 3 ≤ d) (σ : Mm) (x0 : Nat) (x1 : Int32) (h_x0 : tgT x0 = 11) : Rf X S (emI σ) (f_Ct_more σ x0 x1) d 151 0 [.ref x0, .int x1, unset0] [] σ := by
  obtain ⟨d1, rfl⟩ : ∃ d1, d = d1 + 1 := ⟨d - 1, by omega⟩
  exact t_Ct_more_e hS hd σ x0 x1 h_x0
theorem c_152_0 : cd 152 0 = some (.iload_n 1, 1) := by decide +kernel
theorem c_152_1 : cd 152 1 = some (.iconst (1), 1) := by decide +kernel
theorem c_152_2 : cd 152 2 = some (.bipush (60), 2) := by decide +kernel
theorem c_152_4 : cd 152 4 = some (.invokestatic 92, 3) := by decide +kernel
theorem c_152_7 : cd 152 7 = some (.ifCond .ne (6), 3) := by decide +kernel
theorem c_152_10 : cd 152 10 = some (.ldc 72, 2) := by decide +kernel
theorem c_152_12 : cd 152 12 = some (.ireturn, 1) := by decide +kernel
theorem c_152_13 : cd 152 13 = some (.aload_n 0, 1) := by decide +kernel
theorem c_152_14 : cd 152 14 = some (.getfield 10, 3) := by decide +kernel
theorem c_152_17 : cd 152 17 = some (.getfield 73, 3) := by decide +kernel
theorem c_152_20 : cd 152 20 = some (.iload_n 1, 1) := by decide +kernel
theorem c_152_21 : cd 152 21 = some (.iadd, 1) := by decide +kernel
theorem c_152_22 : cd 152 22 = some (.sipush (999), 3) := by decide +kernel
theorem c_152_25 : cd 152 25 = some (.if_icmp .le (6), 3) := by decide +kernel
theorem c_152_28 : cd 152 28 = some (.ldc 91, 2) := by decide +kernel
theorem c_152_30 : cd 152 30 = some (.ireturn, 1) := by decide +kernel
theorem c_152_31 : cd 152 31 = some (.iconst (0), 1) := by decide +kernel
theorem c_152_32 : cd 152 32 = some (.istore_n 2, 1) := by decide +kernel
theorem c_152_33 : cd 152 33 = some (.iload_n 2, 1) := by decide +kernel
theorem c_152_34 : cd 152 34 = some (.iload_n 1, 1) := by decide +kernel
theorem c_152_35 : cd 152 35 = some (.if_icmp .ge (16), 3) := by decide +kernel
theorem c_152_38 : cd 152 38 = some (.aload_n 0, 1) := by decide +kernel
theorem c_152_39 : cd 152 39 = some (.getfield 10, 3) := by decide +kernel
theorem c_152_42 : cd 152 42 = some (.invokevirtual 328, 3) := by decide +kernel
theorem c_152_45 : cd 152 45 = some (.iinc 2 (1), 3) := by decide +kernel
theorem c_152_48 : cd 152 48 = some (.goto (-15), 3) := by decide +kernel
theorem c_152_51 : cd 152 51 = some (.aload_n 0, 1) := by decide +kernel
theorem c_152_52 : cd 152 52 = some (.getfield 10, 3) := by decide +kernel
theorem c_152_55 : cd 152 55 = some (.getfield 73, 3) := by decide +kernel
theorem c_152_58 : cd 152 58 = some (.ireturn, 1) := by decide +kernel
def f_Ct_run_33 : Nat → Nat → Int32 → Int32 → Mm → Option (Int32 × Mm)
  | 0, _, _, _, _ => none
  | n + 1, x0, x1, x2, σ => (if x1 ≤ x2 then (some ((σ (rfT x0 0) 8), σ)) else ((f_St_letDayGoBy (rfT x0 0) σ).bind fun v42 => f_Ct_run_33  n x0 x1 (x2 + (1 : Int32)) v42))
set_option maxRecDepth 100000 in
set_option maxHeartbeats 4000000 in
theorem t_Ct_run_33 {X : Xt} {S : Sh} (hS : ShOK S) {d : Nat} (hd : 11 ≤ d + 1) : ∀ (n : Nat) (x0 : Nat) (x1 : Int32) (x2 : Int32) (σ : Mm) (h_x0 : tgT x0 = 11), Rf X S emM (f_Ct_run_33 n x0 x1 x2 σ) (d + 1) 152 33 [.ref x0, .int x1, .int x2] [] σ := by
  intro n
  induction n with
  | zero => intro x0 x1 x2 σ h_x0; exact rf_none
  | succ n ih =>
    intro x0 x1 x2 σ h_x0
    rw [f_Ct_run_33]
    refine rf_ild (i := 2) (Or.inr ⟨2, rfl, rfl, rfl⟩) c_152_33 rfl ?_
    refine rf_ild (i := 1) (Or.inr ⟨1, rfl, rfl, rfl⟩) c_152_34 rfl ?_
    refine rf_ite (fun hc35 => ?_) (fun hc35 => ?_)
    · refine rf_b2t c_152_35 rfl (decide_eq_true hc35) ?_
      refine rf_ald (i := 0) (Or.inr ⟨0, rfl, rfl, rfl⟩) c_152_51 rfl ?_
      refine rf_getr hS c_152_52 rfl fl_11_10 rfl h_x0 ?_
      refine rf_geti hS c_152_55 rfl fl_11_73 rfl (tf_11_0 h_x0) ?_
      exact rf_ret c_152_58 rfl rfl rfl rfl
    · refine rf_b2f c_152_35 rfl (decide_eq_false hc35) ?_
      refine rf_ald (i := 0) (Or.inr ⟨0, rfl, rfl, rfl⟩) c_152_38 rfl ?_
      refine rf_getr hS c_152_39 rfl fl_11_10 rfl h_x0 ?_
      refine rf_callV (as := [.ref (rfT x0 0)]) (kd := 1) c_152_42 rfl (by decide) rfl ml_11_328 (by decide) rfl (rcv_1 hS rfl rfl (tf_11_0 h_x0) (by decide)) (Nat.zero_le _) rfl rfl (t_St_letDayGoBy hS (by omega) (rfT x0 0) σ (tf_11_0 h_x0)) (fun v42 => ?_)
      refine rf_iinc c_152_45 rfl ki_1 rfl ?_
      refine rf_goto c_152_48 rfl ?_
      exact ih x0 x1 (x2 + (1 : Int32)) v42 h_x0
def f_Ct_run (x0 : Nat) (x1 : Int32) (σ : Mm) : Option (Int32 × Mm) := (f_Ct_isWithin σ x1 (1 : Int32) (60 : Int32)).bind fun v4 => (if ¬ v4 = 0 then (if ((σ (rfT x0 0) 8) + x1) ≤ (999 : Int32) then (f_Ct_run_33  NN x0 x1 (0 : Int32) σ) else (some ((-1000000003 : Int32), σ))) else (some ((-1000000001 : Int32), σ)))
set_option maxRecDepth 100000 in
set_option maxHeartbeats 4000000 in
theorem t_Ct_run_e {X : Xt} {S : Sh} (hS : ShOK S) {d : Nat} (hd : 11 ≤ d + 1) (x0 : Nat) (x1 : Int32) (σ : Mm) (h_x0 : tgT x0 = 11) : Rf X S emM (f_Ct_run x0 x1 σ) (d + 1) 152 0 [.ref x0, .int x1, unset0] [] σ := by
  unfold f_Ct_run
  refine rf_ild (i := 1) (Or.inr ⟨1, rfl, rfl, rfl⟩) c_152_0 rfl ?_
  refine rf_iconst c_152_1 ki_1 ?_
  refine rf_bipush c_152_2 kb_60 ?_
  refine rf_callI (as := [.int x1, .int (1 : Int32), .int (60 : Int32)]) (kd := 0) c_152_4 rfl (by decide) rfl ml_11_92 (by decide) rfl (rcv_0 rfl) (Nat.zero_le _) rfl rfl (t_Ct_isWithin hS (by omega) σ x1 (1 : Int32) (60 : Int32)) (fun v4 => ?_)
  refine rf_ite (fun hc7 => ?_) (fun hc7 => ?_)
  · refine rf_b1t c_152_7 rfl (decide_eq_true hc7) ?_
    refine rf_ald (i := 0) (Or.inr ⟨0, rfl, rfl, rfl⟩) c_152_13 rfl ?_
    refine rf_getr hS c_152_14 rfl fl_11_10 rfl h_x0 ?_
    refine rf_geti hS c_152_17 rfl fl_11_73 rfl (tf_11_0 h_x0) ?_
    refine rf_ild (i := 1) (Or.inr ⟨1, rfl, rfl, rfl⟩) c_152_20 rfl ?_
    refine rf_iadd c_152_21 ?_
    refine rf_sipush c_152_22 ks_999 ?_
    refine rf_ite (fun hc25 => ?_) (fun hc25 => ?_)
    · refine rf_b2t c_152_25 rfl (decide_eq_true hc25) ?_
      refine rf_iconst c_152_31 ki_0 ?_
      refine rf_ist (i := 2) (Or.inr ⟨2, rfl, rfl, rfl⟩) c_152_32 (Nat.le_of_ble_eq_true rfl) rfl ?_
      exact t_Ct_run_33 hS hd  NN x0 x1 (0 : Int32) σ h_x0
    · refine rf_b2f c_152_25 rfl (decide_eq_false hc25) ?_
      refine rf_ldc (Or.inl ⟨rfl, rfl⟩) c_152_28 rfl kl_11_91 ?_
      exact rf_ret c_152_30 rfl rfl rfl rfl
  · refine rf_b1f c_152_7 rfl (decide_eq_false hc7) ?_
    refine rf_ldc (Or.inl ⟨rfl, rfl⟩) c_152_10 rfl kl_11_72 ?_
    exact rf_ret c_152_12 rfl rfl rfl rfl
theorem t_Ct_run {X : Xt} {S : Sh} (hS : ShOK S) {d : Nat} (hd : 11 ≤ d) (x0 : Nat) (x1 : Int32) (σ : Mm) (h_x0 : tgT x0 = 11) : Rf X S emM (f_Ct_run x0 x1 σ) d 152 0 [.ref x0, .int x1, unset0] [] σ := by
  obtain ⟨d1, rfl⟩ : ∃ d1, d = d1 + 1 := ⟨d - 1, by omega⟩
  exact t_Ct_run_e hS hd x0 x1 σ h_x0
theorem c_153_0 : cd 153 0 = some (.iload_n 1, 1) := by decide +kernel
theorem c_153_1 : cd 153 1 = some (.iconst (0), 1) := by decide +kernel
theorem c_153_2 : cd 153 2 = some (.bipush (99), 2) := by decide +kernel
theorem c_153_4 : cd 153 4 = some (.invokestatic 92, 3) := by decide +kernel
theorem c_153_7 : cd 153 7 = some (.ifCond .eq (14), 3) := by decide +kernel
theorem c_153_10 : cd 153 10 = some (.aload_n 0, 1) := by decide +kernel
theorem c_153_11 : cd 153 11 = some (.getfield 10, 3) := by decide +kernel
theorem c_153_14 : cd 153 14 = some (.iload_n 1, 1) := by decide +kernel
theorem c_153_15 : cd 153 15 = some (.invokevirtual 331, 3) := by decide +kernel
theorem c_153_18 : cd 153 18 = some (.goto (5), 3) := by decide +kernel
theorem c_153_21 : cd 153 21 = some (.ldc 72, 2) := by decide +kernel
theorem c_153_23 : cd 153 23 = some (.ireturn, 1) := by decide +kernel
def f_Ct_beside_23 (σ : Mm) (y0 : Int32) : Option Int32 := some y0
set_option maxRecDepth 100000 in
set_option maxHeartbeats 4000000 in
theorem t_Ct_beside_23 {X : Xt} {S : Sh} (hS : ShOK S) {d : Nat} (hd : 2 ≤ d + 1) (σ : Mm) (y0 : Int32) (u0 : Value) (u1 : Value) : Rf X S (emI σ) (f_Ct_beside_23 σ y0) (d + 1) 153 23 [u0, u1] [.int y0] σ := by
  unfold f_Ct_beside_23
  exact rf_ret c_153_23 rfl rfl rfl rfl
def f_Ct_beside (σ : Mm) (x0 : Nat) (x1 : Int32) : Option Int32 := (f_Ct_isWithin σ x1 (0 : Int32) (99 : Int32)).bind fun v4 => (if v4 = 0 then (f_Ct_beside_23 σ (-1000000001 : Int32)) else ((f_St_tooLateBy σ (rfT x0 0) x1).bind fun v15 => f_Ct_beside_23 σ v15))
set_option maxRecDepth 100000 in
set_option maxHeartbeats 4000000 in
theorem t_Ct_beside_e {X : Xt} {S : Sh} (hS : ShOK S) {d : Nat} (hd : 2 ≤ d + 1) (σ : Mm) (x0 : Nat) (x1 : Int32) (h_x0 : tgT x0 = 11) : Rf X S (emI σ) (f_Ct_beside σ x0 x1) (d + 1) 153 0 [.ref x0, .int x1] [] σ := by
  unfold f_Ct_beside
  refine rf_ild (i := 1) (Or.inr ⟨1, rfl, rfl, rfl⟩) c_153_0 rfl ?_
  refine rf_iconst c_153_1 ki_0 ?_
  refine rf_bipush c_153_2 kb_99 ?_
  refine rf_callI (as := [.int x1, .int (0 : Int32), .int (99 : Int32)]) (kd := 0) c_153_4 rfl (by decide) rfl ml_11_92 (by decide) rfl (rcv_0 rfl) (Nat.zero_le _) rfl rfl (t_Ct_isWithin hS (by omega) σ x1 (0 : Int32) (99 : Int32)) (fun v4 => ?_)
  refine rf_ite (fun hc7 => ?_) (fun hc7 => ?_)
  · refine rf_b1t c_153_7 rfl (decide_eq_true hc7) ?_
    refine rf_ldc (Or.inl ⟨rfl, rfl⟩) c_153_21 rfl kl_11_72 ?_
    exact t_Ct_beside_23 hS hd σ  (-1000000001 : Int32) (.ref x0) (.int x1)
  · refine rf_b1f c_153_7 rfl (decide_eq_false hc7) ?_
    refine rf_ald (i := 0) (Or.inr ⟨0, rfl, rfl, rfl⟩) c_153_10 rfl ?_
    refine rf_getr hS c_153_11 rfl fl_11_10 rfl h_x0 ?_
    refine rf_ild (i := 1) (Or.inr ⟨1, rfl, rfl, rfl⟩) c_153_14 rfl ?_
    refine rf_callI (as := [.ref (rfT x0 0), .int x1]) (kd := 1) c_153_15 rfl (by decide) rfl ml_11_331 (by decide) rfl (rcv_1 hS rfl rfl (tf_11_0 h_x0) (by decide)) (Nat.zero_le _) rfl rfl (t_St_tooLateBy hS (by omega) σ (rfT x0 0) x1 (tf_11_0 h_x0)) (fun v15 => ?_)
    refine rf_goto c_153_18 rfl ?_
    exact t_Ct_beside_23 hS hd σ  v15 (.ref x0) (.int x1)
theorem t_Ct_beside {X : Xt} {S : Sh} (hS : ShOK S) {d : Nat} (hd : 2 ≤ d) (σ : Mm) (x0 : Nat) (x1 : Int32) (h_x0 : tgT x0 = 11) : Rf X S (emI σ) (f_Ct_beside σ x0 x1) d 153 0 [.ref x0, .int x1] [] σ := by
  obtain ⟨d1, rfl⟩ : ∃ d1, d = d1 + 1 := ⟨d - 1, by omega⟩
  exact t_Ct_beside_e hS hd σ x0 x1 h_x0
theorem c_154_0 : cd 154 0 = some (.aload_n 0, 1) := by decide +kernel
theorem c_154_1 : cd 154 1 = some (.iload_n 1, 1) := by decide +kernel
theorem c_154_2 : cd 154 2 = some (.invokevirtual 149, 3) := by decide +kernel
theorem c_154_5 : cd 154 5 = some (.ifCond .eq (22), 3) := by decide +kernel
theorem c_154_8 : cd 154 8 = some (.aload_n 0, 1) := by decide +kernel
theorem c_154_9 : cd 154 9 = some (.iload_n 2, 1) := by decide +kernel
theorem c_154_10 : cd 154 10 = some (.invokevirtual 64, 3) := by decide +kernel
theorem c_154_13 : cd 154 13 = some (.ifCond .eq (14), 3) := by decide +kernel
theorem c_154_16 : cd 154 16 = some (.iload_n 3, 1) := by decide +kernel
theorem c_154_17 : cd 154 17 = some (.iconst (0), 1) := by decide +kernel
theorem c_154_18 : cd 154 18 = some (.ldc_w 334, 3) := by decide +kernel
theorem c_154_21 : cd 154 21 = some (.invokestatic 92, 3) := by decide +kernel
theorem c_154_24 : cd 154 24 = some (.ifCond .ne (6), 3) := by decide +kernel
theorem c_154_27 : cd 154 27 = some (.ldc 72, 2) := by decide +kernel
theorem c_154_29 : cd 154 29 = some (.ireturn, 1) := by decide +kernel
theorem c_154_30 : cd 154 30 = some (.aload_n 0, 1) := by decide +kernel
theorem c_154_31 : cd 154 31 = some (.getfield 10, 3) := by decide +kernel
theorem c_154_34 : cd 154 34 = some (.getfield 335, 3) := by decide +kernel
theorem c_154_37 : cd 154 37 = some (.iload_n 1, 1) := by decide +kernel
theorem c_154_38 : cd 154 38 = some (.iload_n 2, 1) := by decide +kernel
theorem c_154_39 : cd 154 39 = some (.iload_n 3, 1) := by decide +kernel
theorem c_154_40 : cd 154 40 = some (.aload_n 0, 1) := by decide +kernel
theorem c_154_41 : cd 154 41 = some (.getfield 10, 3) := by decide +kernel
theorem c_154_44 : cd 154 44 = some (.getfield 73, 3) := by decide +kernel
theorem c_154_47 : cd 154 47 = some (.invokevirtual 339, 3) := by decide +kernel
theorem c_154_50 : cd 154 50 = some (.ireturn, 1) := by decide +kernel
def f_Ct_copy_27 (σ : Mm) : Option (Int32 × Mm) := some ((-1000000001 : Int32), σ)
set_option maxRecDepth 100000 in
set_option maxHeartbeats 4000000 in
theorem t_Ct_copy_27 {X : Xt} {S : Sh} (hS : ShOK S) {d : Nat} (hd : 2 ≤ d + 1) (u0 : Value) (u1 : Value) (u2 : Value) (u3 : Value) (σ : Mm) : Rf X S emM (f_Ct_copy_27 σ) (d + 1) 154 27 [u0, u1, u2, u3] [] σ := by
  unfold f_Ct_copy_27
  refine rf_ldc (Or.inl ⟨rfl, rfl⟩) c_154_27 rfl kl_11_72 ?_
  exact rf_ret c_154_29 rfl rfl rfl rfl
def f_Ct_copy (x0 : Nat) (x1 : Int32) (x2 : Int32) (x3 : Int32) (σ : Mm) : Option (Int32 × Mm) := (f_Ct_isPaper σ x0 x1).bind fun v2 => (if v2 = 0 then (f_Ct_copy_27  σ) else ((f_Ct_isOffice σ x0 x2).bind fun v10 => (if v10 = 0 then (f_Ct_copy_27  σ) else ((f_Ct_isWithin σ x3 (0 : Int32) (65535 : Int32)).bind fun v21 => (if ¬ v21 = 0 then ((f_Cp_add (rfT (rfT x0 0) 5) x1 x2 x3 (σ (rfT x0 0) 8) σ).bind fun v47 => some (v47.1, v47.2)) else (f_Ct_copy_27  σ))))))
set_option maxRecDepth 100000 in
set_option maxHeartbeats 4000000 in
theorem t_Ct_copy_e {X : Xt} {S : Sh} (hS : ShOK S) {d : Nat} (hd : 2 ≤ d + 1) (x0 : Nat) (x1 : Int32) (x2 : Int32) (x3 : Int32) (σ : Mm) (h_x0 : tgT x0 = 11) : Rf X S emM (f_Ct_copy x0 x1 x2 x3 σ) (d + 1) 154 0 [.ref x0, .int x1, .int x2, .int x3] [] σ := by
  unfold f_Ct_copy
  refine rf_ald (i := 0) (Or.inr ⟨0, rfl, rfl, rfl⟩) c_154_0 rfl ?_
  refine rf_ild (i := 1) (Or.inr ⟨1, rfl, rfl, rfl⟩) c_154_1 rfl ?_
  refine rf_callI (as := [.ref x0, .int x1]) (kd := 1) c_154_2 rfl (by decide) rfl ml_11_149 (by decide) rfl (rcv_1 hS rfl rfl h_x0 (by decide)) (Nat.zero_le _) rfl rfl (t_Ct_isPaper hS (by omega) σ x0 x1 h_x0) (fun v2 => ?_)
  refine rf_ite (fun hc5 => ?_) (fun hc5 => ?_)
  · refine rf_b1t c_154_5 rfl (decide_eq_true hc5) ?_
    exact t_Ct_copy_27 hS hd  (.ref x0) (.int x1) (.int x2) (.int x3) σ
  · refine rf_b1f c_154_5 rfl (decide_eq_false hc5) ?_
    refine rf_ald (i := 0) (Or.inr ⟨0, rfl, rfl, rfl⟩) c_154_8 rfl ?_
    refine rf_ild (i := 2) (Or.inr ⟨2, rfl, rfl, rfl⟩) c_154_9 rfl ?_
    refine rf_callI (as := [.ref x0, .int x2]) (kd := 1) c_154_10 rfl (by decide) rfl ml_11_64 (by decide) rfl (rcv_1 hS rfl rfl h_x0 (by decide)) (Nat.zero_le _) rfl rfl (t_Ct_isOffice hS (by omega) σ x0 x2 h_x0) (fun v10 => ?_)
    refine rf_ite (fun hc13 => ?_) (fun hc13 => ?_)
    · refine rf_b1t c_154_13 rfl (decide_eq_true hc13) ?_
      exact t_Ct_copy_27 hS hd  (.ref x0) (.int x1) (.int x2) (.int x3) σ
    · refine rf_b1f c_154_13 rfl (decide_eq_false hc13) ?_
      refine rf_ild (i := 3) (Or.inr ⟨3, rfl, rfl, rfl⟩) c_154_16 rfl ?_
      refine rf_iconst c_154_17 ki_0 ?_
      refine rf_ldc (Or.inr ⟨rfl, rfl⟩) c_154_18 rfl kl_11_334 ?_
      refine rf_callI (as := [.int x3, .int (0 : Int32), .int (65535 : Int32)]) (kd := 0) c_154_21 rfl (by decide) rfl ml_11_92 (by decide) rfl (rcv_0 rfl) (Nat.zero_le _) rfl rfl (t_Ct_isWithin hS (by omega) σ x3 (0 : Int32) (65535 : Int32)) (fun v21 => ?_)
      refine rf_ite (fun hc24 => ?_) (fun hc24 => ?_)
      · refine rf_b1t c_154_24 rfl (decide_eq_true hc24) ?_
        refine rf_ald (i := 0) (Or.inr ⟨0, rfl, rfl, rfl⟩) c_154_30 rfl ?_
        refine rf_getr hS c_154_31 rfl fl_11_10 rfl h_x0 ?_
        refine rf_getr hS c_154_34 rfl fl_11_335 rfl (tf_11_0 h_x0) ?_
        refine rf_ild (i := 1) (Or.inr ⟨1, rfl, rfl, rfl⟩) c_154_37 rfl ?_
        refine rf_ild (i := 2) (Or.inr ⟨2, rfl, rfl, rfl⟩) c_154_38 rfl ?_
        refine rf_ild (i := 3) (Or.inr ⟨3, rfl, rfl, rfl⟩) c_154_39 rfl ?_
        refine rf_ald (i := 0) (Or.inr ⟨0, rfl, rfl, rfl⟩) c_154_40 rfl ?_
        refine rf_getr hS c_154_41 rfl fl_11_10 rfl h_x0 ?_
        refine rf_geti hS c_154_44 rfl fl_11_73 rfl (tf_11_0 h_x0) ?_
        refine rf_callM (as := [.ref (rfT (rfT x0 0) 5), .int x1, .int x2, .int x3, .int (σ (rfT x0 0) 8)]) (kd := 1) c_154_47 rfl (by decide) rfl ml_11_339 (by decide) rfl (rcv_1 hS rfl rfl (tf_7_5 (tf_11_0 h_x0)) (by decide)) (Nat.zero_le _) rfl rfl (t_Cp_add hS (by omega) (rfT (rfT x0 0) 5) x1 x2 x3 (σ (rfT x0 0) 8) σ (tf_7_5 (tf_11_0 h_x0))) (fun v47 => ?_)
        exact rf_ret c_154_50 rfl rfl rfl rfl
      · refine rf_b1f c_154_24 rfl (decide_eq_false hc24) ?_
        exact t_Ct_copy_27 hS hd  (.ref x0) (.int x1) (.int x2) (.int x3) σ
theorem t_Ct_copy {X : Xt} {S : Sh} (hS : ShOK S) {d : Nat} (hd : 2 ≤ d) (x0 : Nat) (x1 : Int32) (x2 : Int32) (x3 : Int32) (σ : Mm) (h_x0 : tgT x0 = 11) : Rf X S emM (f_Ct_copy x0 x1 x2 x3 σ) d 154 0 [.ref x0, .int x1, .int x2, .int x3] [] σ := by
  obtain ⟨d1, rfl⟩ : ∃ d1, d = d1 + 1 := ⟨d - 1, by omega⟩
  exact t_Ct_copy_e hS hd x0 x1 x2 x3 σ h_x0
theorem c_155_0 : cd 155 0 = some (.iload_n 1, 1) := by decide +kernel
theorem c_155_1 : cd 155 1 = some (.iconst (0), 1) := by decide +kernel
theorem c_155_2 : cd 155 2 = some (.aload_n 0, 1) := by decide +kernel
theorem c_155_3 : cd 155 3 = some (.getfield 10, 3) := by decide +kernel
theorem c_155_6 : cd 155 6 = some (.getfield 335, 3) := by decide +kernel
theorem c_155_9 : cd 155 9 = some (.getfield 344, 3) := by decide +kernel
theorem c_155_12 : cd 155 12 = some (.iconst (1), 1) := by decide +kernel
theorem c_155_13 : cd 155 13 = some (.isub, 1) := by decide +kernel
theorem c_155_14 : cd 155 14 = some (.invokestatic 92, 3) := by decide +kernel
theorem c_155_17 : cd 155 17 = some (.ifCond .eq (20), 3) := by decide +kernel
theorem c_155_20 : cd 155 20 = some (.aload_n 0, 1) := by decide +kernel
theorem c_155_21 : cd 155 21 = some (.getfield 10, 3) := by decide +kernel
theorem c_155_24 : cd 155 24 = some (.getfield 335, 3) := by decide +kernel
theorem c_155_27 : cd 155 27 = some (.iload_n 1, 1) := by decide +kernel
theorem c_155_28 : cd 155 28 = some (.invokevirtual 345, 3) := by decide +kernel
theorem c_155_31 : cd 155 31 = some (.invokestatic 114, 3) := by decide +kernel
theorem c_155_34 : cd 155 34 = some (.goto (5), 3) := by decide +kernel
theorem c_155_37 : cd 155 37 = some (.ldc 72, 2) := by decide +kernel
theorem c_155_39 : cd 155 39 = some (.ireturn, 1) := by decide +kernel
def f_Ct_comesBack_39 (y0 : Int32) (σ : Mm) : Option (Int32 × Mm) := some (y0, σ)
set_option maxRecDepth 100000 in
set_option maxHeartbeats 4000000 in
theorem t_Ct_comesBack_39 {X : Xt} {S : Sh} (hS : ShOK S) {d : Nat} (hd : 1 ≤ d + 1) (y0 : Int32) (u0 : Value) (u1 : Value) (σ : Mm) : Rf X S emM (f_Ct_comesBack_39 y0 σ) (d + 1) 155 39 [u0, u1] [.int y0] σ := by
  unfold f_Ct_comesBack_39
  exact rf_ret c_155_39 rfl rfl rfl rfl
def f_Ct_comesBack (x0 : Nat) (x1 : Int32) (σ : Mm) : Option (Int32 × Mm) := (f_Ct_isWithin σ x1 (0 : Int32) ((σ (rfT (rfT x0 0) 5) 5) - (1 : Int32))).bind fun v14 => (if v14 = 0 then (f_Ct_comesBack_39  (-1000000001 : Int32) σ) else ((f_Cp_giveBack (rfT (rfT x0 0) 5) x1 σ).bind fun v28 => (f_Ct_bit v28.2 v28.1).bind fun v31 => f_Ct_comesBack_39  v31 v28.2))
set_option maxRecDepth 100000 in
set_option maxHeartbeats 4000000 in
theorem t_Ct_comesBack_e {X : Xt} {S : Sh} (hS : ShOK S) {d : Nat} (hd : 1 ≤ d + 1) (x0 : Nat) (x1 : Int32) (σ : Mm) (h_x0 : tgT x0 = 11) : Rf X S emM (f_Ct_comesBack x0 x1 σ) (d + 1) 155 0 [.ref x0, .int x1] [] σ := by
  unfold f_Ct_comesBack
  refine rf_ild (i := 1) (Or.inr ⟨1, rfl, rfl, rfl⟩) c_155_0 rfl ?_
  refine rf_iconst c_155_1 ki_0 ?_
  refine rf_ald (i := 0) (Or.inr ⟨0, rfl, rfl, rfl⟩) c_155_2 rfl ?_
  refine rf_getr hS c_155_3 rfl fl_11_10 rfl h_x0 ?_
  refine rf_getr hS c_155_6 rfl fl_11_335 rfl (tf_11_0 h_x0) ?_
  refine rf_geti hS c_155_9 rfl fl_11_344 rfl (tf_7_5 (tf_11_0 h_x0)) ?_
  refine rf_iconst c_155_12 ki_1 ?_
  refine rf_isub c_155_13 ?_
  refine rf_callI (as := [.int x1, .int (0 : Int32), .int ((σ (rfT (rfT x0 0) 5) 5) - (1 : Int32))]) (kd := 0) c_155_14 rfl (by decide) rfl ml_11_92 (by decide) rfl (rcv_0 rfl) (Nat.zero_le _) rfl rfl (t_Ct_isWithin hS (by omega) σ x1 (0 : Int32) ((σ (rfT (rfT x0 0) 5) 5) - (1 : Int32))) (fun v14 => ?_)
  refine rf_ite (fun hc17 => ?_) (fun hc17 => ?_)
  · refine rf_b1t c_155_17 rfl (decide_eq_true hc17) ?_
    refine rf_ldc (Or.inl ⟨rfl, rfl⟩) c_155_37 rfl kl_11_72 ?_
    exact t_Ct_comesBack_39 hS hd  (-1000000001 : Int32) (.ref x0) (.int x1) σ
  · refine rf_b1f c_155_17 rfl (decide_eq_false hc17) ?_
    refine rf_ald (i := 0) (Or.inr ⟨0, rfl, rfl, rfl⟩) c_155_20 rfl ?_
    refine rf_getr hS c_155_21 rfl fl_11_10 rfl h_x0 ?_
    refine rf_getr hS c_155_24 rfl fl_11_335 rfl (tf_11_0 h_x0) ?_
    refine rf_ild (i := 1) (Or.inr ⟨1, rfl, rfl, rfl⟩) c_155_27 rfl ?_
    refine rf_callM (as := [.ref (rfT (rfT x0 0) 5), .int x1]) (kd := 1) c_155_28 rfl (by decide) rfl ml_11_345 (by decide) rfl (rcv_1 hS rfl rfl (tf_7_5 (tf_11_0 h_x0)) (by decide)) (Nat.zero_le _) rfl rfl (t_Cp_giveBack hS (by omega) (rfT (rfT x0 0) 5) x1 σ (tf_7_5 (tf_11_0 h_x0))) (fun v28 => ?_)
    refine rf_callI (as := [.int v28.1]) (kd := 0) c_155_31 rfl (by decide) rfl ml_11_114 (by decide) rfl (rcv_0 rfl) (Nat.zero_le _) rfl rfl (t_Ct_bit hS (by omega) v28.2 v28.1) (fun v31 => ?_)
    refine rf_goto c_155_34 rfl ?_
    exact t_Ct_comesBack_39 hS hd  v31 (.ref x0) (.int x1) v28.2
theorem t_Ct_comesBack {X : Xt} {S : Sh} (hS : ShOK S) {d : Nat} (hd : 1 ≤ d) (x0 : Nat) (x1 : Int32) (σ : Mm) (h_x0 : tgT x0 = 11) : Rf X S emM (f_Ct_comesBack x0 x1 σ) d 155 0 [.ref x0, .int x1] [] σ := by
  obtain ⟨d1, rfl⟩ : ∃ d1, d = d1 + 1 := ⟨d - 1, by omega⟩
  exact t_Ct_comesBack_e hS hd x0 x1 σ h_x0
theorem c_156_0 : cd 156 0 = some (.aload_n 0, 1) := by decide +kernel
theorem c_156_1 : cd 156 1 = some (.iload_n 1, 1) := by decide +kernel
theorem c_156_2 : cd 156 2 = some (.invokevirtual 64, 3) := by decide +kernel
theorem c_156_5 : cd 156 5 = some (.ifCond .eq (17), 3) := by decide +kernel
theorem c_156_8 : cd 156 8 = some (.aload_n 0, 1) := by decide +kernel
theorem c_156_9 : cd 156 9 = some (.getfield 10, 3) := by decide +kernel
theorem c_156_12 : cd 156 12 = some (.getfield 335, 3) := by decide +kernel
theorem c_156_15 : cd 156 15 = some (.iload_n 1, 1) := by decide +kernel
theorem c_156_16 : cd 156 16 = some (.invokevirtual 348, 3) := by decide +kernel
theorem c_156_19 : cd 156 19 = some (.goto (5), 3) := by decide +kernel
theorem c_156_22 : cd 156 22 = some (.ldc 72, 2) := by decide +kernel
theorem c_156_24 : cd 156 24 = some (.ireturn, 1) := by decide +kernel
def f_Ct_out_24 (σ : Mm) (y0 : Int32) : Option Int32 := some y0
set_option maxRecDepth 100000 in
set_option maxHeartbeats 4000000 in
theorem t_Ct_out_24 {X : Xt} {S : Sh} (hS : ShOK S) {d : Nat} (hd : 2 ≤ d + 1) (σ : Mm) (y0 : Int32) (u0 : Value) (u1 : Value) : Rf X S (emI σ) (f_Ct_out_24 σ y0) (d + 1) 156 24 [u0, u1] [.int y0] σ := by
  unfold f_Ct_out_24
  exact rf_ret c_156_24 rfl rfl rfl rfl
def f_Ct_out (σ : Mm) (x0 : Nat) (x1 : Int32) : Option Int32 := (f_Ct_isOffice σ x0 x1).bind fun v2 => (if v2 = 0 then (f_Ct_out_24 σ (-1000000001 : Int32)) else ((f_Cp_outTo σ (rfT (rfT x0 0) 5) x1).bind fun v16 => f_Ct_out_24 σ v16))
set_option maxRecDepth 100000 in
set_option maxHeartbeats 4000000 in
theorem t_Ct_out_e {X : Xt} {S : Sh} (hS : ShOK S) {d : Nat} (hd : 2 ≤ d + 1) (σ : Mm) (x0 : Nat) (x1 : Int32) (h_x0 : tgT x0 = 11) : Rf X S (emI σ) (f_Ct_out σ x0 x1) (d + 1) 156 0 [.ref x0, .int x1] [] σ := by
  unfold f_Ct_out
  refine rf_ald (i := 0) (Or.inr ⟨0, rfl, rfl, rfl⟩) c_156_0 rfl ?_
  refine rf_ild (i := 1) (Or.inr ⟨1, rfl, rfl, rfl⟩) c_156_1 rfl ?_
  refine rf_callI (as := [.ref x0, .int x1]) (kd := 1) c_156_2 rfl (by decide) rfl ml_11_64 (by decide) rfl (rcv_1 hS rfl rfl h_x0 (by decide)) (Nat.zero_le _) rfl rfl (t_Ct_isOffice hS (by omega) σ x0 x1 h_x0) (fun v2 => ?_)
  refine rf_ite (fun hc5 => ?_) (fun hc5 => ?_)
  · refine rf_b1t c_156_5 rfl (decide_eq_true hc5) ?_
    refine rf_ldc (Or.inl ⟨rfl, rfl⟩) c_156_22 rfl kl_11_72 ?_
    exact t_Ct_out_24 hS hd σ  (-1000000001 : Int32) (.ref x0) (.int x1)
  · refine rf_b1f c_156_5 rfl (decide_eq_false hc5) ?_
    refine rf_ald (i := 0) (Or.inr ⟨0, rfl, rfl, rfl⟩) c_156_8 rfl ?_
    refine rf_getr hS c_156_9 rfl fl_11_10 rfl h_x0 ?_
    refine rf_getr hS c_156_12 rfl fl_11_335 rfl (tf_11_0 h_x0) ?_
    refine rf_ild (i := 1) (Or.inr ⟨1, rfl, rfl, rfl⟩) c_156_15 rfl ?_
    refine rf_callI (as := [.ref (rfT (rfT x0 0) 5), .int x1]) (kd := 1) c_156_16 rfl (by decide) rfl ml_11_348 (by decide) rfl (rcv_1 hS rfl rfl (tf_7_5 (tf_11_0 h_x0)) (by decide)) (Nat.zero_le _) rfl rfl (t_Cp_outTo hS (by omega) σ (rfT (rfT x0 0) 5) x1 (tf_7_5 (tf_11_0 h_x0))) (fun v16 => ?_)
    refine rf_goto c_156_19 rfl ?_
    exact t_Ct_out_24 hS hd σ  v16 (.ref x0) (.int x1)
theorem t_Ct_out {X : Xt} {S : Sh} (hS : ShOK S) {d : Nat} (hd : 2 ≤ d) (σ : Mm) (x0 : Nat) (x1 : Int32) (h_x0 : tgT x0 = 11) : Rf X S (emI σ) (f_Ct_out σ x0 x1) d 156 0 [.ref x0, .int x1] [] σ := by
  obtain ⟨d1, rfl⟩ : ∃ d1, d = d1 + 1 := ⟨d - 1, by omega⟩
  exact t_Ct_out_e hS hd σ x0 x1 h_x0
theorem c_157_0 : cd 157 0 = some (.aload_n 0, 1) := by decide +kernel
theorem c_157_1 : cd 157 1 = some (.iload_n 1, 1) := by decide +kernel
theorem c_157_2 : cd 157 2 = some (.invokevirtual 149, 3) := by decide +kernel
theorem c_157_5 : cd 157 5 = some (.ifCond .eq (25), 3) := by decide +kernel
theorem c_157_8 : cd 157 8 = some (.iload_n 2, 1) := by decide +kernel
theorem c_157_9 : cd 157 9 = some (.iconst (0), 1) := by decide +kernel
theorem c_157_10 : cd 157 10 = some (.sipush (255), 3) := by decide +kernel
theorem c_157_13 : cd 157 13 = some (.invokestatic 92, 3) := by decide +kernel
theorem c_157_16 : cd 157 16 = some (.ifCond .eq (14), 3) := by decide +kernel
theorem c_157_19 : cd 157 19 = some (.iload_n 3, 1) := by decide +kernel
theorem c_157_20 : cd 157 20 = some (.iconst (0), 1) := by decide +kernel
theorem c_157_21 : cd 157 21 = some (.ldc_w 334, 3) := by decide +kernel
theorem c_157_24 : cd 157 24 = some (.invokestatic 92, 3) := by decide +kernel
theorem c_157_27 : cd 157 27 = some (.ifCond .ne (6), 3) := by decide +kernel
theorem c_157_30 : cd 157 30 = some (.ldc 72, 2) := by decide +kernel
theorem c_157_32 : cd 157 32 = some (.ireturn, 1) := by decide +kernel
theorem c_157_33 : cd 157 33 = some (.aload_n 0, 1) := by decide +kernel
theorem c_157_34 : cd 157 34 = some (.getfield 10, 3) := by decide +kernel
theorem c_157_37 : cd 157 37 = some (.getfield 335, 3) := by decide +kernel
theorem c_157_40 : cd 157 40 = some (.iload_n 1, 1) := by decide +kernel
theorem c_157_41 : cd 157 41 = some (.iload_n 2, 1) := by decide +kernel
theorem c_157_42 : cd 157 42 = some (.iload_n 3, 1) := by decide +kernel
theorem c_157_43 : cd 157 43 = some (.invokevirtual 351, 3) := by decide +kernel
theorem c_157_46 : cd 157 46 = some (.ireturn, 1) := by decide +kernel
def f_Ct_suspect_30 (σ : Mm) : Option Int32 := some (-1000000001 : Int32)
set_option maxRecDepth 100000 in
set_option maxHeartbeats 4000000 in
theorem t_Ct_suspect_30 {X : Xt} {S : Sh} (hS : ShOK S) {d : Nat} (hd : 2 ≤ d + 1) (σ : Mm) (u0 : Value) (u1 : Value) (u2 : Value) (u3 : Value) : Rf X S (emI σ) (f_Ct_suspect_30 σ) (d + 1) 157 30 [u0, u1, u2, u3] [] σ := by
  unfold f_Ct_suspect_30
  refine rf_ldc (Or.inl ⟨rfl, rfl⟩) c_157_30 rfl kl_11_72 ?_
  exact rf_ret c_157_32 rfl rfl rfl rfl
def f_Ct_suspect (σ : Mm) (x0 : Nat) (x1 : Int32) (x2 : Int32) (x3 : Int32) : Option Int32 := (f_Ct_isPaper σ x0 x1).bind fun v2 => (if v2 = 0 then (f_Ct_suspect_30 σ ) else ((f_Ct_isWithin σ x2 (0 : Int32) (255 : Int32)).bind fun v13 => (if v13 = 0 then (f_Ct_suspect_30 σ ) else ((f_Ct_isWithin σ x3 (0 : Int32) (65535 : Int32)).bind fun v24 => (if ¬ v24 = 0 then ((f_Cp_alike σ (rfT (rfT x0 0) 5) x1 x2 x3).bind fun v43 => some v43) else (f_Ct_suspect_30 σ ))))))
set_option maxRecDepth 100000 in
set_option maxHeartbeats 4000000 in
theorem t_Ct_suspect_e {X : Xt} {S : Sh} (hS : ShOK S) {d : Nat} (hd : 2 ≤ d + 1) (σ : Mm) (x0 : Nat) (x1 : Int32) (x2 : Int32) (x3 : Int32) (h_x0 : tgT x0 = 11) : Rf X S (emI σ) (f_Ct_suspect σ x0 x1 x2 x3) (d + 1) 157 0 [.ref x0, .int x1, .int x2, .int x3] [] σ := by
  unfold f_Ct_suspect
  refine rf_ald (i := 0) (Or.inr ⟨0, rfl, rfl, rfl⟩) c_157_0 rfl ?_
  refine rf_ild (i := 1) (Or.inr ⟨1, rfl, rfl, rfl⟩) c_157_1 rfl ?_
  refine rf_callI (as := [.ref x0, .int x1]) (kd := 1) c_157_2 rfl (by decide) rfl ml_11_149 (by decide) rfl (rcv_1 hS rfl rfl h_x0 (by decide)) (Nat.zero_le _) rfl rfl (t_Ct_isPaper hS (by omega) σ x0 x1 h_x0) (fun v2 => ?_)
  refine rf_ite (fun hc5 => ?_) (fun hc5 => ?_)
  · refine rf_b1t c_157_5 rfl (decide_eq_true hc5) ?_
    exact t_Ct_suspect_30 hS hd σ  (.ref x0) (.int x1) (.int x2) (.int x3)
  · refine rf_b1f c_157_5 rfl (decide_eq_false hc5) ?_
    refine rf_ild (i := 2) (Or.inr ⟨2, rfl, rfl, rfl⟩) c_157_8 rfl ?_
    refine rf_iconst c_157_9 ki_0 ?_
    refine rf_sipush c_157_10 ks_255 ?_
    refine rf_callI (as := [.int x2, .int (0 : Int32), .int (255 : Int32)]) (kd := 0) c_157_13 rfl (by decide) rfl ml_11_92 (by decide) rfl (rcv_0 rfl) (Nat.zero_le _) rfl rfl (t_Ct_isWithin hS (by omega) σ x2 (0 : Int32) (255 : Int32)) (fun v13 => ?_)
    refine rf_ite (fun hc16 => ?_) (fun hc16 => ?_)
    · refine rf_b1t c_157_16 rfl (decide_eq_true hc16) ?_
      exact t_Ct_suspect_30 hS hd σ  (.ref x0) (.int x1) (.int x2) (.int x3)
    · refine rf_b1f c_157_16 rfl (decide_eq_false hc16) ?_
      refine rf_ild (i := 3) (Or.inr ⟨3, rfl, rfl, rfl⟩) c_157_19 rfl ?_
      refine rf_iconst c_157_20 ki_0 ?_
      refine rf_ldc (Or.inr ⟨rfl, rfl⟩) c_157_21 rfl kl_11_334 ?_
      refine rf_callI (as := [.int x3, .int (0 : Int32), .int (65535 : Int32)]) (kd := 0) c_157_24 rfl (by decide) rfl ml_11_92 (by decide) rfl (rcv_0 rfl) (Nat.zero_le _) rfl rfl (t_Ct_isWithin hS (by omega) σ x3 (0 : Int32) (65535 : Int32)) (fun v24 => ?_)
      refine rf_ite (fun hc27 => ?_) (fun hc27 => ?_)
      · refine rf_b1t c_157_27 rfl (decide_eq_true hc27) ?_
        refine rf_ald (i := 0) (Or.inr ⟨0, rfl, rfl, rfl⟩) c_157_33 rfl ?_
        refine rf_getr hS c_157_34 rfl fl_11_10 rfl h_x0 ?_
        refine rf_getr hS c_157_37 rfl fl_11_335 rfl (tf_11_0 h_x0) ?_
        refine rf_ild (i := 1) (Or.inr ⟨1, rfl, rfl, rfl⟩) c_157_40 rfl ?_
        refine rf_ild (i := 2) (Or.inr ⟨2, rfl, rfl, rfl⟩) c_157_41 rfl ?_
        refine rf_ild (i := 3) (Or.inr ⟨3, rfl, rfl, rfl⟩) c_157_42 rfl ?_
        refine rf_callI (as := [.ref (rfT (rfT x0 0) 5), .int x1, .int x2, .int x3]) (kd := 1) c_157_43 rfl (by decide) rfl ml_11_351 (by decide) rfl (rcv_1 hS rfl rfl (tf_7_5 (tf_11_0 h_x0)) (by decide)) (Nat.zero_le _) rfl rfl (t_Cp_alike hS (by omega) σ (rfT (rfT x0 0) 5) x1 x2 x3 (tf_7_5 (tf_11_0 h_x0))) (fun v43 => ?_)
        exact rf_ret c_157_46 rfl rfl rfl rfl
      · refine rf_b1f c_157_27 rfl (decide_eq_false hc27) ?_
        exact t_Ct_suspect_30 hS hd σ  (.ref x0) (.int x1) (.int x2) (.int x3)
theorem t_Ct_suspect {X : Xt} {S : Sh} (hS : ShOK S) {d : Nat} (hd : 2 ≤ d) (σ : Mm) (x0 : Nat) (x1 : Int32) (x2 : Int32) (x3 : Int32) (h_x0 : tgT x0 = 11) : Rf X S (emI σ) (f_Ct_suspect σ x0 x1 x2 x3) d 157 0 [.ref x0, .int x1, .int x2, .int x3] [] σ := by
  obtain ⟨d1, rfl⟩ : ∃ d1, d = d1 + 1 := ⟨d - 1, by omega⟩
  exact t_Ct_suspect_e hS hd σ x0 x1 x2 x3 h_x0
theorem c_158_0 : cd 158 0 = some (.aload_n 0, 1) := by decide +kernel
theorem c_158_1 : cd 158 1 = some (.iload_n 1, 1) := by decide +kernel
theorem c_158_2 : cd 158 2 = some (.invokevirtual 149, 3) := by decide +kernel
theorem c_158_5 : cd 158 5 = some (.ifCond .eq (25), 3) := by decide +kernel
theorem c_158_8 : cd 158 8 = some (.iload_n 2, 1) := by decide +kernel
theorem c_158_9 : cd 158 9 = some (.iconst (0), 1) := by decide +kernel
theorem c_158_10 : cd 158 10 = some (.sipush (255), 3) := by decide +kernel
theorem c_158_13 : cd 158 13 = some (.invokestatic 92, 3) := by decide +kernel
theorem c_158_16 : cd 158 16 = some (.ifCond .eq (14), 3) := by decide +kernel
theorem c_158_19 : cd 158 19 = some (.iload_n 3, 1) := by decide +kernel
theorem c_158_20 : cd 158 20 = some (.iconst (0), 1) := by decide +kernel
theorem c_158_21 : cd 158 21 = some (.ldc_w 334, 3) := by decide +kernel
theorem c_158_24 : cd 158 24 = some (.invokestatic 92, 3) := by decide +kernel
theorem c_158_27 : cd 158 27 = some (.ifCond .ne (6), 3) := by decide +kernel
theorem c_158_30 : cd 158 30 = some (.ldc 72, 2) := by decide +kernel
theorem c_158_32 : cd 158 32 = some (.ireturn, 1) := by decide +kernel
theorem c_158_33 : cd 158 33 = some (.aload_n 0, 1) := by decide +kernel
theorem c_158_34 : cd 158 34 = some (.getfield 10, 3) := by decide +kernel
theorem c_158_37 : cd 158 37 = some (.getfield 335, 3) := by decide +kernel
theorem c_158_40 : cd 158 40 = some (.aload_n 0, 1) := by decide +kernel
theorem c_158_41 : cd 158 41 = some (.getfield 10, 3) := by decide +kernel
theorem c_158_44 : cd 158 44 = some (.getfield 335, 3) := by decide +kernel
theorem c_158_47 : cd 158 47 = some (.iload_n 1, 1) := by decide +kernel
theorem c_158_48 : cd 158 48 = some (.iload_n 2, 1) := by decide +kernel
theorem c_158_49 : cd 158 49 = some (.iload_n 3, 1) := by decide +kernel
theorem c_158_50 : cd 158 50 = some (.invokevirtual 351, 3) := by decide +kernel
theorem c_158_53 : cd 158 53 = some (.iload_n 2, 1) := by decide +kernel
theorem c_158_54 : cd 158 54 = some (.invokevirtual 354, 3) := by decide +kernel
theorem c_158_57 : cd 158 57 = some (.ireturn, 1) := by decide +kernel
def f_Ct_look_30 (σ : Mm) : Option Int32 := some (-1000000001 : Int32)
set_option maxRecDepth 100000 in
set_option maxHeartbeats 4000000 in
theorem t_Ct_look_30 {X : Xt} {S : Sh} (hS : ShOK S) {d : Nat} (hd : 8 ≤ d + 1) (σ : Mm) (u0 : Value) (u1 : Value) (u2 : Value) (u3 : Value) : Rf X S (emI σ) (f_Ct_look_30 σ) (d + 1) 158 30 [u0, u1, u2, u3] [] σ := by
  unfold f_Ct_look_30
  refine rf_ldc (Or.inl ⟨rfl, rfl⟩) c_158_30 rfl kl_11_72 ?_
  exact rf_ret c_158_32 rfl rfl rfl rfl
def f_Ct_look (σ : Mm) (x0 : Nat) (x1 : Int32) (x2 : Int32) (x3 : Int32) : Option Int32 := (f_Ct_isPaper σ x0 x1).bind fun v2 => (if v2 = 0 then (f_Ct_look_30 σ ) else ((f_Ct_isWithin σ x2 (0 : Int32) (255 : Int32)).bind fun v13 => (if v13 = 0 then (f_Ct_look_30 σ ) else ((f_Ct_isWithin σ x3 (0 : Int32) (65535 : Int32)).bind fun v24 => (if ¬ v24 = 0 then ((f_Cp_alike σ (rfT (rfT x0 0) 5) x1 x2 x3).bind fun v50 => (f_Cp_bestPlace σ (rfT (rfT x0 0) 5) v50 x2).bind fun v54 => some v54) else (f_Ct_look_30 σ ))))))
set_option maxRecDepth 100000 in
set_option maxHeartbeats 4000000 in
theorem t_Ct_look_e {X : Xt} {S : Sh} (hS : ShOK S) {d : Nat} (hd : 8 ≤ d + 1) (σ : Mm) (x0 : Nat) (x1 : Int32) (x2 : Int32) (x3 : Int32) (h_x0 : tgT x0 = 11) : Rf X S (emI σ) (f_Ct_look σ x0 x1 x2 x3) (d + 1) 158 0 [.ref x0, .int x1, .int x2, .int x3] [] σ := by
  unfold f_Ct_look
  refine rf_ald (i := 0) (Or.inr ⟨0, rfl, rfl, rfl⟩) c_158_0 rfl ?_
  refine rf_ild (i := 1) (Or.inr ⟨1, rfl, rfl, rfl⟩) c_158_1 rfl ?_
  refine rf_callI (as := [.ref x0, .int x1]) (kd := 1) c_158_2 rfl (by decide) rfl ml_11_149 (by decide) rfl (rcv_1 hS rfl rfl h_x0 (by decide)) (Nat.zero_le _) rfl rfl (t_Ct_isPaper hS (by omega) σ x0 x1 h_x0) (fun v2 => ?_)
  refine rf_ite (fun hc5 => ?_) (fun hc5 => ?_)
  · refine rf_b1t c_158_5 rfl (decide_eq_true hc5) ?_
    exact t_Ct_look_30 hS hd σ  (.ref x0) (.int x1) (.int x2) (.int x3)
  · refine rf_b1f c_158_5 rfl (decide_eq_false hc5) ?_
    refine rf_ild (i := 2) (Or.inr ⟨2, rfl, rfl, rfl⟩) c_158_8 rfl ?_
    refine rf_iconst c_158_9 ki_0 ?_
    refine rf_sipush c_158_10 ks_255 ?_
    refine rf_callI (as := [.int x2, .int (0 : Int32), .int (255 : Int32)]) (kd := 0) c_158_13 rfl (by decide) rfl ml_11_92 (by decide) rfl (rcv_0 rfl) (Nat.zero_le _) rfl rfl (t_Ct_isWithin hS (by omega) σ x2 (0 : Int32) (255 : Int32)) (fun v13 => ?_)
    refine rf_ite (fun hc16 => ?_) (fun hc16 => ?_)
    · refine rf_b1t c_158_16 rfl (decide_eq_true hc16) ?_
      exact t_Ct_look_30 hS hd σ  (.ref x0) (.int x1) (.int x2) (.int x3)
    · refine rf_b1f c_158_16 rfl (decide_eq_false hc16) ?_
      refine rf_ild (i := 3) (Or.inr ⟨3, rfl, rfl, rfl⟩) c_158_19 rfl ?_
      refine rf_iconst c_158_20 ki_0 ?_
      refine rf_ldc (Or.inr ⟨rfl, rfl⟩) c_158_21 rfl kl_11_334 ?_
      refine rf_callI (as := [.int x3, .int (0 : Int32), .int (65535 : Int32)]) (kd := 0) c_158_24 rfl (by decide) rfl ml_11_92 (by decide) rfl (rcv_0 rfl) (Nat.zero_le _) rfl rfl (t_Ct_isWithin hS (by omega) σ x3 (0 : Int32) (65535 : Int32)) (fun v24 => ?_)
      refine rf_ite (fun hc27 => ?_) (fun hc27 => ?_)
      · refine rf_b1t c_158_27 rfl (decide_eq_true hc27) ?_
        refine rf_ald (i := 0) (Or.inr ⟨0, rfl, rfl, rfl⟩) c_158_33 rfl ?_
        refine rf_getr hS c_158_34 rfl fl_11_10 rfl h_x0 ?_
        refine rf_getr hS c_158_37 rfl fl_11_335 rfl (tf_11_0 h_x0) ?_
        refine rf_ald (i := 0) (Or.inr ⟨0, rfl, rfl, rfl⟩) c_158_40 rfl ?_
        refine rf_getr hS c_158_41 rfl fl_11_10 rfl h_x0 ?_
        refine rf_getr hS c_158_44 rfl fl_11_335 rfl (tf_11_0 h_x0) ?_
        refine rf_ild (i := 1) (Or.inr ⟨1, rfl, rfl, rfl⟩) c_158_47 rfl ?_
        refine rf_ild (i := 2) (Or.inr ⟨2, rfl, rfl, rfl⟩) c_158_48 rfl ?_
        refine rf_ild (i := 3) (Or.inr ⟨3, rfl, rfl, rfl⟩) c_158_49 rfl ?_
        refine rf_callI (as := [.ref (rfT (rfT x0 0) 5), .int x1, .int x2, .int x3]) (kd := 1) c_158_50 rfl (by decide) rfl ml_11_351 (by decide) rfl (rcv_1 hS rfl rfl (tf_7_5 (tf_11_0 h_x0)) (by decide)) (by simp [Value.category]) rfl rfl (t_Cp_alike hS (by omega) σ (rfT (rfT x0 0) 5) x1 x2 x3 (tf_7_5 (tf_11_0 h_x0))) (fun v50 => ?_)
        refine rf_ild (i := 2) (Or.inr ⟨2, rfl, rfl, rfl⟩) c_158_53 rfl ?_
        refine rf_callI (as := [.ref (rfT (rfT x0 0) 5), .int v50, .int x2]) (kd := 1) c_158_54 rfl (by decide) rfl ml_11_354 (by decide) rfl (rcv_1 hS rfl rfl (tf_7_5 (tf_11_0 h_x0)) (by decide)) (Nat.zero_le _) rfl rfl (t_Cp_bestPlace hS (by omega) σ (rfT (rfT x0 0) 5) v50 x2 (tf_7_5 (tf_11_0 h_x0))) (fun v54 => ?_)
        exact rf_ret c_158_57 rfl rfl rfl rfl
      · refine rf_b1f c_158_27 rfl (decide_eq_false hc27) ?_
        exact t_Ct_look_30 hS hd σ  (.ref x0) (.int x1) (.int x2) (.int x3)
theorem t_Ct_look {X : Xt} {S : Sh} (hS : ShOK S) {d : Nat} (hd : 8 ≤ d) (σ : Mm) (x0 : Nat) (x1 : Int32) (x2 : Int32) (x3 : Int32) (h_x0 : tgT x0 = 11) : Rf X S (emI σ) (f_Ct_look σ x0 x1 x2 x3) d 158 0 [.ref x0, .int x1, .int x2, .int x3] [] σ := by
  obtain ⟨d1, rfl⟩ : ∃ d1, d = d1 + 1 := ⟨d - 1, by omega⟩
  exact t_Ct_look_e hS hd σ x0 x1 x2 x3 h_x0
theorem c_159_0 : cd 159 0 = some (.aload_n 0, 1) := by decide +kernel
theorem c_159_1 : cd 159 1 = some (.iload_n 1, 1) := by decide +kernel
theorem c_159_2 : cd 159 2 = some (.invokevirtual 64, 3) := by decide +kernel
theorem c_159_5 : cd 159 5 = some (.ifCond .eq (10), 3) := by decide +kernel
theorem c_159_8 : cd 159 8 = some (.iload_n 2, 1) := by decide +kernel
theorem c_159_9 : cd 159 9 = some (.invokestatic 81, 3) := by decide +kernel
theorem c_159_12 : cd 159 12 = some (.ifCond .ne (6), 3) := by decide +kernel
theorem c_159_15 : cd 159 15 = some (.ldc 72, 2) := by decide +kernel
theorem c_159_17 : cd 159 17 = some (.ireturn, 1) := by decide +kernel
theorem c_159_18 : cd 159 18 = some (.aload_n 0, 1) := by decide +kernel
theorem c_159_19 : cd 159 19 = some (.getfield 10, 3) := by decide +kernel
theorem c_159_22 : cd 159 22 = some (.iload_n 1, 1) := by decide +kernel
theorem c_159_23 : cd 159 23 = some (.iload_n 2, 1) := by decide +kernel
theorem c_159_24 : cd 159 24 = some (.invokevirtual 357, 3) := by decide +kernel
theorem c_159_27 : cd 159 27 = some (.ireturn, 1) := by decide +kernel
def f_Ct_knows_15 (σ : Mm) : Option Int32 := some (-1000000001 : Int32)
set_option maxRecDepth 100000 in
set_option maxHeartbeats 4000000 in
theorem t_Ct_knows_15 {X : Xt} {S : Sh} (hS : ShOK S) {d : Nat} (hd : 4 ≤ d + 1) (σ : Mm) (u0 : Value) (u1 : Value) (u2 : Value) : Rf X S (emI σ) (f_Ct_knows_15 σ) (d + 1) 159 15 [u0, u1, u2] [] σ := by
  unfold f_Ct_knows_15
  refine rf_ldc (Or.inl ⟨rfl, rfl⟩) c_159_15 rfl kl_11_72 ?_
  exact rf_ret c_159_17 rfl rfl rfl rfl
def f_Ct_knows (σ : Mm) (x0 : Nat) (x1 : Int32) (x2 : Int32) : Option Int32 := (f_Ct_isOffice σ x0 x1).bind fun v2 => (if v2 = 0 then (f_Ct_knows_15 σ ) else ((f_Ct_isDay σ x2).bind fun v9 => (if ¬ v9 = 0 then ((f_St_papersKnownTo σ (rfT x0 0) x1 x2).bind fun v24 => some v24) else (f_Ct_knows_15 σ ))))
set_option maxRecDepth 100000 in
set_option maxHeartbeats 4000000 in
theorem t_Ct_knows_e {X : Xt} {S : Sh} (hS : ShOK S) {d : Nat} (hd : 4 ≤ d + 1) (σ : Mm) (x0 : Nat) (x1 : Int32) (x2 : Int32) (h_x0 : tgT x0 = 11) : Rf X S (emI σ) (f_Ct_knows σ x0 x1 x2) (d + 1) 159 0 [.ref x0, .int x1, .int x2] [] σ := by
  unfold f_Ct_knows
  refine rf_ald (i := 0) (Or.inr ⟨0, rfl, rfl, rfl⟩) c_159_0 rfl ?_
  refine rf_ild (i := 1) (Or.inr ⟨1, rfl, rfl, rfl⟩) c_159_1 rfl ?_
  refine rf_callI (as := [.ref x0, .int x1]) (kd := 1) c_159_2 rfl (by decide) rfl ml_11_64 (by decide) rfl (rcv_1 hS rfl rfl h_x0 (by decide)) (Nat.zero_le _) rfl rfl (t_Ct_isOffice hS (by omega) σ x0 x1 h_x0) (fun v2 => ?_)
  refine rf_ite (fun hc5 => ?_) (fun hc5 => ?_)
  · refine rf_b1t c_159_5 rfl (decide_eq_true hc5) ?_
    exact t_Ct_knows_15 hS hd σ  (.ref x0) (.int x1) (.int x2)
  · refine rf_b1f c_159_5 rfl (decide_eq_false hc5) ?_
    refine rf_ild (i := 2) (Or.inr ⟨2, rfl, rfl, rfl⟩) c_159_8 rfl ?_
    refine rf_callI (as := [.int x2]) (kd := 0) c_159_9 rfl (by decide) rfl ml_11_81 (by decide) rfl (rcv_0 rfl) (Nat.zero_le _) rfl rfl (t_Ct_isDay hS (by omega) σ x2) (fun v9 => ?_)
    refine rf_ite (fun hc12 => ?_) (fun hc12 => ?_)
    · refine rf_b1t c_159_12 rfl (decide_eq_true hc12) ?_
      refine rf_ald (i := 0) (Or.inr ⟨0, rfl, rfl, rfl⟩) c_159_18 rfl ?_
      refine rf_getr hS c_159_19 rfl fl_11_10 rfl h_x0 ?_
      refine rf_ild (i := 1) (Or.inr ⟨1, rfl, rfl, rfl⟩) c_159_22 rfl ?_
      refine rf_ild (i := 2) (Or.inr ⟨2, rfl, rfl, rfl⟩) c_159_23 rfl ?_
      refine rf_callI (as := [.ref (rfT x0 0), .int x1, .int x2]) (kd := 1) c_159_24 rfl (by decide) rfl ml_11_357 (by decide) rfl (rcv_1 hS rfl rfl (tf_11_0 h_x0) (by decide)) (Nat.zero_le _) rfl rfl (t_St_papersKnownTo hS (by omega) σ (rfT x0 0) x1 x2 (tf_11_0 h_x0)) (fun v24 => ?_)
      exact rf_ret c_159_27 rfl rfl rfl rfl
    · refine rf_b1f c_159_12 rfl (decide_eq_false hc12) ?_
      exact t_Ct_knows_15 hS hd σ  (.ref x0) (.int x1) (.int x2)
theorem t_Ct_knows {X : Xt} {S : Sh} (hS : ShOK S) {d : Nat} (hd : 4 ≤ d) (σ : Mm) (x0 : Nat) (x1 : Int32) (x2 : Int32) (h_x0 : tgT x0 = 11) : Rf X S (emI σ) (f_Ct_knows σ x0 x1 x2) d 159 0 [.ref x0, .int x1, .int x2] [] σ := by
  obtain ⟨d1, rfl⟩ : ∃ d1, d = d1 + 1 := ⟨d - 1, by omega⟩
  exact t_Ct_knows_e hS hd σ x0 x1 x2 h_x0
theorem c_160_0 : cd 160 0 = some (.aload_n 0, 1) := by decide +kernel
theorem c_160_1 : cd 160 1 = some (.getfield 10, 3) := by decide +kernel
theorem c_160_4 : cd 160 4 = some (.invokevirtual 360, 3) := by decide +kernel
theorem c_160_7 : cd 160 7 = some (.ireturn, 1) := by decide +kernel
def f_Ct_open (σ : Mm) (x0 : Nat) : Option Int32 := (f_St_openPapers σ (rfT x0 0)).bind fun v4 => some v4
set_option maxRecDepth 100000 in
set_option maxHeartbeats 4000000 in
theorem t_Ct_open_e {X : Xt} {S : Sh} (hS : ShOK S) {d : Nat} (hd : 11 ≤ d + 1) (σ : Mm) (x0 : Nat) (h_x0 : tgT x0 = 11) : Rf X S (emI σ) (f_Ct_open σ x0) (d + 1) 160 0 [.ref x0] [] σ := by
  unfold f_Ct_open
  refine rf_ald (i := 0) (Or.inr ⟨0, rfl, rfl, rfl⟩) c_160_0 rfl ?_
  refine rf_getr hS c_160_1 rfl fl_11_10 rfl h_x0 ?_
  refine rf_callI (as := [.ref (rfT x0 0)]) (kd := 1) c_160_4 rfl (by decide) rfl ml_11_360 (by decide) rfl (rcv_1 hS rfl rfl (tf_11_0 h_x0) (by decide)) (Nat.zero_le _) rfl rfl (t_St_openPapers hS (by omega) σ (rfT x0 0) (tf_11_0 h_x0)) (fun v4 => ?_)
  exact rf_ret c_160_7 rfl rfl rfl rfl
theorem t_Ct_open {X : Xt} {S : Sh} (hS : ShOK S) {d : Nat} (hd : 11 ≤ d) (σ : Mm) (x0 : Nat) (h_x0 : tgT x0 = 11) : Rf X S (emI σ) (f_Ct_open σ x0) d 160 0 [.ref x0] [] σ := by
  obtain ⟨d1, rfl⟩ : ∃ d1, d = d1 + 1 := ⟨d - 1, by omega⟩
  exact t_Ct_open_e hS hd σ x0 h_x0
theorem c_161_0 : cd 161 0 = some (.iload_n 1, 1) := by decide +kernel
theorem c_161_1 : cd 161 1 = some (.iconst (1), 1) := by decide +kernel
theorem c_161_2 : cd 161 2 = some (.ldc_w 363, 3) := by decide +kernel
theorem c_161_5 : cd 161 5 = some (.invokestatic 92, 3) := by decide +kernel
theorem c_161_8 : cd 161 8 = some (.ifCond .ne (6), 3) := by decide +kernel
theorem c_161_11 : cd 161 11 = some (.ldc 72, 2) := by decide +kernel
theorem c_161_13 : cd 161 13 = some (.ireturn, 1) := by decide +kernel
theorem c_161_14 : cd 161 14 = some (.aload_n 0, 1) := by decide +kernel
theorem c_161_15 : cd 161 15 = some (.getfield 10, 3) := by decide +kernel
theorem c_161_18 : cd 161 18 = some (.getfield 364, 3) := by decide +kernel
theorem c_161_21 : cd 161 21 = some (.bipush (8), 2) := by decide +kernel
theorem c_161_23 : cd 161 23 = some (.if_icmp .lt (6), 3) := by decide +kernel
theorem c_161_26 : cd 161 26 = some (.ldc 91, 2) := by decide +kernel
theorem c_161_28 : cd 161 28 = some (.ireturn, 1) := by decide +kernel
theorem c_161_29 : cd 161 29 = some (.aload_n 0, 1) := by decide +kernel
theorem c_161_30 : cd 161 30 = some (.getfield 10, 3) := by decide +kernel
theorem c_161_33 : cd 161 33 = some (.getfield 367, 3) := by decide +kernel
theorem c_161_36 : cd 161 36 = some (.aload_n 0, 1) := by decide +kernel
theorem c_161_37 : cd 161 37 = some (.getfield 10, 3) := by decide +kernel
theorem c_161_40 : cd 161 40 = some (.getfield 364, 3) := by decide +kernel
theorem c_161_43 : cd 161 43 = some (.iload_n 1, 1) := by decide +kernel
theorem c_161_44 : cd 161 44 = some (.iastore, 1) := by decide +kernel
theorem c_161_45 : cd 161 45 = some (.aload_n 0, 1) := by decide +kernel
theorem c_161_46 : cd 161 46 = some (.getfield 10, 3) := by decide +kernel
theorem c_161_49 : cd 161 49 = some (.dup, 1) := by decide +kernel
theorem c_161_50 : cd 161 50 = some (.getfield 364, 3) := by decide +kernel
theorem c_161_53 : cd 161 53 = some (.iconst (1), 1) := by decide +kernel
theorem c_161_54 : cd 161 54 = some (.iadd, 1) := by decide +kernel
theorem c_161_55 : cd 161 55 = some (.putfield 364, 3) := by decide +kernel
theorem c_161_58 : cd 161 58 = some (.aload_n 0, 1) := by decide +kernel
theorem c_161_59 : cd 161 59 = some (.getfield 10, 3) := by decide +kernel
theorem c_161_62 : cd 161 62 = some (.getfield 364, 3) := by decide +kernel
theorem c_161_65 : cd 161 65 = some (.iconst (1), 1) := by decide +kernel
theorem c_161_66 : cd 161 66 = some (.isub, 1) := by decide +kernel
theorem c_161_67 : cd 161 67 = some (.ireturn, 1) := by decide +kernel
def f_Ct_group (x0 : Nat) (x1 : Int32) (σ : Mm) : Option (Int32 × Mm) := (f_Ct_isWithin σ x1 (1 : Int32) (16777215 : Int32)).bind fun v5 => (if ¬ v5 = 0 then (if (σ (rfT x0 0) 12) < (8 : Int32) then (if inbB (σ (rfT x0 0) 12) 8 = true then nmM (up2 σ (rfT (rfT x0 0) 6) (ix (σ (rfT x0 0) 12)) x1) fun σ44 => nmM (up2 σ44 (rfT x0 0) 12 ((σ44 (rfT x0 0) 12) + (1 : Int32))) fun σ55 => some (((σ55 (rfT x0 0) 12) - (1 : Int32)), σ55) else none) else (some ((-1000000003 : Int32), σ))) else (some ((-1000000001 : Int32), σ)))
set_option maxRecDepth 100000 in
set_option maxHeartbeats 4000000 in
theorem t_Ct_group_e {X : Xt} {S : Sh} (hS : ShOK S) {d : Nat} (hd : 1 ≤ d + 1) (x0 : Nat) (x1 : Int32) (σ : Mm) (h_x0 : tgT x0 = 11) : Rf X S emM (f_Ct_group x0 x1 σ) (d + 1) 161 0 [.ref x0, .int x1] [] σ := by
  unfold f_Ct_group
  refine rf_ild (i := 1) (Or.inr ⟨1, rfl, rfl, rfl⟩) c_161_0 rfl ?_
  refine rf_iconst c_161_1 ki_1 ?_
  refine rf_ldc (Or.inr ⟨rfl, rfl⟩) c_161_2 rfl kl_11_363 ?_
  refine rf_callI (as := [.int x1, .int (1 : Int32), .int (16777215 : Int32)]) (kd := 0) c_161_5 rfl (by decide) rfl ml_11_92 (by decide) rfl (rcv_0 rfl) (Nat.zero_le _) rfl rfl (t_Ct_isWithin hS (by omega) σ x1 (1 : Int32) (16777215 : Int32)) (fun v5 => ?_)
  refine rf_ite (fun hc8 => ?_) (fun hc8 => ?_)
  · refine rf_b1t c_161_8 rfl (decide_eq_true hc8) ?_
    refine rf_ald (i := 0) (Or.inr ⟨0, rfl, rfl, rfl⟩) c_161_14 rfl ?_
    refine rf_getr hS c_161_15 rfl fl_11_10 rfl h_x0 ?_
    refine rf_geti hS c_161_18 rfl fl_11_364 rfl (tf_11_0 h_x0) ?_
    refine rf_bipush c_161_21 kb_8 ?_
    refine rf_ite (fun hc23 => ?_) (fun hc23 => ?_)
    · refine rf_b2t c_161_23 rfl (decide_eq_true hc23) ?_
      refine rf_ald (i := 0) (Or.inr ⟨0, rfl, rfl, rfl⟩) c_161_29 rfl ?_
      refine rf_getr hS c_161_30 rfl fl_11_10 rfl h_x0 ?_
      refine rf_getr hS c_161_33 rfl fl_11_367 rfl (tf_11_0 h_x0) ?_
      refine rf_ald (i := 0) (Or.inr ⟨0, rfl, rfl, rfl⟩) c_161_36 rfl ?_
      refine rf_getr hS c_161_37 rfl fl_11_10 rfl h_x0 ?_
      refine rf_geti hS c_161_40 rfl fl_11_364 rfl (tf_11_0 h_x0) ?_
      refine rf_ild (i := 1) (Or.inr ⟨1, rfl, rfl, rfl⟩) c_161_43 rfl ?_
      refine rf_ite (fun hb44 => ?_) (fun _ => rf_none)
      refine rf_iast hS c_161_44 (tf_7_6 (tf_11_0 h_x0)) (lf_7_6 (tf_11_0 h_x0)) hb44 ?_
      refine rf_nm (fun σ44 => ?_)
      refine rf_ald (i := 0) (Or.inr ⟨0, rfl, rfl, rfl⟩) c_161_45 rfl ?_
      refine rf_getr hS c_161_46 rfl fl_11_10 rfl h_x0 ?_
      refine rf_dup c_161_49 rfl ?_
      refine rf_geti hS c_161_50 rfl fl_11_364 rfl (tf_11_0 h_x0) ?_
      refine rf_iconst c_161_53 ki_1 ?_
      refine rf_iadd c_161_54 ?_
      refine rf_puti hS c_161_55 rfl fl_11_364 rfl rfl rfl rfl (tf_11_0 h_x0) ?_
      refine rf_nm (fun σ55 => ?_)
      refine rf_ald (i := 0) (Or.inr ⟨0, rfl, rfl, rfl⟩) c_161_58 rfl ?_
      refine rf_getr hS c_161_59 rfl fl_11_10 rfl h_x0 ?_
      refine rf_geti hS c_161_62 rfl fl_11_364 rfl (tf_11_0 h_x0) ?_
      refine rf_iconst c_161_65 ki_1 ?_
      refine rf_isub c_161_66 ?_
      exact rf_ret c_161_67 rfl rfl rfl rfl
    · refine rf_b2f c_161_23 rfl (decide_eq_false hc23) ?_
      refine rf_ldc (Or.inl ⟨rfl, rfl⟩) c_161_26 rfl kl_11_91 ?_
      exact rf_ret c_161_28 rfl rfl rfl rfl
  · refine rf_b1f c_161_8 rfl (decide_eq_false hc8) ?_
    refine rf_ldc (Or.inl ⟨rfl, rfl⟩) c_161_11 rfl kl_11_72 ?_
    exact rf_ret c_161_13 rfl rfl rfl rfl
theorem t_Ct_group {X : Xt} {S : Sh} (hS : ShOK S) {d : Nat} (hd : 1 ≤ d) (x0 : Nat) (x1 : Int32) (σ : Mm) (h_x0 : tgT x0 = 11) : Rf X S emM (f_Ct_group x0 x1 σ) d 161 0 [.ref x0, .int x1] [] σ := by
  obtain ⟨d1, rfl⟩ : ∃ d1, d = d1 + 1 := ⟨d - 1, by omega⟩
  exact t_Ct_group_e hS hd x0 x1 σ h_x0
theorem c_162_0 : cd 162 0 = some (.aload_n 0, 1) := by decide +kernel
theorem c_162_1 : cd 162 1 = some (.getfield 10, 3) := by decide +kernel
theorem c_162_4 : cd 162 4 = some (.aload_n 0, 1) := by decide +kernel
theorem c_162_5 : cd 162 5 = some (.getfield 10, 3) := by decide +kernel
theorem c_162_8 : cd 162 8 = some (.invokevirtual 360, 3) := by decide +kernel
theorem c_162_11 : cd 162 11 = some (.invokevirtual 370, 3) := by decide +kernel
theorem c_162_14 : cd 162 14 = some (.ireturn, 1) := by decide +kernel
def f_Ct_reckoned (σ : Mm) (x0 : Nat) : Option Int32 := (f_St_openPapers σ (rfT x0 0)).bind fun v8 => (f_St_reckonedFrom σ (rfT x0 0) v8).bind fun v11 => some v11
set_option maxRecDepth 100000 in
set_option maxHeartbeats 4000000 in
theorem t_Ct_reckoned_e {X : Xt} {S : Sh} (hS : ShOK S) {d : Nat} (hd : 11 ≤ d + 1) (σ : Mm) (x0 : Nat) (h_x0 : tgT x0 = 11) : Rf X S (emI σ) (f_Ct_reckoned σ x0) (d + 1) 162 0 [.ref x0] [] σ := by
  unfold f_Ct_reckoned
  refine rf_ald (i := 0) (Or.inr ⟨0, rfl, rfl, rfl⟩) c_162_0 rfl ?_
  refine rf_getr hS c_162_1 rfl fl_11_10 rfl h_x0 ?_
  refine rf_ald (i := 0) (Or.inr ⟨0, rfl, rfl, rfl⟩) c_162_4 rfl ?_
  refine rf_getr hS c_162_5 rfl fl_11_10 rfl h_x0 ?_
  refine rf_callI (as := [.ref (rfT x0 0)]) (kd := 1) c_162_8 rfl (by decide) rfl ml_11_360 (by decide) rfl (rcv_1 hS rfl rfl (tf_11_0 h_x0) (by decide)) (by simp [Value.category]) rfl rfl (t_St_openPapers hS (by omega) σ (rfT x0 0) (tf_11_0 h_x0)) (fun v8 => ?_)
  refine rf_callI (as := [.ref (rfT x0 0), .int v8]) (kd := 1) c_162_11 rfl (by decide) rfl ml_11_370 (by decide) rfl (rcv_1 hS rfl rfl (tf_11_0 h_x0) (by decide)) (Nat.zero_le _) rfl rfl (t_St_reckonedFrom hS (by omega) σ (rfT x0 0) v8 (tf_11_0 h_x0)) (fun v11 => ?_)
  exact rf_ret c_162_14 rfl rfl rfl rfl
theorem t_Ct_reckoned {X : Xt} {S : Sh} (hS : ShOK S) {d : Nat} (hd : 11 ≤ d) (σ : Mm) (x0 : Nat) (h_x0 : tgT x0 = 11) : Rf X S (emI σ) (f_Ct_reckoned σ x0) d 162 0 [.ref x0] [] σ := by
  obtain ⟨d1, rfl⟩ : ∃ d1, d = d1 + 1 := ⟨d - 1, by omega⟩
  exact t_Ct_reckoned_e hS hd σ x0 h_x0
theorem c_163_0 : cd 163 0 = some (.iload_n 1, 1) := by decide +kernel
theorem c_163_1 : cd 163 1 = some (.iconst (0), 1) := by decide +kernel
theorem c_163_2 : cd 163 2 = some (.iconst (3), 1) := by decide +kernel
theorem c_163_3 : cd 163 3 = some (.invokestatic 92, 3) := by decide +kernel
theorem c_163_6 : cd 163 6 = some (.ifCond .eq (12), 3) := by decide +kernel
theorem c_163_9 : cd 163 9 = some (.iload_n 2, 1) := by decide +kernel
theorem c_163_10 : cd 163 10 = some (.iconst (-1), 1) := by decide +kernel
theorem c_163_11 : cd 163 11 = some (.iconst (1), 1) := by decide +kernel
theorem c_163_12 : cd 163 12 = some (.invokestatic 92, 3) := by decide +kernel
theorem c_163_15 : cd 163 15 = some (.ifCond .ne (6), 3) := by decide +kernel
theorem c_163_18 : cd 163 18 = some (.ldc 72, 2) := by decide +kernel
theorem c_163_20 : cd 163 20 = some (.ireturn, 1) := by decide +kernel
theorem c_163_21 : cd 163 21 = some (.iload_n 2, 1) := by decide +kernel
theorem c_163_22 : cd 163 22 = some (.iconst (-1), 1) := by decide +kernel
theorem c_163_23 : cd 163 23 = some (.if_icmp .ne (16), 3) := by decide +kernel
theorem c_163_26 : cd 163 26 = some (.aload_n 0, 1) := by decide +kernel
theorem c_163_27 : cd 163 27 = some (.getfield 42, 3) := by decide +kernel
theorem c_163_30 : cd 163 30 = some (.iload_n 1, 1) := by decide +kernel
theorem c_163_31 : cd 163 31 = some (.aaload, 1) := by decide +kernel
theorem c_163_32 : cd 163 32 = some (.iload_n 2, 1) := by decide +kernel
theorem c_163_33 : cd 163 33 = some (.iconst (0), 1) := by decide +kernel
theorem c_163_34 : cd 163 34 = some (.invokevirtual 373, 3) := by decide +kernel
theorem c_163_37 : cd 163 37 = some (.iconst (0), 1) := by decide +kernel
theorem c_163_38 : cd 163 38 = some (.ireturn, 1) := by decide +kernel
theorem c_163_39 : cd 163 39 = some (.iload_n 3, 1) := by decide +kernel
theorem c_163_40 : cd 163 40 = some (.bipush (24), 2) := by decide +kernel
theorem c_163_42 : cd 163 42 = some (.if_icmp .le (6), 3) := by decide +kernel
theorem c_163_45 : cd 163 45 = some (.ldc 72, 2) := by decide +kernel
theorem c_163_47 : cd 163 47 = some (.ireturn, 1) := by decide +kernel
theorem c_163_48 : cd 163 48 = some (.iload_n 3, 1) := by decide +kernel
theorem c_163_49 : cd 163 49 = some (.ifCond .ge (7), 3) := by decide +kernel
theorem c_163_52 : cd 163 52 = some (.ldc_w 375, 3) := by decide +kernel
theorem c_163_55 : cd 163 55 = some (.ireturn, 1) := by decide +kernel
theorem c_163_56 : cd 163 56 = some (.aload_n 0, 1) := by decide +kernel
theorem c_163_57 : cd 163 57 = some (.getfield 42, 3) := by decide +kernel
theorem c_163_60 : cd 163 60 = some (.iload_n 1, 1) := by decide +kernel
theorem c_163_61 : cd 163 61 = some (.aaload, 1) := by decide +kernel
theorem c_163_62 : cd 163 62 = some (.iload_n 2, 1) := by decide +kernel
theorem c_163_63 : cd 163 63 = some (.iload_n 3, 1) := by decide +kernel
theorem c_163_64 : cd 163 64 = some (.invokevirtual 373, 3) := by decide +kernel
theorem c_163_67 : cd 163 67 = some (.iload_n 3, 1) := by decide +kernel
theorem c_163_68 : cd 163 68 = some (.ireturn, 1) := by decide +kernel
def f_Ct_register_18 (σ : Mm) : Option (Int32 × Mm) := some ((-1000000001 : Int32), σ)
set_option maxRecDepth 100000 in
set_option maxHeartbeats 4000000 in
theorem t_Ct_register_18 {X : Xt} {S : Sh} (hS : ShOK S) {d : Nat} (hd : 1 ≤ d + 1) (u0 : Value) (u1 : Value) (u2 : Value) (u3 : Value) (σ : Mm) : Rf X S emM (f_Ct_register_18 σ) (d + 1) 163 18 [u0, u1, u2, u3] [] σ := by
  unfold f_Ct_register_18
  refine rf_ldc (Or.inl ⟨rfl, rfl⟩) c_163_18 rfl kl_11_72 ?_
  exact rf_ret c_163_20 rfl rfl rfl rfl
def f_Ct_register (x0 : Nat) (x1 : Int32) (x2 : Int32) (x3 : Int32) (σ : Mm) : Option (Int32 × Mm) := (f_Ct_isWithin σ x1 (0 : Int32) (3 : Int32)).bind fun v3 => (if v3 = 0 then (f_Ct_register_18  σ) else ((f_Ct_isWithin σ x2 (-1 : Int32) (1 : Int32)).bind fun v12 => (if ¬ v12 = 0 then (if ¬ x2 = (-1 : Int32) then (if x3 ≤ (24 : Int32) then (if 0 ≤ x3 then (if inbB x1 4 = true then (f_Rg_begin (rfT (rfT x0 6) (ix x1)) x2 x3 σ).bind fun v64 => some (x3, v64) else none) else (some ((-1000000014 : Int32), σ))) else (some ((-1000000001 : Int32), σ))) else (if inbB x1 4 = true then (f_Rg_begin (rfT (rfT x0 6) (ix x1)) x2 (0 : Int32) σ).bind fun v34 => some ((0 : Int32), v34) else none)) else (f_Ct_register_18  σ))))
set_option maxRecDepth 100000 in
set_option maxHeartbeats 4000000 in
theorem t_Ct_register_e {X : Xt} {S : Sh} (hS : ShOK S) {d : Nat} (hd : 1 ≤ d + 1) (x0 : Nat) (x1 : Int32) (x2 : Int32) (x3 : Int32) (σ : Mm) (h_x0 : tgT x0 = 11) : Rf X S emM (f_Ct_register x0 x1 x2 x3 σ) (d + 1) 163 0 [.ref x0, .int x1, .int x2, .int x3] [] σ := by
  unfold f_Ct_register
  refine rf_ild (i := 1) (Or.inr ⟨1, rfl, rfl, rfl⟩) c_163_0 rfl ?_
  refine rf_iconst c_163_1 ki_0 ?_
  refine rf_iconst c_163_2 ki_3 ?_
  refine rf_callI (as := [.int x1, .int (0 : Int32), .int (3 : Int32)]) (kd := 0) c_163_3 rfl (by decide) rfl ml_11_92 (by decide) rfl (rcv_0 rfl) (Nat.zero_le _) rfl rfl (t_Ct_isWithin hS (by omega) σ x1 (0 : Int32) (3 : Int32)) (fun v3 => ?_)
  refine rf_ite (fun hc6 => ?_) (fun hc6 => ?_)
  · refine rf_b1t c_163_6 rfl (decide_eq_true hc6) ?_
    exact t_Ct_register_18 hS hd  (.ref x0) (.int x1) (.int x2) (.int x3) σ
  · refine rf_b1f c_163_6 rfl (decide_eq_false hc6) ?_
    refine rf_ild (i := 2) (Or.inr ⟨2, rfl, rfl, rfl⟩) c_163_9 rfl ?_
    refine rf_iconst c_163_10 ki_m1 ?_
    refine rf_iconst c_163_11 ki_1 ?_
    refine rf_callI (as := [.int x2, .int (-1 : Int32), .int (1 : Int32)]) (kd := 0) c_163_12 rfl (by decide) rfl ml_11_92 (by decide) rfl (rcv_0 rfl) (Nat.zero_le _) rfl rfl (t_Ct_isWithin hS (by omega) σ x2 (-1 : Int32) (1 : Int32)) (fun v12 => ?_)
    refine rf_ite (fun hc15 => ?_) (fun hc15 => ?_)
    · refine rf_b1t c_163_15 rfl (decide_eq_true hc15) ?_
      refine rf_ild (i := 2) (Or.inr ⟨2, rfl, rfl, rfl⟩) c_163_21 rfl ?_
      refine rf_iconst c_163_22 ki_m1 ?_
      refine rf_ite (fun hc23 => ?_) (fun hc23 => ?_)
      · refine rf_b2t c_163_23 rfl (decide_eq_true hc23) ?_
        refine rf_ild (i := 3) (Or.inr ⟨3, rfl, rfl, rfl⟩) c_163_39 rfl ?_
        refine rf_bipush c_163_40 kb_24 ?_
        refine rf_ite (fun hc42 => ?_) (fun hc42 => ?_)
        · refine rf_b2t c_163_42 rfl (decide_eq_true hc42) ?_
          refine rf_ild (i := 3) (Or.inr ⟨3, rfl, rfl, rfl⟩) c_163_48 rfl ?_
          refine rf_ite (fun hc49 => ?_) (fun hc49 => ?_)
          · refine rf_b1t c_163_49 rfl (decide_eq_true hc49) ?_
            refine rf_ald (i := 0) (Or.inr ⟨0, rfl, rfl, rfl⟩) c_163_56 rfl ?_
            refine rf_getr hS c_163_57 rfl fl_11_42 rfl h_x0 ?_
            refine rf_ild (i := 1) (Or.inr ⟨1, rfl, rfl, rfl⟩) c_163_60 rfl ?_
            refine rf_ite (fun hb61 => ?_) (fun _ => rf_none)
            refine rf_aald hS c_163_61 (by rw [(tf_11_6 h_x0)]; decide) (by rw [(tf_11_6 h_x0)]; decide) (lf_11_6 h_x0) hb61 ?_
            refine rf_ild (i := 2) (Or.inr ⟨2, rfl, rfl, rfl⟩) c_163_62 rfl ?_
            refine rf_ild (i := 3) (Or.inr ⟨3, rfl, rfl, rfl⟩) c_163_63 rfl ?_
            refine rf_callV (as := [.ref (rfT (rfT x0 6) (ix x1)), .int x2, .int x3]) (kd := 1) c_163_64 rfl (by decide) rfl ml_11_373 (by decide) rfl (rcv_1 hS rfl rfl (te_34 (tf_11_6 h_x0) hb61) (by decide)) (Nat.zero_le _) rfl rfl (t_Rg_begin hS (by omega) (rfT (rfT x0 6) (ix x1)) x2 x3 σ (te_34 (tf_11_6 h_x0) hb61)) (fun v64 => ?_)
            refine rf_ild (i := 3) (Or.inr ⟨3, rfl, rfl, rfl⟩) c_163_67 rfl ?_
            exact rf_ret c_163_68 rfl rfl rfl rfl
          · refine rf_b1f c_163_49 rfl (decide_eq_false hc49) ?_
            refine rf_ldc (Or.inr ⟨rfl, rfl⟩) c_163_52 rfl kl_11_375 ?_
            exact rf_ret c_163_55 rfl rfl rfl rfl
        · refine rf_b2f c_163_42 rfl (decide_eq_false hc42) ?_
          refine rf_ldc (Or.inl ⟨rfl, rfl⟩) c_163_45 rfl kl_11_72 ?_
          exact rf_ret c_163_47 rfl rfl rfl rfl
      · refine rf_b2f c_163_23 rfl (decide_eq_false hc23) ?_
        refine rf_ald (i := 0) (Or.inr ⟨0, rfl, rfl, rfl⟩) c_163_26 rfl ?_
        refine rf_getr hS c_163_27 rfl fl_11_42 rfl h_x0 ?_
        refine rf_ild (i := 1) (Or.inr ⟨1, rfl, rfl, rfl⟩) c_163_30 rfl ?_
        refine rf_ite (fun hb31 => ?_) (fun _ => rf_none)
        refine rf_aald hS c_163_31 (by rw [(tf_11_6 h_x0)]; decide) (by rw [(tf_11_6 h_x0)]; decide) (lf_11_6 h_x0) hb31 ?_
        refine rf_ild (i := 2) (Or.inr ⟨2, rfl, rfl, rfl⟩) c_163_32 rfl ?_
        refine rf_iconst c_163_33 ki_0 ?_
        refine rf_callV (as := [.ref (rfT (rfT x0 6) (ix x1)), .int x2, .int (0 : Int32)]) (kd := 1) c_163_34 rfl (by decide) rfl ml_11_373 (by decide) rfl (rcv_1 hS rfl rfl (te_34 (tf_11_6 h_x0) hb31) (by decide)) (Nat.zero_le _) rfl rfl (t_Rg_begin hS (by omega) (rfT (rfT x0 6) (ix x1)) x2 (0 : Int32) σ (te_34 (tf_11_6 h_x0) hb31)) (fun v34 => ?_)
        refine rf_iconst c_163_37 ki_0 ?_
        exact rf_ret c_163_38 rfl rfl rfl rfl
    · refine rf_b1f c_163_15 rfl (decide_eq_false hc15) ?_
      exact t_Ct_register_18 hS hd  (.ref x0) (.int x1) (.int x2) (.int x3) σ
theorem t_Ct_register {X : Xt} {S : Sh} (hS : ShOK S) {d : Nat} (hd : 1 ≤ d) (x0 : Nat) (x1 : Int32) (x2 : Int32) (x3 : Int32) (σ : Mm) (h_x0 : tgT x0 = 11) : Rf X S emM (f_Ct_register x0 x1 x2 x3 σ) d 163 0 [.ref x0, .int x1, .int x2, .int x3] [] σ := by
  obtain ⟨d1, rfl⟩ : ∃ d1, d = d1 + 1 := ⟨d - 1, by omega⟩
  exact t_Ct_register_e hS hd x0 x1 x2 x3 σ h_x0
theorem c_164_0 : cd 164 0 = some (.iload_n 1, 1) := by decide +kernel
theorem c_164_1 : cd 164 1 = some (.iconst (0), 1) := by decide +kernel
theorem c_164_2 : cd 164 2 = some (.iconst (3), 1) := by decide +kernel
theorem c_164_3 : cd 164 3 = some (.invokestatic 92, 3) := by decide +kernel
theorem c_164_6 : cd 164 6 = some (.ifCond .ne (6), 3) := by decide +kernel
theorem c_164_9 : cd 164 9 = some (.ldc 72, 2) := by decide +kernel
theorem c_164_11 : cd 164 11 = some (.ireturn, 1) := by decide +kernel
theorem c_164_12 : cd 164 12 = some (.aload_n 0, 1) := by decide +kernel
theorem c_164_13 : cd 164 13 = some (.getfield 42, 3) := by decide +kernel
theorem c_164_16 : cd 164 16 = some (.iload_n 1, 1) := by decide +kernel
theorem c_164_17 : cd 164 17 = some (.aaload, 1) := by decide +kernel
theorem c_164_18 : cd 164 18 = some (.astore 4, 2) := by decide +kernel
theorem c_164_20 : cd 164 20 = some (.aload 4, 2) := by decide +kernel
theorem c_164_22 : cd 164 22 = some (.invokevirtual 376, 3) := by decide +kernel
theorem c_164_25 : cd 164 25 = some (.ifCond .eq (7), 3) := by decide +kernel
theorem c_164_28 : cd 164 28 = some (.ldc_w 379, 3) := by decide +kernel
theorem c_164_31 : cd 164 31 = some (.ireturn, 1) := by decide +kernel
theorem c_164_32 : cd 164 32 = some (.aload 4, 2) := by decide +kernel
theorem c_164_34 : cd 164 34 = some (.iload_n 2, 1) := by decide +kernel
theorem c_164_35 : cd 164 35 = some (.invokevirtual 380, 3) := by decide +kernel
theorem c_164_38 : cd 164 38 = some (.ifCond .eq (13), 3) := by decide +kernel
theorem c_164_41 : cd 164 41 = some (.aload 4, 2) := by decide +kernel
theorem c_164_43 : cd 164 43 = some (.iload_n 2, 1) := by decide +kernel
theorem c_164_44 : cd 164 44 = some (.iload_n 3, 1) := by decide +kernel
theorem c_164_45 : cd 164 45 = some (.invokevirtual 383, 3) := by decide +kernel
theorem c_164_48 : cd 164 48 = some (.goto (6), 3) := by decide +kernel
theorem c_164_51 : cd 164 51 = some (.ldc_w 386, 3) := by decide +kernel
theorem c_164_54 : cd 164 54 = some (.ireturn, 1) := by decide +kernel
def f_Ct_note_54 (y0 : Int32) (σ : Mm) : Option (Int32 × Mm) := some (y0, σ)
set_option maxRecDepth 100000 in
set_option maxHeartbeats 4000000 in
theorem t_Ct_note_54 {X : Xt} {S : Sh} (hS : ShOK S) {d : Nat} (hd : 1 ≤ d + 1) (y0 : Int32) (u0 : Value) (u1 : Value) (u2 : Value) (u3 : Value) (u4 : Value) (σ : Mm) : Rf X S emM (f_Ct_note_54 y0 σ) (d + 1) 164 54 [u0, u1, u2, u3, u4] [.int y0] σ := by
  unfold f_Ct_note_54
  exact rf_ret c_164_54 rfl rfl rfl rfl
def f_Ct_note (x0 : Nat) (x1 : Int32) (x2 : Int32) (x3 : Int32) (σ : Mm) : Option (Int32 × Mm) := (f_Ct_isWithin σ x1 (0 : Int32) (3 : Int32)).bind fun v3 => (if ¬ v3 = 0 then (if inbB x1 4 = true then (f_Rg_isMissing σ (rfT (rfT x0 6) (ix x1))).bind fun v22 => (if v22 = 0 then ((f_Rg_hasPlace σ (rfT (rfT x0 6) (ix x1)) x2).bind fun v35 => (if v35 = 0 then (f_Ct_note_54  (-1000000013 : Int32) σ) else ((f_Rg_put (rfT (rfT x0 6) (ix x1)) x2 x3 σ).bind fun v45 => f_Ct_note_54  v45.1 v45.2))) else (some ((-1000000011 : Int32), σ))) else none) else (some ((-1000000001 : Int32), σ)))
set_option maxRecDepth 100000 in
set_option maxHeartbeats 4000000 in
theorem t_Ct_note_e {X : Xt} {S : Sh} (hS : ShOK S) {d : Nat} (hd : 1 ≤ d + 1) (x0 : Nat) (x1 : Int32) (x2 : Int32) (x3 : Int32) (σ : Mm) (h_x0 : tgT x0 = 11) : Rf X S emM (f_Ct_note x0 x1 x2 x3 σ) (d + 1) 164 0 [.ref x0, .int x1, .int x2, .int x3, unset0] [] σ := by
  unfold f_Ct_note
  refine rf_ild (i := 1) (Or.inr ⟨1, rfl, rfl, rfl⟩) c_164_0 rfl ?_
  refine rf_iconst c_164_1 ki_0 ?_
  refine rf_iconst c_164_2 ki_3 ?_
  refine rf_callI (as := [.int x1, .int (0 : Int32), .int (3 : Int32)]) (kd := 0) c_164_3 rfl (by decide) rfl ml_11_92 (by decide) rfl (rcv_0 rfl) (Nat.zero_le _) rfl rfl (t_Ct_isWithin hS (by omega) σ x1 (0 : Int32) (3 : Int32)) (fun v3 => ?_)
  refine rf_ite (fun hc6 => ?_) (fun hc6 => ?_)
  · refine rf_b1t c_164_6 rfl (decide_eq_true hc6) ?_
    refine rf_ald (i := 0) (Or.inr ⟨0, rfl, rfl, rfl⟩) c_164_12 rfl ?_
    refine rf_getr hS c_164_13 rfl fl_11_42 rfl h_x0 ?_
    refine rf_ild (i := 1) (Or.inr ⟨1, rfl, rfl, rfl⟩) c_164_16 rfl ?_
    refine rf_ite (fun hb17 => ?_) (fun _ => rf_none)
    refine rf_aald hS c_164_17 (by rw [(tf_11_6 h_x0)]; decide) (by rw [(tf_11_6 h_x0)]; decide) (lf_11_6 h_x0) hb17 ?_
    refine rf_ast (i := 4) (Or.inl ⟨rfl, rfl⟩) c_164_18 (Nat.le_of_ble_eq_true rfl) rfl ?_
    refine rf_ald (i := 4) (Or.inl ⟨rfl, rfl⟩) c_164_20 rfl ?_
    refine rf_callI (as := [.ref (rfT (rfT x0 6) (ix x1))]) (kd := 1) c_164_22 rfl (by decide) rfl ml_11_376 (by decide) rfl (rcv_1 hS rfl rfl (te_34 (tf_11_6 h_x0) hb17) (by decide)) (Nat.zero_le _) rfl rfl (t_Rg_isMissing hS (by omega) σ (rfT (rfT x0 6) (ix x1)) (te_34 (tf_11_6 h_x0) hb17)) (fun v22 => ?_)
    refine rf_ite (fun hc25 => ?_) (fun hc25 => ?_)
    · refine rf_b1t c_164_25 rfl (decide_eq_true hc25) ?_
      refine rf_ald (i := 4) (Or.inl ⟨rfl, rfl⟩) c_164_32 rfl ?_
      refine rf_ild (i := 2) (Or.inr ⟨2, rfl, rfl, rfl⟩) c_164_34 rfl ?_
      refine rf_callI (as := [.ref (rfT (rfT x0 6) (ix x1)), .int x2]) (kd := 1) c_164_35 rfl (by decide) rfl ml_11_380 (by decide) rfl (rcv_1 hS rfl rfl (te_34 (tf_11_6 h_x0) hb17) (by decide)) (Nat.zero_le _) rfl rfl (t_Rg_hasPlace hS (by omega) σ (rfT (rfT x0 6) (ix x1)) x2 (te_34 (tf_11_6 h_x0) hb17)) (fun v35 => ?_)
      refine rf_ite (fun hc38 => ?_) (fun hc38 => ?_)
      · refine rf_b1t c_164_38 rfl (decide_eq_true hc38) ?_
        refine rf_ldc (Or.inr ⟨rfl, rfl⟩) c_164_51 rfl kl_11_386 ?_
        exact t_Ct_note_54 hS hd  (-1000000013 : Int32) (.ref x0) (.int x1) (.int x2) (.int x3) (.ref (rfT (rfT x0 6) (ix x1))) σ
      · refine rf_b1f c_164_38 rfl (decide_eq_false hc38) ?_
        refine rf_ald (i := 4) (Or.inl ⟨rfl, rfl⟩) c_164_41 rfl ?_
        refine rf_ild (i := 2) (Or.inr ⟨2, rfl, rfl, rfl⟩) c_164_43 rfl ?_
        refine rf_ild (i := 3) (Or.inr ⟨3, rfl, rfl, rfl⟩) c_164_44 rfl ?_
        refine rf_callM (as := [.ref (rfT (rfT x0 6) (ix x1)), .int x2, .int x3]) (kd := 1) c_164_45 rfl (by decide) rfl ml_11_383 (by decide) rfl (rcv_1 hS rfl rfl (te_34 (tf_11_6 h_x0) hb17) (by decide)) (Nat.zero_le _) rfl rfl (t_Rg_put hS (by omega) (rfT (rfT x0 6) (ix x1)) x2 x3 σ (te_34 (tf_11_6 h_x0) hb17)) (fun v45 => ?_)
        refine rf_goto c_164_48 rfl ?_
        exact t_Ct_note_54 hS hd  v45.1 (.ref x0) (.int x1) (.int x2) (.int x3) (.ref (rfT (rfT x0 6) (ix x1))) v45.2
    · refine rf_b1f c_164_25 rfl (decide_eq_false hc25) ?_
      refine rf_ldc (Or.inr ⟨rfl, rfl⟩) c_164_28 rfl kl_11_379 ?_
      exact rf_ret c_164_31 rfl rfl rfl rfl
  · refine rf_b1f c_164_6 rfl (decide_eq_false hc6) ?_
    refine rf_ldc (Or.inl ⟨rfl, rfl⟩) c_164_9 rfl kl_11_72 ?_
    exact rf_ret c_164_11 rfl rfl rfl rfl
theorem t_Ct_note {X : Xt} {S : Sh} (hS : ShOK S) {d : Nat} (hd : 1 ≤ d) (x0 : Nat) (x1 : Int32) (x2 : Int32) (x3 : Int32) (σ : Mm) (h_x0 : tgT x0 = 11) : Rf X S emM (f_Ct_note x0 x1 x2 x3 σ) d 164 0 [.ref x0, .int x1, .int x2, .int x3, unset0] [] σ := by
  obtain ⟨d1, rfl⟩ : ∃ d1, d = d1 + 1 := ⟨d - 1, by omega⟩
  exact t_Ct_note_e hS hd x0 x1 x2 x3 σ h_x0
theorem c_165_0 : cd 165 0 = some (.iload_n 1, 1) := by decide +kernel
theorem c_165_1 : cd 165 1 = some (.iconst (0), 1) := by decide +kernel
theorem c_165_2 : cd 165 2 = some (.iconst (3), 1) := by decide +kernel
theorem c_165_3 : cd 165 3 = some (.invokestatic 92, 3) := by decide +kernel
theorem c_165_6 : cd 165 6 = some (.ifCond .eq (12), 3) := by decide +kernel
theorem c_165_9 : cd 165 9 = some (.iload_n 3, 1) := by decide +kernel
theorem c_165_10 : cd 165 10 = some (.iconst (0), 1) := by decide +kernel
theorem c_165_11 : cd 165 11 = some (.iconst (3), 1) := by decide +kernel
theorem c_165_12 : cd 165 12 = some (.invokestatic 92, 3) := by decide +kernel
theorem c_165_15 : cd 165 15 = some (.ifCond .ne (6), 3) := by decide +kernel
theorem c_165_18 : cd 165 18 = some (.ldc 72, 2) := by decide +kernel
theorem c_165_20 : cd 165 20 = some (.ireturn, 1) := by decide +kernel
theorem c_165_21 : cd 165 21 = some (.aload_n 0, 1) := by decide +kernel
theorem c_165_22 : cd 165 22 = some (.getfield 42, 3) := by decide +kernel
theorem c_165_25 : cd 165 25 = some (.iload_n 1, 1) := by decide +kernel
theorem c_165_26 : cd 165 26 = some (.aaload, 1) := by decide +kernel
theorem c_165_27 : cd 165 27 = some (.astore 6, 2) := by decide +kernel
theorem c_165_29 : cd 165 29 = some (.aload_n 0, 1) := by decide +kernel
theorem c_165_30 : cd 165 30 = some (.getfield 42, 3) := by decide +kernel
theorem c_165_33 : cd 165 33 = some (.iload_n 3, 1) := by decide +kernel
theorem c_165_34 : cd 165 34 = some (.aaload, 1) := by decide +kernel
theorem c_165_35 : cd 165 35 = some (.astore 7, 2) := by decide +kernel
theorem c_165_37 : cd 165 37 = some (.aload 6, 2) := by decide +kernel
theorem c_165_39 : cd 165 39 = some (.invokevirtual 376, 3) := by decide +kernel
theorem c_165_42 : cd 165 42 = some (.ifCond .ne (11), 3) := by decide +kernel
theorem c_165_45 : cd 165 45 = some (.aload 7, 2) := by decide +kernel
theorem c_165_47 : cd 165 47 = some (.invokevirtual 376, 3) := by decide +kernel
theorem c_165_50 : cd 165 50 = some (.ifCond .eq (7), 3) := by decide +kernel
theorem c_165_53 : cd 165 53 = some (.ldc_w 379, 3) := by decide +kernel
theorem c_165_56 : cd 165 56 = some (.ireturn, 1) := by decide +kernel
theorem c_165_57 : cd 165 57 = some (.aload 6, 2) := by decide +kernel
theorem c_165_59 : cd 165 59 = some (.getfield 387, 3) := by decide +kernel
theorem c_165_62 : cd 165 62 = some (.aload 7, 2) := by decide +kernel
theorem c_165_64 : cd 165 64 = some (.getfield 387, 3) := by decide +kernel
theorem c_165_67 : cd 165 67 = some (.if_icmp .eq (6), 3) := by decide +kernel
theorem c_165_70 : cd 165 70 = some (.ldc 164, 2) := by decide +kernel
theorem c_165_72 : cd 165 72 = some (.ireturn, 1) := by decide +kernel
theorem c_165_73 : cd 165 73 = some (.aload 6, 2) := by decide +kernel
theorem c_165_75 : cd 165 75 = some (.iload_n 2, 1) := by decide +kernel
theorem c_165_76 : cd 165 76 = some (.iload 5, 2) := by decide +kernel
theorem c_165_78 : cd 165 78 = some (.invokevirtual 390, 3) := by decide +kernel
theorem c_165_81 : cd 165 81 = some (.ifCond .eq (15), 3) := by decide +kernel
theorem c_165_84 : cd 165 84 = some (.aload 7, 2) := by decide +kernel
theorem c_165_86 : cd 165 86 = some (.iload 4, 2) := by decide +kernel
theorem c_165_88 : cd 165 88 = some (.iload 5, 2) := by decide +kernel
theorem c_165_90 : cd 165 90 = some (.invokevirtual 390, 3) := by decide +kernel
theorem c_165_93 : cd 165 93 = some (.ifCond .ne (7), 3) := by decide +kernel
theorem c_165_96 : cd 165 96 = some (.ldc_w 386, 3) := by decide +kernel
theorem c_165_99 : cd 165 99 = some (.ireturn, 1) := by decide +kernel
theorem c_165_100 : cd 165 100 = some (.aload 6, 2) := by decide +kernel
theorem c_165_102 : cd 165 102 = some (.getfield 393, 3) := by decide +kernel
theorem c_165_105 : cd 165 105 = some (.iload_n 2, 1) := by decide +kernel
theorem c_165_106 : cd 165 106 = some (.aload 7, 2) := by decide +kernel
theorem c_165_108 : cd 165 108 = some (.getfield 393, 3) := by decide +kernel
theorem c_165_111 : cd 165 111 = some (.iload 4, 2) := by decide +kernel
theorem c_165_113 : cd 165 113 = some (.iload 5, 2) := by decide +kernel
theorem c_165_115 : cd 165 115 = some (.invokestatic 394, 3) := by decide +kernel
theorem c_165_118 : cd 165 118 = some (.iload 5, 2) := by decide +kernel
theorem c_165_120 : cd 165 120 = some (.ireturn, 1) := by decide +kernel
def f_Ct_carry_18 (σ : Mm) : Option (Int32 × Mm) := some ((-1000000001 : Int32), σ)
set_option maxRecDepth 100000 in
set_option maxHeartbeats 4000000 in
theorem t_Ct_carry_18 {X : Xt} {S : Sh} (hS : ShOK S) {d : Nat} (hd : 6 ≤ d + 1) (u0 : Value) (u1 : Value) (u2 : Value) (u3 : Value) (u4 : Value) (u5 : Value) (u6 : Value) (u7 : Value) (σ : Mm) : Rf X S emM (f_Ct_carry_18 σ) (d + 1) 165 18 [u0, u1, u2, u3, u4, u5, u6, u7] [] σ := by
  unfold f_Ct_carry_18
  refine rf_ldc (Or.inl ⟨rfl, rfl⟩) c_165_18 rfl kl_11_72 ?_
  exact rf_ret c_165_20 rfl rfl rfl rfl
def f_Ct_carry_53 (σ : Mm) : Option (Int32 × Mm) := some ((-1000000011 : Int32), σ)
set_option maxRecDepth 100000 in
set_option maxHeartbeats 4000000 in
theorem t_Ct_carry_53 {X : Xt} {S : Sh} (hS : ShOK S) {d : Nat} (hd : 6 ≤ d + 1) (u0 : Value) (u1 : Value) (u2 : Value) (u3 : Value) (u4 : Value) (u5 : Value) (u6 : Value) (u7 : Value) (σ : Mm) : Rf X S emM (f_Ct_carry_53 σ) (d + 1) 165 53 [u0, u1, u2, u3, u4, u5, u6, u7] [] σ := by
  unfold f_Ct_carry_53
  refine rf_ldc (Or.inr ⟨rfl, rfl⟩) c_165_53 rfl kl_11_379 ?_
  exact rf_ret c_165_56 rfl rfl rfl rfl
def f_Ct_carry_96 (σ : Mm) : Option (Int32 × Mm) := some ((-1000000013 : Int32), σ)
set_option maxRecDepth 100000 in
set_option maxHeartbeats 4000000 in
theorem t_Ct_carry_96 {X : Xt} {S : Sh} (hS : ShOK S) {d : Nat} (hd : 6 ≤ d + 1) (u0 : Value) (u1 : Value) (u2 : Value) (u3 : Value) (u4 : Value) (u5 : Value) (u6 : Value) (u7 : Value) (σ : Mm) : Rf X S emM (f_Ct_carry_96 σ) (d + 1) 165 96 [u0, u1, u2, u3, u4, u5, u6, u7] [] σ := by
  unfold f_Ct_carry_96
  refine rf_ldc (Or.inr ⟨rfl, rfl⟩) c_165_96 rfl kl_11_386 ?_
  exact rf_ret c_165_99 rfl rfl rfl rfl
def f_Ct_carry (x0 : Nat) (x1 : Int32) (x2 : Int32) (x3 : Int32) (x4 : Int32) (x5 : Int32) (σ : Mm) : Option (Int32 × Mm) := (f_Ct_isWithin σ x1 (0 : Int32) (3 : Int32)).bind fun v3 => (if v3 = 0 then (f_Ct_carry_18  σ) else ((f_Ct_isWithin σ x3 (0 : Int32) (3 : Int32)).bind fun v12 => (if ¬ v12 = 0 then (if inbB x1 4 = true then if inbB x3 4 = true then (f_Rg_isMissing σ (rfT (rfT x0 6) (ix x1))).bind fun v39 => (if ¬ v39 = 0 then (f_Ct_carry_53  σ) else ((f_Rg_isMissing σ (rfT (rfT x0 6) (ix x3))).bind fun v47 => (if v47 = 0 then (if (σ (rfT (rfT x0 6) (ix x1)) 1) = (σ (rfT (rfT x0 6) (ix x3)) 1) then ((f_Rg_hasPlaces σ (rfT (rfT x0 6) (ix x1)) x2 x5).bind fun v78 => (if v78 = 0 then (f_Ct_carry_96  σ) else ((f_Rg_hasPlaces σ (rfT (rfT x0 6) (ix x3)) x4 x5).bind fun v90 => (if ¬ v90 = 0 then (if cpB x2 x4 x5 24 24 = true then nmM (cp2 σ (rfT (rfT (rfT x0 6) (ix x1)) 0) (ix x2) (rfT (rfT (rfT x0 6) (ix x3)) 0) (ix x4) (ix x5)) fun σ115 => some (x5, σ115) else none) else (f_Ct_carry_96  σ))))) else (some ((-1000000012 : Int32), σ))) else (f_Ct_carry_53  σ)))) else none else none) else (f_Ct_carry_18  σ))))
set_option maxRecDepth 100000 in
set_option maxHeartbeats 4000000 in
theorem t_Ct_carry_e {X : Xt} {S : Sh} (hS : ShOK S) {d : Nat} (hd : 6 ≤ d + 1) (x0 : Nat) (x1 : Int32) (x2 : Int32) (x3 : Int32) (x4 : Int32) (x5 : Int32) (σ : Mm) (h_x0 : tgT x0 = 11) : Rf X S emM (f_Ct_carry x0 x1 x2 x3 x4 x5 σ) (d + 1) 165 0 [.ref x0, .int x1, .int x2, .int x3, .int x4, .int x5, unset0, unset0] [] σ := by
  unfold f_Ct_carry
  refine rf_ild (i := 1) (Or.inr ⟨1, rfl, rfl, rfl⟩) c_165_0 rfl ?_
  refine rf_iconst c_165_1 ki_0 ?_
  refine rf_iconst c_165_2 ki_3 ?_
  refine rf_callI (as := [.int x1, .int (0 : Int32), .int (3 : Int32)]) (kd := 0) c_165_3 rfl (by decide) rfl ml_11_92 (by decide) rfl (rcv_0 rfl) (Nat.zero_le _) rfl rfl (t_Ct_isWithin hS (by omega) σ x1 (0 : Int32) (3 : Int32)) (fun v3 => ?_)
  refine rf_ite (fun hc6 => ?_) (fun hc6 => ?_)
  · refine rf_b1t c_165_6 rfl (decide_eq_true hc6) ?_
    exact t_Ct_carry_18 hS hd  (.ref x0) (.int x1) (.int x2) (.int x3) (.int x4) (.int x5) (unset0) (unset0) σ
  · refine rf_b1f c_165_6 rfl (decide_eq_false hc6) ?_
    refine rf_ild (i := 3) (Or.inr ⟨3, rfl, rfl, rfl⟩) c_165_9 rfl ?_
    refine rf_iconst c_165_10 ki_0 ?_
    refine rf_iconst c_165_11 ki_3 ?_
    refine rf_callI (as := [.int x3, .int (0 : Int32), .int (3 : Int32)]) (kd := 0) c_165_12 rfl (by decide) rfl ml_11_92 (by decide) rfl (rcv_0 rfl) (Nat.zero_le _) rfl rfl (t_Ct_isWithin hS (by omega) σ x3 (0 : Int32) (3 : Int32)) (fun v12 => ?_)
    refine rf_ite (fun hc15 => ?_) (fun hc15 => ?_)
    · refine rf_b1t c_165_15 rfl (decide_eq_true hc15) ?_
      refine rf_ald (i := 0) (Or.inr ⟨0, rfl, rfl, rfl⟩) c_165_21 rfl ?_
      refine rf_getr hS c_165_22 rfl fl_11_42 rfl h_x0 ?_
      refine rf_ild (i := 1) (Or.inr ⟨1, rfl, rfl, rfl⟩) c_165_25 rfl ?_
      refine rf_ite (fun hb26 => ?_) (fun _ => rf_none)
      refine rf_aald hS c_165_26 (by rw [(tf_11_6 h_x0)]; decide) (by rw [(tf_11_6 h_x0)]; decide) (lf_11_6 h_x0) hb26 ?_
      refine rf_ast (i := 6) (Or.inl ⟨rfl, rfl⟩) c_165_27 (Nat.le_of_ble_eq_true rfl) rfl ?_
      refine rf_ald (i := 0) (Or.inr ⟨0, rfl, rfl, rfl⟩) c_165_29 rfl ?_
      refine rf_getr hS c_165_30 rfl fl_11_42 rfl h_x0 ?_
      refine rf_ild (i := 3) (Or.inr ⟨3, rfl, rfl, rfl⟩) c_165_33 rfl ?_
      refine rf_ite (fun hb34 => ?_) (fun _ => rf_none)
      refine rf_aald hS c_165_34 (by rw [(tf_11_6 h_x0)]; decide) (by rw [(tf_11_6 h_x0)]; decide) (lf_11_6 h_x0) hb34 ?_
      refine rf_ast (i := 7) (Or.inl ⟨rfl, rfl⟩) c_165_35 (Nat.le_of_ble_eq_true rfl) rfl ?_
      refine rf_ald (i := 6) (Or.inl ⟨rfl, rfl⟩) c_165_37 rfl ?_
      refine rf_callI (as := [.ref (rfT (rfT x0 6) (ix x1))]) (kd := 1) c_165_39 rfl (by decide) rfl ml_11_376 (by decide) rfl (rcv_1 hS rfl rfl (te_34 (tf_11_6 h_x0) hb26) (by decide)) (Nat.zero_le _) rfl rfl (t_Rg_isMissing hS (by omega) σ (rfT (rfT x0 6) (ix x1)) (te_34 (tf_11_6 h_x0) hb26)) (fun v39 => ?_)
      refine rf_ite (fun hc42 => ?_) (fun hc42 => ?_)
      · refine rf_b1t c_165_42 rfl (decide_eq_true hc42) ?_
        exact t_Ct_carry_53 hS hd  (.ref x0) (.int x1) (.int x2) (.int x3) (.int x4) (.int x5) (.ref (rfT (rfT x0 6) (ix x1))) (.ref (rfT (rfT x0 6) (ix x3))) σ
      · refine rf_b1f c_165_42 rfl (decide_eq_false hc42) ?_
        refine rf_ald (i := 7) (Or.inl ⟨rfl, rfl⟩) c_165_45 rfl ?_
        refine rf_callI (as := [.ref (rfT (rfT x0 6) (ix x3))]) (kd := 1) c_165_47 rfl (by decide) rfl ml_11_376 (by decide) rfl (rcv_1 hS rfl rfl (te_34 (tf_11_6 h_x0) hb34) (by decide)) (Nat.zero_le _) rfl rfl (t_Rg_isMissing hS (by omega) σ (rfT (rfT x0 6) (ix x3)) (te_34 (tf_11_6 h_x0) hb34)) (fun v47 => ?_)
        refine rf_ite (fun hc50 => ?_) (fun hc50 => ?_)
        · refine rf_b1t c_165_50 rfl (decide_eq_true hc50) ?_
          refine rf_ald (i := 6) (Or.inl ⟨rfl, rfl⟩) c_165_57 rfl ?_
          refine rf_geti hS c_165_59 rfl fl_11_387 rfl (te_34 (tf_11_6 h_x0) hb26) ?_
          refine rf_ald (i := 7) (Or.inl ⟨rfl, rfl⟩) c_165_62 rfl ?_
          refine rf_geti hS c_165_64 rfl fl_11_387 rfl (te_34 (tf_11_6 h_x0) hb34) ?_
          refine rf_ite (fun hc67 => ?_) (fun hc67 => ?_)
          · refine rf_b2t c_165_67 rfl (decide_eq_true hc67) ?_
            refine rf_ald (i := 6) (Or.inl ⟨rfl, rfl⟩) c_165_73 rfl ?_
            refine rf_ild (i := 2) (Or.inr ⟨2, rfl, rfl, rfl⟩) c_165_75 rfl ?_
            refine rf_ild (i := 5) (Or.inl ⟨rfl, rfl⟩) c_165_76 rfl ?_
            refine rf_callI (as := [.ref (rfT (rfT x0 6) (ix x1)), .int x2, .int x5]) (kd := 1) c_165_78 rfl (by decide) rfl ml_11_390 (by decide) rfl (rcv_1 hS rfl rfl (te_34 (tf_11_6 h_x0) hb26) (by decide)) (Nat.zero_le _) rfl rfl (t_Rg_hasPlaces hS (by omega) σ (rfT (rfT x0 6) (ix x1)) x2 x5 (te_34 (tf_11_6 h_x0) hb26)) (fun v78 => ?_)
            refine rf_ite (fun hc81 => ?_) (fun hc81 => ?_)
            · refine rf_b1t c_165_81 rfl (decide_eq_true hc81) ?_
              exact t_Ct_carry_96 hS hd  (.ref x0) (.int x1) (.int x2) (.int x3) (.int x4) (.int x5) (.ref (rfT (rfT x0 6) (ix x1))) (.ref (rfT (rfT x0 6) (ix x3))) σ
            · refine rf_b1f c_165_81 rfl (decide_eq_false hc81) ?_
              refine rf_ald (i := 7) (Or.inl ⟨rfl, rfl⟩) c_165_84 rfl ?_
              refine rf_ild (i := 4) (Or.inl ⟨rfl, rfl⟩) c_165_86 rfl ?_
              refine rf_ild (i := 5) (Or.inl ⟨rfl, rfl⟩) c_165_88 rfl ?_
              refine rf_callI (as := [.ref (rfT (rfT x0 6) (ix x3)), .int x4, .int x5]) (kd := 1) c_165_90 rfl (by decide) rfl ml_11_390 (by decide) rfl (rcv_1 hS rfl rfl (te_34 (tf_11_6 h_x0) hb34) (by decide)) (Nat.zero_le _) rfl rfl (t_Rg_hasPlaces hS (by omega) σ (rfT (rfT x0 6) (ix x3)) x4 x5 (te_34 (tf_11_6 h_x0) hb34)) (fun v90 => ?_)
              refine rf_ite (fun hc93 => ?_) (fun hc93 => ?_)
              · refine rf_b1t c_165_93 rfl (decide_eq_true hc93) ?_
                refine rf_ald (i := 6) (Or.inl ⟨rfl, rfl⟩) c_165_100 rfl ?_
                refine rf_getr hS c_165_102 rfl fl_11_393 rfl (te_34 (tf_11_6 h_x0) hb26) ?_
                refine rf_ild (i := 2) (Or.inr ⟨2, rfl, rfl, rfl⟩) c_165_105 rfl ?_
                refine rf_ald (i := 7) (Or.inl ⟨rfl, rfl⟩) c_165_106 rfl ?_
                refine rf_getr hS c_165_108 rfl fl_11_393 rfl (te_34 (tf_11_6 h_x0) hb34) ?_
                refine rf_ild (i := 4) (Or.inl ⟨rfl, rfl⟩) c_165_111 rfl ?_
                refine rf_ild (i := 5) (Or.inl ⟨rfl, rfl⟩) c_165_113 rfl ?_
                refine rf_ite (fun hp115 => ?_) (fun _ => rf_none)
                refine rf_copy hS c_165_115 rfl ml_11_394 (by omega) (Nat.zero_le _) (tf_4_0 (te_34 (tf_11_6 h_x0) hb26)) (tf_4_0 (te_34 (tf_11_6 h_x0) hb34)) (lf_4_0 (te_34 (tf_11_6 h_x0) hb26)) (lf_4_0 (te_34 (tf_11_6 h_x0) hb34)) hp115 ?_
                refine rf_nm (fun σ115 => ?_)
                refine rf_ild (i := 5) (Or.inl ⟨rfl, rfl⟩) c_165_118 rfl ?_
                exact rf_ret c_165_120 rfl rfl rfl rfl
              · refine rf_b1f c_165_93 rfl (decide_eq_false hc93) ?_
                exact t_Ct_carry_96 hS hd  (.ref x0) (.int x1) (.int x2) (.int x3) (.int x4) (.int x5) (.ref (rfT (rfT x0 6) (ix x1))) (.ref (rfT (rfT x0 6) (ix x3))) σ
          · refine rf_b2f c_165_67 rfl (decide_eq_false hc67) ?_
            refine rf_ldc (Or.inl ⟨rfl, rfl⟩) c_165_70 rfl kl_11_164 ?_
            exact rf_ret c_165_72 rfl rfl rfl rfl
        · refine rf_b1f c_165_50 rfl (decide_eq_false hc50) ?_
          exact t_Ct_carry_53 hS hd  (.ref x0) (.int x1) (.int x2) (.int x3) (.int x4) (.int x5) (.ref (rfT (rfT x0 6) (ix x1))) (.ref (rfT (rfT x0 6) (ix x3))) σ
    · refine rf_b1f c_165_15 rfl (decide_eq_false hc15) ?_
      exact t_Ct_carry_18 hS hd  (.ref x0) (.int x1) (.int x2) (.int x3) (.int x4) (.int x5) (unset0) (unset0) σ
theorem t_Ct_carry {X : Xt} {S : Sh} (hS : ShOK S) {d : Nat} (hd : 6 ≤ d) (x0 : Nat) (x1 : Int32) (x2 : Int32) (x3 : Int32) (x4 : Int32) (x5 : Int32) (σ : Mm) (h_x0 : tgT x0 = 11) : Rf X S emM (f_Ct_carry x0 x1 x2 x3 x4 x5 σ) d 165 0 [.ref x0, .int x1, .int x2, .int x3, .int x4, .int x5, unset0, unset0] [] σ := by
  obtain ⟨d1, rfl⟩ : ∃ d1, d = d1 + 1 := ⟨d - 1, by omega⟩
  exact t_Ct_carry_e hS hd x0 x1 x2 x3 x4 x5 σ h_x0
theorem c_180_0 : cd 180 0 = some (.iload_n 0, 1) := by decide +kernel
theorem c_180_1 : cd 180 1 = some (.iconst (0), 1) := by decide +kernel
theorem c_180_2 : cd 180 2 = some (.iconst (5), 1) := by decide +kernel
theorem c_180_3 : cd 180 3 = some (.invokestatic 92, 3) := by decide +kernel
theorem c_180_6 : cd 180 6 = some (.ireturn, 1) := by decide +kernel
def f_Ct_isRoomSeat (σ : Mm) (x0 : Int32) : Option Int32 := (f_Ct_isWithin σ x0 (0 : Int32) (5 : Int32)).bind fun v3 => if zB v3 = true then some v3 else none
set_option maxRecDepth 100000 in
set_option maxHeartbeats 4000000 in
theorem t_Ct_isRoomSeat_e {X : Xt} {S : Sh} (hS : ShOK S) {d : Nat} (hd : 1 ≤ d + 1) (σ : Mm) (x0 : Int32) : Rf X S (emI σ) (f_Ct_isRoomSeat σ x0) (d + 1) 180 0 [.int x0] [] σ := by
  unfold f_Ct_isRoomSeat
  refine rf_ild (i := 0) (Or.inr ⟨0, rfl, rfl, rfl⟩) c_180_0 rfl ?_
  refine rf_iconst c_180_1 ki_0 ?_
  refine rf_iconst c_180_2 ki_5 ?_
  refine rf_callI (as := [.int x0, .int (0 : Int32), .int (5 : Int32)]) (kd := 0) c_180_3 rfl (by decide) rfl ml_11_92 (by decide) rfl (rcv_0 rfl) (Nat.zero_le _) rfl rfl (t_Ct_isWithin hS (by omega) σ x0 (0 : Int32) (5 : Int32)) (fun v3 => ?_)
  refine rf_ite (fun hq6 => ?_) (fun _ => rf_none)
  exact rf_ret c_180_6 rfl (zB_n hq6) rfl rfl
theorem t_Ct_isRoomSeat {X : Xt} {S : Sh} (hS : ShOK S) {d : Nat} (hd : 1 ≤ d) (σ : Mm) (x0 : Int32) : Rf X S (emI σ) (f_Ct_isRoomSeat σ x0) d 180 0 [.int x0] [] σ := by
  obtain ⟨d1, rfl⟩ : ∃ d1, d = d1 + 1 := ⟨d - 1, by omega⟩
  exact t_Ct_isRoomSeat_e hS hd σ x0
theorem c_187_0 : cd 187 0 = some (.aload_n 1, 1) := by decide +kernel
theorem c_187_1 : cd 187 1 = some (.iload_n 2, 1) := by decide +kernel
theorem c_187_2 : cd 187 2 = some (.putfield 403, 3) := by decide +kernel
theorem c_187_5 : cd 187 5 = some (.iload_n 2, 1) := by decide +kernel
theorem c_187_6 : cd 187 6 = some (.iconst (1), 1) := by decide +kernel
theorem c_187_7 : cd 187 7 = some (.if_icmp .ne (22), 3) := by decide +kernel
theorem c_187_10 : cd 187 10 = some (.aload_n 1, 1) := by decide +kernel
theorem c_187_11 : cd 187 11 = some (.getfield 410, 3) := by decide +kernel
theorem c_187_14 : cd 187 14 = some (.aload_n 0, 1) := by decide +kernel
theorem c_187_15 : cd 187 15 = some (.getfield 10, 3) := by decide +kernel
theorem c_187_18 : cd 187 18 = some (.getfield 139, 3) := by decide +kernel
theorem c_187_21 : cd 187 21 = some (.iload_n 3, 1) := by decide +kernel
theorem c_187_22 : cd 187 22 = some (.aaload, 1) := by decide +kernel
theorem c_187_23 : cd 187 23 = some (.invokevirtual 455, 3) := by decide +kernel
theorem c_187_26 : cd 187 26 = some (.goto (34), 3) := by decide +kernel
theorem c_187_29 : cd 187 29 = some (.iload_n 2, 1) := by decide +kernel
theorem c_187_30 : cd 187 30 = some (.iconst (2), 1) := by decide +kernel
theorem c_187_31 : cd 187 31 = some (.if_icmp .ne (19), 3) := by decide +kernel
theorem c_187_34 : cd 187 34 = some (.aload_n 1, 1) := by decide +kernel
theorem c_187_35 : cd 187 35 = some (.getfield 417, 3) := by decide +kernel
theorem c_187_38 : cd 187 38 = some (.aload_n 0, 1) := by decide +kernel
theorem c_187_39 : cd 187 39 = some (.getfield 42, 3) := by decide +kernel
theorem c_187_42 : cd 187 42 = some (.iload_n 3, 1) := by decide +kernel
theorem c_187_43 : cd 187 43 = some (.aaload, 1) := by decide +kernel
theorem c_187_44 : cd 187 44 = some (.invokevirtual 458, 3) := by decide +kernel
theorem c_187_47 : cd 187 47 = some (.goto (13), 3) := by decide +kernel
theorem c_187_50 : cd 187 50 = some (.iload_n 2, 1) := by decide +kernel
theorem c_187_51 : cd 187 51 = some (.iconst (3), 1) := by decide +kernel
theorem c_187_52 : cd 187 52 = some (.if_icmp .ne (8), 3) := by decide +kernel
theorem c_187_55 : cd 187 55 = some (.aload_n 1, 1) := by decide +kernel
theorem c_187_56 : cd 187 56 = some (.iload_n 3, 1) := by decide +kernel
theorem c_187_57 : cd 187 57 = some (.putfield 421, 3) := by decide +kernel
theorem c_187_60 : cd 187 60 = some (.return_, 1) := by decide +kernel
def f_Ct_layDown_60 (σ : Mm) : Option Mm := some σ
set_option maxRecDepth 100000 in
set_option maxHeartbeats 4000000 in
theorem t_Ct_layDown_60 {X : Xt} {S : Sh} (hS : ShOK S) {d : Nat} (hd : 7 ≤ d + 1) (u0 : Value) (u1 : Value) (u2 : Value) (u3 : Value) (σ : Mm) : Rf X S emV (f_Ct_layDown_60 σ) (d + 1) 187 60 [u0, u1, u2, u3] [] σ := by
  unfold f_Ct_layDown_60
  exact rf_vret c_187_60 rfl rfl
def f_Ct_layDown (x0 : Nat) (x1 : Nat) (x2 : Int32) (x3 : Int32) (σ : Mm) : Option Mm := nmM (up2 σ x1 2 x2) fun σ2 => (if ¬ x2 = (1 : Int32) then (if ¬ x2 = (2 : Int32) then (if ¬ x2 = (3 : Int32) then (f_Ct_layDown_60  σ2) else (nmM (up2 σ2 x1 3 x3) fun σ57 => f_Ct_layDown_60  σ57)) else (if inbB x3 4 = true then (f_Rg_become (rfT x1 1) (rfT (rfT x0 6) (ix x3)) σ2).bind fun v44 => f_Ct_layDown_60  v44 else none)) else (if inbB x3 24 = true then (f_Pa_become (rfT x1 0) (rfT (rfT (rfT x0 0) 2) (ix x3)) σ2).bind fun v23 => f_Ct_layDown_60  v23 else none))
set_option maxRecDepth 100000 in
set_option maxHeartbeats 4000000 in
theorem t_Ct_layDown_e {X : Xt} {S : Sh} (hS : ShOK S) {d : Nat} (hd : 7 ≤ d + 1) (x0 : Nat) (x1 : Nat) (x2 : Int32) (x3 : Int32) (σ : Mm) (h_x0 : tgT x0 = 11) (h_x1 : tgT x1 = 6) : Rf X S emV (f_Ct_layDown x0 x1 x2 x3 σ) (d + 1) 187 0 [.ref x0, .ref x1, .int x2, .int x3] [] σ := by
  unfold f_Ct_layDown
  refine rf_ald (i := 1) (Or.inr ⟨1, rfl, rfl, rfl⟩) c_187_0 rfl ?_
  refine rf_ild (i := 2) (Or.inr ⟨2, rfl, rfl, rfl⟩) c_187_1 rfl ?_
  refine rf_puti hS c_187_2 rfl fl_11_403 rfl rfl rfl rfl h_x1 ?_
  refine rf_nm (fun σ2 => ?_)
  refine rf_ild (i := 2) (Or.inr ⟨2, rfl, rfl, rfl⟩) c_187_5 rfl ?_
  refine rf_iconst c_187_6 ki_1 ?_
  refine rf_ite (fun hc7 => ?_) (fun hc7 => ?_)
  · refine rf_b2t c_187_7 rfl (decide_eq_true hc7) ?_
    refine rf_ild (i := 2) (Or.inr ⟨2, rfl, rfl, rfl⟩) c_187_29 rfl ?_
    refine rf_iconst c_187_30 ki_2 ?_
    refine rf_ite (fun hc31 => ?_) (fun hc31 => ?_)
    · refine rf_b2t c_187_31 rfl (decide_eq_true hc31) ?_
      refine rf_ild (i := 2) (Or.inr ⟨2, rfl, rfl, rfl⟩) c_187_50 rfl ?_
      refine rf_iconst c_187_51 ki_3 ?_
      refine rf_ite (fun hc52 => ?_) (fun hc52 => ?_)
      · refine rf_b2t c_187_52 rfl (decide_eq_true hc52) ?_
        exact t_Ct_layDown_60 hS hd  (.ref x0) (.ref x1) (.int x2) (.int x3) σ2
      · refine rf_b2f c_187_52 rfl (decide_eq_false hc52) ?_
        refine rf_ald (i := 1) (Or.inr ⟨1, rfl, rfl, rfl⟩) c_187_55 rfl ?_
        refine rf_ild (i := 3) (Or.inr ⟨3, rfl, rfl, rfl⟩) c_187_56 rfl ?_
        refine rf_puti hS c_187_57 rfl fl_11_421 rfl rfl rfl rfl h_x1 ?_
        refine rf_nm (fun σ57 => ?_)
        exact t_Ct_layDown_60 hS hd  (.ref x0) (.ref x1) (.int x2) (.int x3) σ57
    · refine rf_b2f c_187_31 rfl (decide_eq_false hc31) ?_
      refine rf_ald (i := 1) (Or.inr ⟨1, rfl, rfl, rfl⟩) c_187_34 rfl ?_
      refine rf_getr hS c_187_35 rfl fl_11_417 rfl h_x1 ?_
      refine rf_ald (i := 0) (Or.inr ⟨0, rfl, rfl, rfl⟩) c_187_38 rfl ?_
      refine rf_getr hS c_187_39 rfl fl_11_42 rfl h_x0 ?_
      refine rf_ild (i := 3) (Or.inr ⟨3, rfl, rfl, rfl⟩) c_187_42 rfl ?_
      refine rf_ite (fun hb43 => ?_) (fun _ => rf_none)
      refine rf_aald hS c_187_43 (by rw [(tf_11_6 h_x0)]; decide) (by rw [(tf_11_6 h_x0)]; decide) (lf_11_6 h_x0) hb43 ?_
      refine rf_callV (as := [.ref (rfT x1 1), .ref (rfT (rfT x0 6) (ix x3))]) (kd := 1) c_187_44 rfl (by decide) rfl ml_11_458 (by decide) rfl (rcv_1 hS rfl rfl (tf_6_1 h_x1) (by decide)) (Nat.zero_le _) rfl rfl (t_Rg_become hS (by omega) (rfT x1 1) (rfT (rfT x0 6) (ix x3)) σ2 (tf_6_1 h_x1) (te_34 (tf_11_6 h_x0) hb43)) (fun v44 => ?_)
      refine rf_goto c_187_47 rfl ?_
      exact t_Ct_layDown_60 hS hd  (.ref x0) (.ref x1) (.int x2) (.int x3) v44
  · refine rf_b2f c_187_7 rfl (decide_eq_false hc7) ?_
    refine rf_ald (i := 1) (Or.inr ⟨1, rfl, rfl, rfl⟩) c_187_10 rfl ?_
    refine rf_getr hS c_187_11 rfl fl_11_410 rfl h_x1 ?_
    refine rf_ald (i := 0) (Or.inr ⟨0, rfl, rfl, rfl⟩) c_187_14 rfl ?_
    refine rf_getr hS c_187_15 rfl fl_11_10 rfl h_x0 ?_
    refine rf_getr hS c_187_18 rfl fl_11_139 rfl (tf_11_0 h_x0) ?_
    refine rf_ild (i := 3) (Or.inr ⟨3, rfl, rfl, rfl⟩) c_187_21 rfl ?_
    refine rf_ite (fun hb22 => ?_) (fun _ => rf_none)
    refine rf_aald hS c_187_22 (by rw [(tf_7_2 (tf_11_0 h_x0))]; decide) (by rw [(tf_7_2 (tf_11_0 h_x0))]; decide) (lf_7_2 (tf_11_0 h_x0)) hb22 ?_
    refine rf_callV (as := [.ref (rfT x1 0), .ref (rfT (rfT (rfT x0 0) 2) (ix x3))]) (kd := 1) c_187_23 rfl (by decide) rfl ml_11_455 (by decide) rfl (rcv_1 hS rfl rfl (tf_6_0 h_x1) (by decide)) (Nat.zero_le _) rfl rfl (t_Pa_become hS (by omega) (rfT x1 0) (rfT (rfT (rfT x0 0) 2) (ix x3)) σ2 (tf_6_0 h_x1) (te_33 (tf_7_2 (tf_11_0 h_x0)) hb22)) (fun v23 => ?_)
    refine rf_goto c_187_26 rfl ?_
    exact t_Ct_layDown_60 hS hd  (.ref x0) (.ref x1) (.int x2) (.int x3) v23
theorem t_Ct_layDown {X : Xt} {S : Sh} (hS : ShOK S) {d : Nat} (hd : 7 ≤ d) (x0 : Nat) (x1 : Nat) (x2 : Int32) (x3 : Int32) (σ : Mm) (h_x0 : tgT x0 = 11) (h_x1 : tgT x1 = 6) : Rf X S emV (f_Ct_layDown x0 x1 x2 x3 σ) d 187 0 [.ref x0, .ref x1, .int x2, .int x3] [] σ := by
  obtain ⟨d1, rfl⟩ : ∃ d1, d = d1 + 1 := ⟨d - 1, by omega⟩
  exact t_Ct_layDown_e hS hd x0 x1 x2 x3 σ h_x0 h_x1
theorem c_166_0 : cd 166 0 = some (.iload_n 1, 1) := by decide +kernel
theorem c_166_1 : cd 166 1 = some (.invokestatic 400, 3) := by decide +kernel
theorem c_166_4 : cd 166 4 = some (.ifCond .eq (12), 3) := by decide +kernel
theorem c_166_7 : cd 166 7 = some (.iload_n 2, 1) := by decide +kernel
theorem c_166_8 : cd 166 8 = some (.iconst (0), 1) := by decide +kernel
theorem c_166_9 : cd 166 9 = some (.iconst (3), 1) := by decide +kernel
theorem c_166_10 : cd 166 10 = some (.invokestatic 92, 3) := by decide +kernel
theorem c_166_13 : cd 166 13 = some (.ifCond .ne (6), 3) := by decide +kernel
theorem c_166_16 : cd 166 16 = some (.ldc 72, 2) := by decide +kernel
theorem c_166_18 : cd 166 18 = some (.ireturn, 1) := by decide +kernel
theorem c_166_19 : cd 166 19 = some (.iload_n 2, 1) := by decide +kernel
theorem c_166_20 : cd 166 20 = some (.iconst (1), 1) := by decide +kernel
theorem c_166_21 : cd 166 21 = some (.if_icmp .ne (14), 3) := by decide +kernel
theorem c_166_24 : cd 166 24 = some (.aload_n 0, 1) := by decide +kernel
theorem c_166_25 : cd 166 25 = some (.iload_n 3, 1) := by decide +kernel
theorem c_166_26 : cd 166 26 = some (.invokevirtual 149, 3) := by decide +kernel
theorem c_166_29 : cd 166 29 = some (.ifCond .ne (6), 3) := by decide +kernel
theorem c_166_32 : cd 166 32 = some (.ldc 72, 2) := by decide +kernel
theorem c_166_34 : cd 166 34 = some (.ireturn, 1) := by decide +kernel
theorem c_166_35 : cd 166 35 = some (.iload_n 2, 1) := by decide +kernel
theorem c_166_36 : cd 166 36 = some (.iconst (2), 1) := by decide +kernel
theorem c_166_37 : cd 166 37 = some (.if_icmp .ne (15), 3) := by decide +kernel
theorem c_166_40 : cd 166 40 = some (.iload_n 3, 1) := by decide +kernel
theorem c_166_41 : cd 166 41 = some (.iconst (0), 1) := by decide +kernel
theorem c_166_42 : cd 166 42 = some (.iconst (3), 1) := by decide +kernel
theorem c_166_43 : cd 166 43 = some (.invokestatic 92, 3) := by decide +kernel
theorem c_166_46 : cd 166 46 = some (.ifCond .ne (6), 3) := by decide +kernel
theorem c_166_49 : cd 166 49 = some (.ldc 72, 2) := by decide +kernel
theorem c_166_51 : cd 166 51 = some (.ireturn, 1) := by decide +kernel
theorem c_166_52 : cd 166 52 = some (.iload_n 2, 1) := by decide +kernel
theorem c_166_53 : cd 166 53 = some (.iconst (2), 1) := by decide +kernel
theorem c_166_54 : cd 166 54 = some (.if_icmp .ne (19), 3) := by decide +kernel
theorem c_166_57 : cd 166 57 = some (.aload_n 0, 1) := by decide +kernel
theorem c_166_58 : cd 166 58 = some (.getfield 42, 3) := by decide +kernel
theorem c_166_61 : cd 166 61 = some (.iload_n 3, 1) := by decide +kernel
theorem c_166_62 : cd 166 62 = some (.aaload, 1) := by decide +kernel
theorem c_166_63 : cd 166 63 = some (.invokevirtual 376, 3) := by decide +kernel
theorem c_166_66 : cd 166 66 = some (.ifCond .eq (7), 3) := by decide +kernel
theorem c_166_69 : cd 166 69 = some (.ldc_w 379, 3) := by decide +kernel
theorem c_166_72 : cd 166 72 = some (.ireturn, 1) := by decide +kernel
theorem c_166_73 : cd 166 73 = some (.aload_n 0, 1) := by decide +kernel
theorem c_166_74 : cd 166 74 = some (.getfield 48, 3) := by decide +kernel
theorem c_166_77 : cd 166 77 = some (.iload_n 1, 1) := by decide +kernel
theorem c_166_78 : cd 166 78 = some (.aaload, 1) := by decide +kernel
theorem c_166_79 : cd 166 79 = some (.getfield 403, 3) := by decide +kernel
theorem c_166_82 : cd 166 82 = some (.istore 4, 2) := by decide +kernel
theorem c_166_84 : cd 166 84 = some (.aload_n 0, 1) := by decide +kernel
theorem c_166_85 : cd 166 85 = some (.aload_n 0, 1) := by decide +kernel
theorem c_166_86 : cd 166 86 = some (.getfield 48, 3) := by decide +kernel
theorem c_166_89 : cd 166 89 = some (.iload_n 1, 1) := by decide +kernel
theorem c_166_90 : cd 166 90 = some (.aaload, 1) := by decide +kernel
theorem c_166_91 : cd 166 91 = some (.iload_n 2, 1) := by decide +kernel
theorem c_166_92 : cd 166 92 = some (.iload_n 3, 1) := by decide +kernel
theorem c_166_93 : cd 166 93 = some (.invokevirtual 406, 3) := by decide +kernel
theorem c_166_96 : cd 166 96 = some (.iload 4, 2) := by decide +kernel
theorem c_166_98 : cd 166 98 = some (.ireturn, 1) := by decide +kernel
def f_Ct_lay_16 (σ : Mm) : Option (Int32 × Mm) := some ((-1000000001 : Int32), σ)
set_option maxRecDepth 100000 in
set_option maxHeartbeats 4000000 in
theorem t_Ct_lay_16 {X : Xt} {S : Sh} (hS : ShOK S) {d : Nat} (hd : 8 ≤ d + 1) (u0 : Value) (u1 : Value) (u2 : Value) (u3 : Value) (u4 : Value) (σ : Mm) : Rf X S emM (f_Ct_lay_16 σ) (d + 1) 166 16 [u0, u1, u2, u3, u4] [] σ := by
  unfold f_Ct_lay_16
  refine rf_ldc (Or.inl ⟨rfl, rfl⟩) c_166_16 rfl kl_11_72 ?_
  exact rf_ret c_166_18 rfl rfl rfl rfl
def f_Ct_lay_73 (x0 : Nat) (x1 : Int32) (x2 : Int32) (x3 : Int32) (σ : Mm) : Option (Int32 × Mm) := if inbB x1 6 = true then if inbB x1 6 = true then (f_Ct_layDown x0 (rfT (rfT x0 7) (ix x1)) x2 x3 σ).bind fun v93 => some ((σ (rfT (rfT x0 7) (ix x1)) 2), v93) else none else none
set_option maxRecDepth 100000 in
set_option maxHeartbeats 4000000 in
theorem t_Ct_lay_73 {X : Xt} {S : Sh} (hS : ShOK S) {d : Nat} (hd : 8 ≤ d + 1) (x0 : Nat) (x1 : Int32) (x2 : Int32) (x3 : Int32) (u4 : Value) (σ : Mm) (h_x0 : tgT x0 = 11) : Rf X S emM (f_Ct_lay_73 x0 x1 x2 x3 σ) (d + 1) 166 73 [.ref x0, .int x1, .int x2, .int x3, u4] [] σ := by
  unfold f_Ct_lay_73
  refine rf_ald (i := 0) (Or.inr ⟨0, rfl, rfl, rfl⟩) c_166_73 rfl ?_
  refine rf_getr hS c_166_74 rfl fl_11_48 rfl h_x0 ?_
  refine rf_ild (i := 1) (Or.inr ⟨1, rfl, rfl, rfl⟩) c_166_77 rfl ?_
  refine rf_ite (fun hb78 => ?_) (fun _ => rf_none)
  refine rf_aald hS c_166_78 (by rw [(tf_11_7 h_x0)]; decide) (by rw [(tf_11_7 h_x0)]; decide) (lf_11_7 h_x0) hb78 ?_
  refine rf_geti hS c_166_79 rfl fl_11_403 rfl (te_36 (tf_11_7 h_x0) hb78) ?_
  refine rf_ist (i := 4) (Or.inl ⟨rfl, rfl⟩) c_166_82 (Nat.le_of_ble_eq_true rfl) rfl ?_
  refine rf_ald (i := 0) (Or.inr ⟨0, rfl, rfl, rfl⟩) c_166_84 rfl ?_
  refine rf_ald (i := 0) (Or.inr ⟨0, rfl, rfl, rfl⟩) c_166_85 rfl ?_
  refine rf_getr hS c_166_86 rfl fl_11_48 rfl h_x0 ?_
  refine rf_ild (i := 1) (Or.inr ⟨1, rfl, rfl, rfl⟩) c_166_89 rfl ?_
  refine rf_ite (fun hb90 => ?_) (fun _ => rf_none)
  refine rf_aald hS c_166_90 (by rw [(tf_11_7 h_x0)]; decide) (by rw [(tf_11_7 h_x0)]; decide) (lf_11_7 h_x0) hb90 ?_
  refine rf_ild (i := 2) (Or.inr ⟨2, rfl, rfl, rfl⟩) c_166_91 rfl ?_
  refine rf_ild (i := 3) (Or.inr ⟨3, rfl, rfl, rfl⟩) c_166_92 rfl ?_
  refine rf_callV (as := [.ref x0, .ref (rfT (rfT x0 7) (ix x1)), .int x2, .int x3]) (kd := 1) c_166_93 rfl (by decide) rfl ml_11_406 (by decide) rfl (rcv_1 hS rfl rfl h_x0 (by decide)) (Nat.zero_le _) rfl rfl (t_Ct_layDown hS (by omega) x0 (rfT (rfT x0 7) (ix x1)) x2 x3 σ h_x0 (te_36 (tf_11_7 h_x0) hb90)) (fun v93 => ?_)
  refine rf_ild (i := 4) (Or.inl ⟨rfl, rfl⟩) c_166_96 rfl ?_
  exact rf_ret c_166_98 rfl rfl rfl rfl
def f_Ct_lay_52 (x0 : Nat) (x1 : Int32) (x2 : Int32) (x3 : Int32) (σ : Mm) : Option (Int32 × Mm) := (if ¬ x2 = (2 : Int32) then (f_Ct_lay_73  x0 x1 x2 x3 σ) else (if inbB x3 4 = true then (f_Rg_isMissing σ (rfT (rfT x0 6) (ix x3))).bind fun v63 => (if v63 = 0 then (f_Ct_lay_73  x0 x1 x2 x3 σ) else (some ((-1000000011 : Int32), σ))) else none))
set_option maxRecDepth 100000 in
set_option maxHeartbeats 4000000 in
theorem t_Ct_lay_52 {X : Xt} {S : Sh} (hS : ShOK S) {d : Nat} (hd : 8 ≤ d + 1) (x0 : Nat) (x1 : Int32) (x2 : Int32) (x3 : Int32) (u4 : Value) (σ : Mm) (h_x0 : tgT x0 = 11) : Rf X S emM (f_Ct_lay_52 x0 x1 x2 x3 σ) (d + 1) 166 52 [.ref x0, .int x1, .int x2, .int x3, u4] [] σ := by
  unfold f_Ct_lay_52
  refine rf_ild (i := 2) (Or.inr ⟨2, rfl, rfl, rfl⟩) c_166_52 rfl ?_
  refine rf_iconst c_166_53 ki_2 ?_
  refine rf_ite (fun hc54 => ?_) (fun hc54 => ?_)
  · refine rf_b2t c_166_54 rfl (decide_eq_true hc54) ?_
    exact t_Ct_lay_73 hS hd  x0 x1 x2 x3 (u4) σ h_x0
  · refine rf_b2f c_166_54 rfl (decide_eq_false hc54) ?_
    refine rf_ald (i := 0) (Or.inr ⟨0, rfl, rfl, rfl⟩) c_166_57 rfl ?_
    refine rf_getr hS c_166_58 rfl fl_11_42 rfl h_x0 ?_
    refine rf_ild (i := 3) (Or.inr ⟨3, rfl, rfl, rfl⟩) c_166_61 rfl ?_
    refine rf_ite (fun hb62 => ?_) (fun _ => rf_none)
    refine rf_aald hS c_166_62 (by rw [(tf_11_6 h_x0)]; decide) (by rw [(tf_11_6 h_x0)]; decide) (lf_11_6 h_x0) hb62 ?_
    refine rf_callI (as := [.ref (rfT (rfT x0 6) (ix x3))]) (kd := 1) c_166_63 rfl (by decide) rfl ml_11_376 (by decide) rfl (rcv_1 hS rfl rfl (te_34 (tf_11_6 h_x0) hb62) (by decide)) (Nat.zero_le _) rfl rfl (t_Rg_isMissing hS (by omega) σ (rfT (rfT x0 6) (ix x3)) (te_34 (tf_11_6 h_x0) hb62)) (fun v63 => ?_)
    refine rf_ite (fun hc66 => ?_) (fun hc66 => ?_)
    · refine rf_b1t c_166_66 rfl (decide_eq_true hc66) ?_
      exact t_Ct_lay_73 hS hd  x0 x1 x2 x3 (u4) σ h_x0
    · refine rf_b1f c_166_66 rfl (decide_eq_false hc66) ?_
      refine rf_ldc (Or.inr ⟨rfl, rfl⟩) c_166_69 rfl kl_11_379 ?_
      exact rf_ret c_166_72 rfl rfl rfl rfl
def f_Ct_lay_35 (x0 : Nat) (x1 : Int32) (x2 : Int32) (x3 : Int32) (σ : Mm) : Option (Int32 × Mm) := (if ¬ x2 = (2 : Int32) then (f_Ct_lay_52  x0 x1 x2 x3 σ) else ((f_Ct_isWithin σ x3 (0 : Int32) (3 : Int32)).bind fun v43 => (if ¬ v43 = 0 then (f_Ct_lay_52  x0 x1 x2 x3 σ) else (some ((-1000000001 : Int32), σ)))))
set_option maxRecDepth 100000 in
set_option maxHeartbeats 4000000 in
theorem t_Ct_lay_35 {X : Xt} {S : Sh} (hS : ShOK S) {d : Nat} (hd : 8 ≤ d + 1) (x0 : Nat) (x1 : Int32) (x2 : Int32) (x3 : Int32) (u4 : Value) (σ : Mm) (h_x0 : tgT x0 = 11) : Rf X S emM (f_Ct_lay_35 x0 x1 x2 x3 σ) (d + 1) 166 35 [.ref x0, .int x1, .int x2, .int x3, u4] [] σ := by
  unfold f_Ct_lay_35
  refine rf_ild (i := 2) (Or.inr ⟨2, rfl, rfl, rfl⟩) c_166_35 rfl ?_
  refine rf_iconst c_166_36 ki_2 ?_
  refine rf_ite (fun hc37 => ?_) (fun hc37 => ?_)
  · refine rf_b2t c_166_37 rfl (decide_eq_true hc37) ?_
    exact t_Ct_lay_52 hS hd  x0 x1 x2 x3 (u4) σ h_x0
  · refine rf_b2f c_166_37 rfl (decide_eq_false hc37) ?_
    refine rf_ild (i := 3) (Or.inr ⟨3, rfl, rfl, rfl⟩) c_166_40 rfl ?_
    refine rf_iconst c_166_41 ki_0 ?_
    refine rf_iconst c_166_42 ki_3 ?_
    refine rf_callI (as := [.int x3, .int (0 : Int32), .int (3 : Int32)]) (kd := 0) c_166_43 rfl (by decide) rfl ml_11_92 (by decide) rfl (rcv_0 rfl) (Nat.zero_le _) rfl rfl (t_Ct_isWithin hS (by omega) σ x3 (0 : Int32) (3 : Int32)) (fun v43 => ?_)
    refine rf_ite (fun hc46 => ?_) (fun hc46 => ?_)
    · refine rf_b1t c_166_46 rfl (decide_eq_true hc46) ?_
      exact t_Ct_lay_52 hS hd  x0 x1 x2 x3 (u4) σ h_x0
    · refine rf_b1f c_166_46 rfl (decide_eq_false hc46) ?_
      refine rf_ldc (Or.inl ⟨rfl, rfl⟩) c_166_49 rfl kl_11_72 ?_
      exact rf_ret c_166_51 rfl rfl rfl rfl
def f_Ct_lay (x0 : Nat) (x1 : Int32) (x2 : Int32) (x3 : Int32) (σ : Mm) : Option (Int32 × Mm) := (f_Ct_isRoomSeat σ x1).bind fun v1 => (if v1 = 0 then (f_Ct_lay_16  σ) else ((f_Ct_isWithin σ x2 (0 : Int32) (3 : Int32)).bind fun v10 => (if ¬ v10 = 0 then (if ¬ x2 = (1 : Int32) then (f_Ct_lay_35  x0 x1 x2 x3 σ) else ((f_Ct_isPaper σ x0 x3).bind fun v26 => (if ¬ v26 = 0 then (f_Ct_lay_35  x0 x1 x2 x3 σ) else (some ((-1000000001 : Int32), σ))))) else (f_Ct_lay_16  σ))))
set_option maxRecDepth 100000 in
set_option maxHeartbeats 4000000 in
theorem t_Ct_lay_e {X : Xt} {S : Sh} (hS : ShOK S) {d : Nat} (hd : 8 ≤ d + 1) (x0 : Nat) (x1 : Int32) (x2 : Int32) (x3 : Int32) (σ : Mm) (h_x0 : tgT x0 = 11) : Rf X S emM (f_Ct_lay x0 x1 x2 x3 σ) (d + 1) 166 0 [.ref x0, .int x1, .int x2, .int x3, unset0] [] σ := by
  unfold f_Ct_lay
  refine rf_ild (i := 1) (Or.inr ⟨1, rfl, rfl, rfl⟩) c_166_0 rfl ?_
  refine rf_callI (as := [.int x1]) (kd := 0) c_166_1 rfl (by decide) rfl ml_11_400 (by decide) rfl (rcv_0 rfl) (Nat.zero_le _) rfl rfl (t_Ct_isRoomSeat hS (by omega) σ x1) (fun v1 => ?_)
  refine rf_ite (fun hc4 => ?_) (fun hc4 => ?_)
  · refine rf_b1t c_166_4 rfl (decide_eq_true hc4) ?_
    exact t_Ct_lay_16 hS hd  (.ref x0) (.int x1) (.int x2) (.int x3) (unset0) σ
  · refine rf_b1f c_166_4 rfl (decide_eq_false hc4) ?_
    refine rf_ild (i := 2) (Or.inr ⟨2, rfl, rfl, rfl⟩) c_166_7 rfl ?_
    refine rf_iconst c_166_8 ki_0 ?_
    refine rf_iconst c_166_9 ki_3 ?_
    refine rf_callI (as := [.int x2, .int (0 : Int32), .int (3 : Int32)]) (kd := 0) c_166_10 rfl (by decide) rfl ml_11_92 (by decide) rfl (rcv_0 rfl) (Nat.zero_le _) rfl rfl (t_Ct_isWithin hS (by omega) σ x2 (0 : Int32) (3 : Int32)) (fun v10 => ?_)
    refine rf_ite (fun hc13 => ?_) (fun hc13 => ?_)
    · refine rf_b1t c_166_13 rfl (decide_eq_true hc13) ?_
      refine rf_ild (i := 2) (Or.inr ⟨2, rfl, rfl, rfl⟩) c_166_19 rfl ?_
      refine rf_iconst c_166_20 ki_1 ?_
      refine rf_ite (fun hc21 => ?_) (fun hc21 => ?_)
      · refine rf_b2t c_166_21 rfl (decide_eq_true hc21) ?_
        exact t_Ct_lay_35 hS hd  x0 x1 x2 x3 (unset0) σ h_x0
      · refine rf_b2f c_166_21 rfl (decide_eq_false hc21) ?_
        refine rf_ald (i := 0) (Or.inr ⟨0, rfl, rfl, rfl⟩) c_166_24 rfl ?_
        refine rf_ild (i := 3) (Or.inr ⟨3, rfl, rfl, rfl⟩) c_166_25 rfl ?_
        refine rf_callI (as := [.ref x0, .int x3]) (kd := 1) c_166_26 rfl (by decide) rfl ml_11_149 (by decide) rfl (rcv_1 hS rfl rfl h_x0 (by decide)) (Nat.zero_le _) rfl rfl (t_Ct_isPaper hS (by omega) σ x0 x3 h_x0) (fun v26 => ?_)
        refine rf_ite (fun hc29 => ?_) (fun hc29 => ?_)
        · refine rf_b1t c_166_29 rfl (decide_eq_true hc29) ?_
          exact t_Ct_lay_35 hS hd  x0 x1 x2 x3 (unset0) σ h_x0
        · refine rf_b1f c_166_29 rfl (decide_eq_false hc29) ?_
          refine rf_ldc (Or.inl ⟨rfl, rfl⟩) c_166_32 rfl kl_11_72 ?_
          exact rf_ret c_166_34 rfl rfl rfl rfl
    · refine rf_b1f c_166_13 rfl (decide_eq_false hc13) ?_
      exact t_Ct_lay_16 hS hd  (.ref x0) (.int x1) (.int x2) (.int x3) (unset0) σ
theorem t_Ct_lay {X : Xt} {S : Sh} (hS : ShOK S) {d : Nat} (hd : 8 ≤ d) (x0 : Nat) (x1 : Int32) (x2 : Int32) (x3 : Int32) (σ : Mm) (h_x0 : tgT x0 = 11) : Rf X S emM (f_Ct_lay x0 x1 x2 x3 σ) d 166 0 [.ref x0, .int x1, .int x2, .int x3, unset0] [] σ := by
  obtain ⟨d1, rfl⟩ : ∃ d1, d = d1 + 1 := ⟨d - 1, by omega⟩
  exact t_Ct_lay_e hS hd x0 x1 x2 x3 σ h_x0
theorem c_167_0 : cd 167 0 = some (.iload_n 1, 1) := by decide +kernel
theorem c_167_1 : cd 167 1 = some (.invokestatic 400, 3) := by decide +kernel
theorem c_167_4 : cd 167 4 = some (.ifCond .eq (10), 3) := by decide +kernel
theorem c_167_7 : cd 167 7 = some (.iload_n 2, 1) := by decide +kernel
theorem c_167_8 : cd 167 8 = some (.invokestatic 130, 3) := by decide +kernel
theorem c_167_11 : cd 167 11 = some (.ifCond .ne (6), 3) := by decide +kernel
theorem c_167_14 : cd 167 14 = some (.ldc 72, 2) := by decide +kernel
theorem c_167_16 : cd 167 16 = some (.ireturn, 1) := by decide +kernel
theorem c_167_17 : cd 167 17 = some (.aload_n 0, 1) := by decide +kernel
theorem c_167_18 : cd 167 18 = some (.getfield 48, 3) := by decide +kernel
theorem c_167_21 : cd 167 21 = some (.iload_n 1, 1) := by decide +kernel
theorem c_167_22 : cd 167 22 = some (.aaload, 1) := by decide +kernel
theorem c_167_23 : cd 167 23 = some (.astore_n 3, 1) := by decide +kernel
theorem c_167_24 : cd 167 24 = some (.aload_n 3, 1) := by decide +kernel
theorem c_167_25 : cd 167 25 = some (.getfield 403, 3) := by decide +kernel
theorem c_167_28 : cd 167 28 = some (.ifCond .ne (7), 3) := by decide +kernel
theorem c_167_31 : cd 167 31 = some (.ldc_w 379, 3) := by decide +kernel
theorem c_167_34 : cd 167 34 = some (.ireturn, 1) := by decide +kernel
theorem c_167_35 : cd 167 35 = some (.aload_n 3, 1) := by decide +kernel
theorem c_167_36 : cd 167 36 = some (.getfield 403, 3) := by decide +kernel
theorem c_167_39 : cd 167 39 = some (.iconst (1), 1) := by decide +kernel
theorem c_167_40 : cd 167 40 = some (.if_icmp .ne (14), 3) := by decide +kernel
theorem c_167_43 : cd 167 43 = some (.aload_n 3, 1) := by decide +kernel
theorem c_167_44 : cd 167 44 = some (.getfield 410, 3) := by decide +kernel
theorem c_167_47 : cd 167 47 = some (.iload_n 2, 1) := by decide +kernel
theorem c_167_48 : cd 167 48 = some (.invokevirtual 158, 3) := by decide +kernel
theorem c_167_51 : cd 167 51 = some (.ifCond .ne (6), 3) := by decide +kernel
theorem c_167_54 : cd 167 54 = some (.ldc 164, 2) := by decide +kernel
theorem c_167_56 : cd 167 56 = some (.ireturn, 1) := by decide +kernel
theorem c_167_57 : cd 167 57 = some (.aload_n 3, 1) := by decide +kernel
theorem c_167_58 : cd 167 58 = some (.getfield 410, 3) := by decide +kernel
theorem c_167_61 : cd 167 61 = some (.invokevirtual 414, 3) := by decide +kernel
theorem c_167_64 : cd 167 64 = some (.ireturn, 1) := by decide +kernel
def f_Ct_ask_14 (σ : Mm) : Option Int32 := some (-1000000001 : Int32)
set_option maxRecDepth 100000 in
set_option maxHeartbeats 4000000 in
theorem t_Ct_ask_14 {X : Xt} {S : Sh} (hS : ShOK S) {d : Nat} (hd : 9 ≤ d + 1) (σ : Mm) (u0 : Value) (u1 : Value) (u2 : Value) (u3 : Value) : Rf X S (emI σ) (f_Ct_ask_14 σ) (d + 1) 167 14 [u0, u1, u2, u3] [] σ := by
  unfold f_Ct_ask_14
  refine rf_ldc (Or.inl ⟨rfl, rfl⟩) c_167_14 rfl kl_11_72 ?_
  exact rf_ret c_167_16 rfl rfl rfl rfl
def f_Ct_ask_54 (σ : Mm) : Option Int32 := some (-1000000012 : Int32)
set_option maxRecDepth 100000 in
set_option maxHeartbeats 4000000 in
theorem t_Ct_ask_54 {X : Xt} {S : Sh} (hS : ShOK S) {d : Nat} (hd : 9 ≤ d + 1) (σ : Mm) (u0 : Value) (u1 : Value) (u2 : Value) (u3 : Value) : Rf X S (emI σ) (f_Ct_ask_54 σ) (d + 1) 167 54 [u0, u1, u2, u3] [] σ := by
  unfold f_Ct_ask_54
  refine rf_ldc (Or.inl ⟨rfl, rfl⟩) c_167_54 rfl kl_11_164 ?_
  exact rf_ret c_167_56 rfl rfl rfl rfl
def f_Ct_ask (σ : Mm) (x0 : Nat) (x1 : Int32) (x2 : Int32) : Option Int32 := (f_Ct_isRoomSeat σ x1).bind fun v1 => (if v1 = 0 then (f_Ct_ask_14 σ ) else ((f_Ct_isKind σ x2).bind fun v8 => (if ¬ v8 = 0 then (if inbB x1 6 = true then (if ¬ (σ (rfT (rfT x0 7) (ix x1)) 2) = 0 then (if ¬ (σ (rfT (rfT x0 7) (ix x1)) 2) = (1 : Int32) then (f_Ct_ask_54 σ ) else ((f_Pa_isOfKind σ (rfT (rfT (rfT x0 7) (ix x1)) 0) x2).bind fun v48 => (if ¬ v48 = 0 then ((f_Pa_weighs σ (rfT (rfT (rfT x0 7) (ix x1)) 0)).bind fun v61 => some v61) else (f_Ct_ask_54 σ )))) else (some (-1000000011 : Int32))) else none) else (f_Ct_ask_14 σ ))))
set_option maxRecDepth 100000 in
set_option maxHeartbeats 4000000 in
theorem t_Ct_ask_e {X : Xt} {S : Sh} (hS : ShOK S) {d : Nat} (hd : 9 ≤ d + 1) (σ : Mm) (x0 : Nat) (x1 : Int32) (x2 : Int32) (h_x0 : tgT x0 = 11) : Rf X S (emI σ) (f_Ct_ask σ x0 x1 x2) (d + 1) 167 0 [.ref x0, .int x1, .int x2, unset0] [] σ := by
  unfold f_Ct_ask
  refine rf_ild (i := 1) (Or.inr ⟨1, rfl, rfl, rfl⟩) c_167_0 rfl ?_
  refine rf_callI (as := [.int x1]) (kd := 0) c_167_1 rfl (by decide) rfl ml_11_400 (by decide) rfl (rcv_0 rfl) (Nat.zero_le _) rfl rfl (t_Ct_isRoomSeat hS (by omega) σ x1) (fun v1 => ?_)
  refine rf_ite (fun hc4 => ?_) (fun hc4 => ?_)
  · refine rf_b1t c_167_4 rfl (decide_eq_true hc4) ?_
    exact t_Ct_ask_14 hS hd σ  (.ref x0) (.int x1) (.int x2) (unset0)
  · refine rf_b1f c_167_4 rfl (decide_eq_false hc4) ?_
    refine rf_ild (i := 2) (Or.inr ⟨2, rfl, rfl, rfl⟩) c_167_7 rfl ?_
    refine rf_callI (as := [.int x2]) (kd := 0) c_167_8 rfl (by decide) rfl ml_11_130 (by decide) rfl (rcv_0 rfl) (Nat.zero_le _) rfl rfl (t_Ct_isKind hS (by omega) σ x2) (fun v8 => ?_)
    refine rf_ite (fun hc11 => ?_) (fun hc11 => ?_)
    · refine rf_b1t c_167_11 rfl (decide_eq_true hc11) ?_
      refine rf_ald (i := 0) (Or.inr ⟨0, rfl, rfl, rfl⟩) c_167_17 rfl ?_
      refine rf_getr hS c_167_18 rfl fl_11_48 rfl h_x0 ?_
      refine rf_ild (i := 1) (Or.inr ⟨1, rfl, rfl, rfl⟩) c_167_21 rfl ?_
      refine rf_ite (fun hb22 => ?_) (fun _ => rf_none)
      refine rf_aald hS c_167_22 (by rw [(tf_11_7 h_x0)]; decide) (by rw [(tf_11_7 h_x0)]; decide) (lf_11_7 h_x0) hb22 ?_
      refine rf_ast (i := 3) (Or.inr ⟨3, rfl, rfl, rfl⟩) c_167_23 (Nat.le_of_ble_eq_true rfl) rfl ?_
      refine rf_ald (i := 3) (Or.inr ⟨3, rfl, rfl, rfl⟩) c_167_24 rfl ?_
      refine rf_geti hS c_167_25 rfl fl_11_403 rfl (te_36 (tf_11_7 h_x0) hb22) ?_
      refine rf_ite (fun hc28 => ?_) (fun hc28 => ?_)
      · refine rf_b1t c_167_28 rfl (decide_eq_true hc28) ?_
        refine rf_ald (i := 3) (Or.inr ⟨3, rfl, rfl, rfl⟩) c_167_35 rfl ?_
        refine rf_geti hS c_167_36 rfl fl_11_403 rfl (te_36 (tf_11_7 h_x0) hb22) ?_
        refine rf_iconst c_167_39 ki_1 ?_
        refine rf_ite (fun hc40 => ?_) (fun hc40 => ?_)
        · refine rf_b2t c_167_40 rfl (decide_eq_true hc40) ?_
          exact t_Ct_ask_54 hS hd σ  (.ref x0) (.int x1) (.int x2) (.ref (rfT (rfT x0 7) (ix x1)))
        · refine rf_b2f c_167_40 rfl (decide_eq_false hc40) ?_
          refine rf_ald (i := 3) (Or.inr ⟨3, rfl, rfl, rfl⟩) c_167_43 rfl ?_
          refine rf_getr hS c_167_44 rfl fl_11_410 rfl (te_36 (tf_11_7 h_x0) hb22) ?_
          refine rf_ild (i := 2) (Or.inr ⟨2, rfl, rfl, rfl⟩) c_167_47 rfl ?_
          refine rf_callI (as := [.ref (rfT (rfT (rfT x0 7) (ix x1)) 0), .int x2]) (kd := 1) c_167_48 rfl (by decide) rfl ml_11_158 (by decide) rfl (rcv_1 hS rfl rfl (tf_6_0 (te_36 (tf_11_7 h_x0) hb22)) (by decide)) (Nat.zero_le _) rfl rfl (t_Pa_isOfKind hS (by omega) σ (rfT (rfT (rfT x0 7) (ix x1)) 0) x2 (tf_6_0 (te_36 (tf_11_7 h_x0) hb22))) (fun v48 => ?_)
          refine rf_ite (fun hc51 => ?_) (fun hc51 => ?_)
          · refine rf_b1t c_167_51 rfl (decide_eq_true hc51) ?_
            refine rf_ald (i := 3) (Or.inr ⟨3, rfl, rfl, rfl⟩) c_167_57 rfl ?_
            refine rf_getr hS c_167_58 rfl fl_11_410 rfl (te_36 (tf_11_7 h_x0) hb22) ?_
            refine rf_callI (as := [.ref (rfT (rfT (rfT x0 7) (ix x1)) 0)]) (kd := 1) c_167_61 rfl (by decide) rfl ml_11_414 (by decide) rfl (rcv_1 hS rfl rfl (tf_6_0 (te_36 (tf_11_7 h_x0) hb22)) (by decide)) (Nat.zero_le _) rfl rfl (t_Pa_weighs hS (by omega) σ (rfT (rfT (rfT x0 7) (ix x1)) 0) (tf_6_0 (te_36 (tf_11_7 h_x0) hb22))) (fun v61 => ?_)
            exact rf_ret c_167_64 rfl rfl rfl rfl
          · refine rf_b1f c_167_51 rfl (decide_eq_false hc51) ?_
            exact t_Ct_ask_54 hS hd σ  (.ref x0) (.int x1) (.int x2) (.ref (rfT (rfT x0 7) (ix x1)))
      · refine rf_b1f c_167_28 rfl (decide_eq_false hc28) ?_
        refine rf_ldc (Or.inr ⟨rfl, rfl⟩) c_167_31 rfl kl_11_379 ?_
        exact rf_ret c_167_34 rfl rfl rfl rfl
    · refine rf_b1f c_167_11 rfl (decide_eq_false hc11) ?_
      exact t_Ct_ask_14 hS hd σ  (.ref x0) (.int x1) (.int x2) (unset0)
theorem t_Ct_ask {X : Xt} {S : Sh} (hS : ShOK S) {d : Nat} (hd : 9 ≤ d) (σ : Mm) (x0 : Nat) (x1 : Int32) (x2 : Int32) (h_x0 : tgT x0 = 11) : Rf X S (emI σ) (f_Ct_ask σ x0 x1 x2) d 167 0 [.ref x0, .int x1, .int x2, unset0] [] σ := by
  obtain ⟨d1, rfl⟩ : ∃ d1, d = d1 + 1 := ⟨d - 1, by omega⟩
  exact t_Ct_ask_e hS hd σ x0 x1 x2 h_x0
theorem c_168_0 : cd 168 0 = some (.iload_n 1, 1) := by decide +kernel
theorem c_168_1 : cd 168 1 = some (.invokestatic 400, 3) := by decide +kernel
theorem c_168_4 : cd 168 4 = some (.ifCond .ne (6), 3) := by decide +kernel
theorem c_168_7 : cd 168 7 = some (.ldc 72, 2) := by decide +kernel
theorem c_168_9 : cd 168 9 = some (.ireturn, 1) := by decide +kernel
theorem c_168_10 : cd 168 10 = some (.aload_n 0, 1) := by decide +kernel
theorem c_168_11 : cd 168 11 = some (.getfield 48, 3) := by decide +kernel
theorem c_168_14 : cd 168 14 = some (.iload_n 1, 1) := by decide +kernel
theorem c_168_15 : cd 168 15 = some (.aaload, 1) := by decide +kernel
theorem c_168_16 : cd 168 16 = some (.astore_n 3, 1) := by decide +kernel
theorem c_168_17 : cd 168 17 = some (.aload_n 3, 1) := by decide +kernel
theorem c_168_18 : cd 168 18 = some (.getfield 403, 3) := by decide +kernel
theorem c_168_21 : cd 168 21 = some (.ifCond .ne (7), 3) := by decide +kernel
theorem c_168_24 : cd 168 24 = some (.ldc_w 379, 3) := by decide +kernel
theorem c_168_27 : cd 168 27 = some (.ireturn, 1) := by decide +kernel
theorem c_168_28 : cd 168 28 = some (.aload_n 3, 1) := by decide +kernel
theorem c_168_29 : cd 168 29 = some (.getfield 403, 3) := by decide +kernel
theorem c_168_32 : cd 168 32 = some (.iconst (2), 1) := by decide +kernel
theorem c_168_33 : cd 168 33 = some (.if_icmp .eq (6), 3) := by decide +kernel
theorem c_168_36 : cd 168 36 = some (.ldc 164, 2) := by decide +kernel
theorem c_168_38 : cd 168 38 = some (.ireturn, 1) := by decide +kernel
theorem c_168_39 : cd 168 39 = some (.aload_n 3, 1) := by decide +kernel
theorem c_168_40 : cd 168 40 = some (.getfield 417, 3) := by decide +kernel
theorem c_168_43 : cd 168 43 = some (.iload_n 2, 1) := by decide +kernel
theorem c_168_44 : cd 168 44 = some (.invokevirtual 380, 3) := by decide +kernel
theorem c_168_47 : cd 168 47 = some (.ifCond .eq (15), 3) := by decide +kernel
theorem c_168_50 : cd 168 50 = some (.aload_n 3, 1) := by decide +kernel
theorem c_168_51 : cd 168 51 = some (.getfield 417, 3) := by decide +kernel
theorem c_168_54 : cd 168 54 = some (.getfield 393, 3) := by decide +kernel
theorem c_168_57 : cd 168 57 = some (.iload_n 2, 1) := by decide +kernel
theorem c_168_58 : cd 168 58 = some (.iaload, 1) := by decide +kernel
theorem c_168_59 : cd 168 59 = some (.goto (6), 3) := by decide +kernel
theorem c_168_62 : cd 168 62 = some (.ldc_w 386, 3) := by decide +kernel
theorem c_168_65 : cd 168 65 = some (.ireturn, 1) := by decide +kernel
def f_Ct_item_65 (σ : Mm) (y0 : Int32) : Option Int32 := some y0
set_option maxRecDepth 100000 in
set_option maxHeartbeats 4000000 in
theorem t_Ct_item_65 {X : Xt} {S : Sh} (hS : ShOK S) {d : Nat} (hd : 2 ≤ d + 1) (σ : Mm) (y0 : Int32) (u0 : Value) (u1 : Value) (u2 : Value) (u3 : Value) : Rf X S (emI σ) (f_Ct_item_65 σ y0) (d + 1) 168 65 [u0, u1, u2, u3] [.int y0] σ := by
  unfold f_Ct_item_65
  exact rf_ret c_168_65 rfl rfl rfl rfl
def f_Ct_item (σ : Mm) (x0 : Nat) (x1 : Int32) (x2 : Int32) : Option Int32 := (f_Ct_isRoomSeat σ x1).bind fun v1 => (if ¬ v1 = 0 then (if inbB x1 6 = true then (if ¬ (σ (rfT (rfT x0 7) (ix x1)) 2) = 0 then (if (σ (rfT (rfT x0 7) (ix x1)) 2) = (2 : Int32) then ((f_Rg_hasPlace σ (rfT (rfT (rfT x0 7) (ix x1)) 1) x2).bind fun v44 => (if v44 = 0 then (f_Ct_item_65 σ (-1000000013 : Int32)) else (if inbB x2 24 = true then f_Ct_item_65 σ (σ (rfT (rfT (rfT (rfT x0 7) (ix x1)) 1) 0) (ix x2)) else none))) else (some (-1000000012 : Int32))) else (some (-1000000011 : Int32))) else none) else (some (-1000000001 : Int32)))
set_option maxRecDepth 100000 in
set_option maxHeartbeats 4000000 in
theorem t_Ct_item_e {X : Xt} {S : Sh} (hS : ShOK S) {d : Nat} (hd : 2 ≤ d + 1) (σ : Mm) (x0 : Nat) (x1 : Int32) (x2 : Int32) (h_x0 : tgT x0 = 11) : Rf X S (emI σ) (f_Ct_item σ x0 x1 x2) (d + 1) 168 0 [.ref x0, .int x1, .int x2, unset0] [] σ := by
  unfold f_Ct_item
  refine rf_ild (i := 1) (Or.inr ⟨1, rfl, rfl, rfl⟩) c_168_0 rfl ?_
  refine rf_callI (as := [.int x1]) (kd := 0) c_168_1 rfl (by decide) rfl ml_11_400 (by decide) rfl (rcv_0 rfl) (Nat.zero_le _) rfl rfl (t_Ct_isRoomSeat hS (by omega) σ x1) (fun v1 => ?_)
  refine rf_ite (fun hc4 => ?_) (fun hc4 => ?_)
  · refine rf_b1t c_168_4 rfl (decide_eq_true hc4) ?_
    refine rf_ald (i := 0) (Or.inr ⟨0, rfl, rfl, rfl⟩) c_168_10 rfl ?_
    refine rf_getr hS c_168_11 rfl fl_11_48 rfl h_x0 ?_
    refine rf_ild (i := 1) (Or.inr ⟨1, rfl, rfl, rfl⟩) c_168_14 rfl ?_
    refine rf_ite (fun hb15 => ?_) (fun _ => rf_none)
    refine rf_aald hS c_168_15 (by rw [(tf_11_7 h_x0)]; decide) (by rw [(tf_11_7 h_x0)]; decide) (lf_11_7 h_x0) hb15 ?_
    refine rf_ast (i := 3) (Or.inr ⟨3, rfl, rfl, rfl⟩) c_168_16 (Nat.le_of_ble_eq_true rfl) rfl ?_
    refine rf_ald (i := 3) (Or.inr ⟨3, rfl, rfl, rfl⟩) c_168_17 rfl ?_
    refine rf_geti hS c_168_18 rfl fl_11_403 rfl (te_36 (tf_11_7 h_x0) hb15) ?_
    refine rf_ite (fun hc21 => ?_) (fun hc21 => ?_)
    · refine rf_b1t c_168_21 rfl (decide_eq_true hc21) ?_
      refine rf_ald (i := 3) (Or.inr ⟨3, rfl, rfl, rfl⟩) c_168_28 rfl ?_
      refine rf_geti hS c_168_29 rfl fl_11_403 rfl (te_36 (tf_11_7 h_x0) hb15) ?_
      refine rf_iconst c_168_32 ki_2 ?_
      refine rf_ite (fun hc33 => ?_) (fun hc33 => ?_)
      · refine rf_b2t c_168_33 rfl (decide_eq_true hc33) ?_
        refine rf_ald (i := 3) (Or.inr ⟨3, rfl, rfl, rfl⟩) c_168_39 rfl ?_
        refine rf_getr hS c_168_40 rfl fl_11_417 rfl (te_36 (tf_11_7 h_x0) hb15) ?_
        refine rf_ild (i := 2) (Or.inr ⟨2, rfl, rfl, rfl⟩) c_168_43 rfl ?_
        refine rf_callI (as := [.ref (rfT (rfT (rfT x0 7) (ix x1)) 1), .int x2]) (kd := 1) c_168_44 rfl (by decide) rfl ml_11_380 (by decide) rfl (rcv_1 hS rfl rfl (tf_6_1 (te_36 (tf_11_7 h_x0) hb15)) (by decide)) (Nat.zero_le _) rfl rfl (t_Rg_hasPlace hS (by omega) σ (rfT (rfT (rfT x0 7) (ix x1)) 1) x2 (tf_6_1 (te_36 (tf_11_7 h_x0) hb15))) (fun v44 => ?_)
        refine rf_ite (fun hc47 => ?_) (fun hc47 => ?_)
        · refine rf_b1t c_168_47 rfl (decide_eq_true hc47) ?_
          refine rf_ldc (Or.inr ⟨rfl, rfl⟩) c_168_62 rfl kl_11_386 ?_
          exact t_Ct_item_65 hS hd σ  (-1000000013 : Int32) (.ref x0) (.int x1) (.int x2) (.ref (rfT (rfT x0 7) (ix x1)))
        · refine rf_b1f c_168_47 rfl (decide_eq_false hc47) ?_
          refine rf_ald (i := 3) (Or.inr ⟨3, rfl, rfl, rfl⟩) c_168_50 rfl ?_
          refine rf_getr hS c_168_51 rfl fl_11_417 rfl (te_36 (tf_11_7 h_x0) hb15) ?_
          refine rf_getr hS c_168_54 rfl fl_11_393 rfl (tf_6_1 (te_36 (tf_11_7 h_x0) hb15)) ?_
          refine rf_ild (i := 2) (Or.inr ⟨2, rfl, rfl, rfl⟩) c_168_57 rfl ?_
          refine rf_ite (fun hb58 => ?_) (fun _ => rf_none)
          refine rf_iald hS c_168_58 (tf_4_0 (tf_6_1 (te_36 (tf_11_7 h_x0) hb15))) (lf_4_0 (tf_6_1 (te_36 (tf_11_7 h_x0) hb15))) hb58 ?_
          refine rf_goto c_168_59 rfl ?_
          exact t_Ct_item_65 hS hd σ  (σ (rfT (rfT (rfT (rfT x0 7) (ix x1)) 1) 0) (ix x2)) (.ref x0) (.int x1) (.int x2) (.ref (rfT (rfT x0 7) (ix x1)))
      · refine rf_b2f c_168_33 rfl (decide_eq_false hc33) ?_
        refine rf_ldc (Or.inl ⟨rfl, rfl⟩) c_168_36 rfl kl_11_164 ?_
        exact rf_ret c_168_38 rfl rfl rfl rfl
    · refine rf_b1f c_168_21 rfl (decide_eq_false hc21) ?_
      refine rf_ldc (Or.inr ⟨rfl, rfl⟩) c_168_24 rfl kl_11_379 ?_
      exact rf_ret c_168_27 rfl rfl rfl rfl
  · refine rf_b1f c_168_4 rfl (decide_eq_false hc4) ?_
    refine rf_ldc (Or.inl ⟨rfl, rfl⟩) c_168_7 rfl kl_11_72 ?_
    exact rf_ret c_168_9 rfl rfl rfl rfl
theorem t_Ct_item {X : Xt} {S : Sh} (hS : ShOK S) {d : Nat} (hd : 2 ≤ d) (σ : Mm) (x0 : Nat) (x1 : Int32) (x2 : Int32) (h_x0 : tgT x0 = 11) : Rf X S (emI σ) (f_Ct_item σ x0 x1 x2) d 168 0 [.ref x0, .int x1, .int x2, unset0] [] σ := by
  obtain ⟨d1, rfl⟩ : ∃ d1, d = d1 + 1 := ⟨d - 1, by omega⟩
  exact t_Ct_item_e hS hd σ x0 x1 x2 h_x0
theorem c_169_0 : cd 169 0 = some (.iload_n 1, 1) := by decide +kernel
theorem c_169_1 : cd 169 1 = some (.invokestatic 400, 3) := by decide +kernel
theorem c_169_4 : cd 169 4 = some (.ifCond .ne (6), 3) := by decide +kernel
theorem c_169_7 : cd 169 7 = some (.ldc 72, 2) := by decide +kernel
theorem c_169_9 : cd 169 9 = some (.ireturn, 1) := by decide +kernel
theorem c_169_10 : cd 169 10 = some (.aload_n 0, 1) := by decide +kernel
theorem c_169_11 : cd 169 11 = some (.getfield 48, 3) := by decide +kernel
theorem c_169_14 : cd 169 14 = some (.iload_n 1, 1) := by decide +kernel
theorem c_169_15 : cd 169 15 = some (.aaload, 1) := by decide +kernel
theorem c_169_16 : cd 169 16 = some (.astore_n 3, 1) := by decide +kernel
theorem c_169_17 : cd 169 17 = some (.aload_n 3, 1) := by decide +kernel
theorem c_169_18 : cd 169 18 = some (.getfield 403, 3) := by decide +kernel
theorem c_169_21 : cd 169 21 = some (.ifCond .ne (7), 3) := by decide +kernel
theorem c_169_24 : cd 169 24 = some (.ldc_w 379, 3) := by decide +kernel
theorem c_169_27 : cd 169 27 = some (.ireturn, 1) := by decide +kernel
theorem c_169_28 : cd 169 28 = some (.aload_n 3, 1) := by decide +kernel
theorem c_169_29 : cd 169 29 = some (.getfield 403, 3) := by decide +kernel
theorem c_169_32 : cd 169 32 = some (.iconst (3), 1) := by decide +kernel
theorem c_169_33 : cd 169 33 = some (.if_icmp .eq (6), 3) := by decide +kernel
theorem c_169_36 : cd 169 36 = some (.ldc 164, 2) := by decide +kernel
theorem c_169_38 : cd 169 38 = some (.ireturn, 1) := by decide +kernel
theorem c_169_39 : cd 169 39 = some (.iload_n 2, 1) := by decide +kernel
theorem c_169_40 : cd 169 40 = some (.ifCond .ne (8), 3) := by decide +kernel
theorem c_169_43 : cd 169 43 = some (.ldc 169, 2) := by decide +kernel
theorem c_169_45 : cd 169 45 = some (.goto (9), 3) := by decide +kernel
theorem c_169_48 : cd 169 48 = some (.aload_n 3, 1) := by decide +kernel
theorem c_169_49 : cd 169 49 = some (.getfield 421, 3) := by decide +kernel
theorem c_169_52 : cd 169 52 = some (.iload_n 2, 1) := by decide +kernel
theorem c_169_53 : cd 169 53 = some (.irem, 1) := by decide +kernel
theorem c_169_54 : cd 169 54 = some (.ireturn, 1) := by decide +kernel
def f_Ct_rest_54 (σ : Mm) (y0 : Int32) : Option Int32 := some y0
set_option maxRecDepth 100000 in
set_option maxHeartbeats 4000000 in
theorem t_Ct_rest_54 {X : Xt} {S : Sh} (hS : ShOK S) {d : Nat} (hd : 2 ≤ d + 1) (σ : Mm) (y0 : Int32) (u0 : Value) (u1 : Value) (u2 : Value) (u3 : Value) : Rf X S (emI σ) (f_Ct_rest_54 σ y0) (d + 1) 169 54 [u0, u1, u2, u3] [.int y0] σ := by
  unfold f_Ct_rest_54
  exact rf_ret c_169_54 rfl rfl rfl rfl
def f_Ct_rest (σ : Mm) (x0 : Nat) (x1 : Int32) (x2 : Int32) : Option Int32 := (f_Ct_isRoomSeat σ x1).bind fun v1 => (if ¬ v1 = 0 then (if inbB x1 6 = true then (if ¬ (σ (rfT (rfT x0 7) (ix x1)) 2) = 0 then (if (σ (rfT (rfT x0 7) (ix x1)) 2) = (3 : Int32) then (if ¬ x2 = 0 then (if x2 = 0 then none else f_Ct_rest_54 σ (irm (σ (rfT (rfT x0 7) (ix x1)) 3) x2)) else (f_Ct_rest_54 σ (-1000000002 : Int32))) else (some (-1000000012 : Int32))) else (some (-1000000011 : Int32))) else none) else (some (-1000000001 : Int32)))
set_option maxRecDepth 100000 in
set_option maxHeartbeats 4000000 in
theorem t_Ct_rest_e {X : Xt} {S : Sh} (hS : ShOK S) {d : Nat} (hd : 2 ≤ d + 1) (σ : Mm) (x0 : Nat) (x1 : Int32) (x2 : Int32) (h_x0 : tgT x0 = 11) : Rf X S (emI σ) (f_Ct_rest σ x0 x1 x2) (d + 1) 169 0 [.ref x0, .int x1, .int x2, unset0] [] σ := by
  unfold f_Ct_rest
  refine rf_ild (i := 1) (Or.inr ⟨1, rfl, rfl, rfl⟩) c_169_0 rfl ?_
  refine rf_callI (as := [.int x1]) (kd := 0) c_169_1 rfl (by decide) rfl ml_11_400 (by decide) rfl (rcv_0 rfl) (Nat.zero_le _) rfl rfl (t_Ct_isRoomSeat hS (by omega) σ x1) (fun v1 => ?_)
  refine rf_ite (fun hc4 => ?_) (fun hc4 => ?_)
  · refine rf_b1t c_169_4 rfl (decide_eq_true hc4) ?_
    refine rf_ald (i := 0) (Or.inr ⟨0, rfl, rfl, rfl⟩) c_169_10 rfl ?_
    refine rf_getr hS c_169_11 rfl fl_11_48 rfl h_x0 ?_
    refine rf_ild (i := 1) (Or.inr ⟨1, rfl, rfl, rfl⟩) c_169_14 rfl ?_
    refine rf_ite (fun hb15 => ?_) (fun _ => rf_none)
    refine rf_aald hS c_169_15 (by rw [(tf_11_7 h_x0)]; decide) (by rw [(tf_11_7 h_x0)]; decide) (lf_11_7 h_x0) hb15 ?_
    refine rf_ast (i := 3) (Or.inr ⟨3, rfl, rfl, rfl⟩) c_169_16 (Nat.le_of_ble_eq_true rfl) rfl ?_
    refine rf_ald (i := 3) (Or.inr ⟨3, rfl, rfl, rfl⟩) c_169_17 rfl ?_
    refine rf_geti hS c_169_18 rfl fl_11_403 rfl (te_36 (tf_11_7 h_x0) hb15) ?_
    refine rf_ite (fun hc21 => ?_) (fun hc21 => ?_)
    · refine rf_b1t c_169_21 rfl (decide_eq_true hc21) ?_
      refine rf_ald (i := 3) (Or.inr ⟨3, rfl, rfl, rfl⟩) c_169_28 rfl ?_
      refine rf_geti hS c_169_29 rfl fl_11_403 rfl (te_36 (tf_11_7 h_x0) hb15) ?_
      refine rf_iconst c_169_32 ki_3 ?_
      refine rf_ite (fun hc33 => ?_) (fun hc33 => ?_)
      · refine rf_b2t c_169_33 rfl (decide_eq_true hc33) ?_
        refine rf_ild (i := 2) (Or.inr ⟨2, rfl, rfl, rfl⟩) c_169_39 rfl ?_
        refine rf_ite (fun hc40 => ?_) (fun hc40 => ?_)
        · refine rf_b1t c_169_40 rfl (decide_eq_true hc40) ?_
          refine rf_ald (i := 3) (Or.inr ⟨3, rfl, rfl, rfl⟩) c_169_48 rfl ?_
          refine rf_geti hS c_169_49 rfl fl_11_421 rfl (te_36 (tf_11_7 h_x0) hb15) ?_
          refine rf_ild (i := 2) (Or.inr ⟨2, rfl, rfl, rfl⟩) c_169_52 rfl ?_
          refine rf_ite (fun _ => rf_none) (fun hz53 => ?_)
          refine rf_irem c_169_53 hz53 ?_
          exact t_Ct_rest_54 hS hd σ  (irm (σ (rfT (rfT x0 7) (ix x1)) 3) x2) (.ref x0) (.int x1) (.int x2) (.ref (rfT (rfT x0 7) (ix x1)))
        · refine rf_b1f c_169_40 rfl (decide_eq_false hc40) ?_
          refine rf_ldc (Or.inl ⟨rfl, rfl⟩) c_169_43 rfl kl_11_169 ?_
          refine rf_goto c_169_45 rfl ?_
          exact t_Ct_rest_54 hS hd σ  (-1000000002 : Int32) (.ref x0) (.int x1) (.int x2) (.ref (rfT (rfT x0 7) (ix x1)))
      · refine rf_b2f c_169_33 rfl (decide_eq_false hc33) ?_
        refine rf_ldc (Or.inl ⟨rfl, rfl⟩) c_169_36 rfl kl_11_164 ?_
        exact rf_ret c_169_38 rfl rfl rfl rfl
    · refine rf_b1f c_169_21 rfl (decide_eq_false hc21) ?_
      refine rf_ldc (Or.inr ⟨rfl, rfl⟩) c_169_24 rfl kl_11_379 ?_
      exact rf_ret c_169_27 rfl rfl rfl rfl
  · refine rf_b1f c_169_4 rfl (decide_eq_false hc4) ?_
    refine rf_ldc (Or.inl ⟨rfl, rfl⟩) c_169_7 rfl kl_11_72 ?_
    exact rf_ret c_169_9 rfl rfl rfl rfl
theorem t_Ct_rest {X : Xt} {S : Sh} (hS : ShOK S) {d : Nat} (hd : 2 ≤ d) (σ : Mm) (x0 : Nat) (x1 : Int32) (x2 : Int32) (h_x0 : tgT x0 = 11) : Rf X S (emI σ) (f_Ct_rest σ x0 x1 x2) d 169 0 [.ref x0, .int x1, .int x2, unset0] [] σ := by
  obtain ⟨d1, rfl⟩ : ∃ d1, d = d1 + 1 := ⟨d - 1, by omega⟩
  exact t_Ct_rest_e hS hd σ x0 x1 x2 h_x0
theorem c_170_0 : cd 170 0 = some (.aload_n 0, 1) := by decide +kernel
theorem c_170_1 : cd 170 1 = some (.getfield 422, 3) := by decide +kernel
theorem c_170_4 : cd 170 4 = some (.bipush (60), 2) := by decide +kernel
theorem c_170_6 : cd 170 6 = some (.if_icmp .lt (6), 3) := by decide +kernel
theorem c_170_9 : cd 170 9 = some (.ldc 91, 2) := by decide +kernel
theorem c_170_11 : cd 170 11 = some (.ireturn, 1) := by decide +kernel
theorem c_170_12 : cd 170 12 = some (.aload_n 0, 1) := by decide +kernel
theorem c_170_13 : cd 170 13 = some (.getfield 36, 3) := by decide +kernel
theorem c_170_16 : cd 170 16 = some (.aload_n 0, 1) := by decide +kernel
theorem c_170_17 : cd 170 17 = some (.getfield 422, 3) := by decide +kernel
theorem c_170_20 : cd 170 20 = some (.iload_n 1, 1) := by decide +kernel
theorem c_170_21 : cd 170 21 = some (.iastore, 1) := by decide +kernel
theorem c_170_22 : cd 170 22 = some (.aload_n 0, 1) := by decide +kernel
theorem c_170_23 : cd 170 23 = some (.dup, 1) := by decide +kernel
theorem c_170_24 : cd 170 24 = some (.getfield 422, 3) := by decide +kernel
theorem c_170_27 : cd 170 27 = some (.iconst (1), 1) := by decide +kernel
theorem c_170_28 : cd 170 28 = some (.iadd, 1) := by decide +kernel
theorem c_170_29 : cd 170 29 = some (.putfield 422, 3) := by decide +kernel
theorem c_170_32 : cd 170 32 = some (.aload_n 0, 1) := by decide +kernel
theorem c_170_33 : cd 170 33 = some (.getfield 422, 3) := by decide +kernel
theorem c_170_36 : cd 170 36 = some (.ireturn, 1) := by decide +kernel
def f_Ct_tell (x0 : Nat) (x1 : Int32) (σ : Mm) : Option (Int32 × Mm) := (if (σ x0 9) < (60 : Int32) then (if inbB (σ x0 9) 60 = true then nmM (up2 σ (rfT x0 5) (ix (σ x0 9)) x1) fun σ21 => nmM (up2 σ21 x0 9 ((σ21 x0 9) + (1 : Int32))) fun σ29 => some ((σ29 x0 9), σ29) else none) else (some ((-1000000003 : Int32), σ)))
set_option maxRecDepth 100000 in
set_option maxHeartbeats 4000000 in
theorem t_Ct_tell {X : Xt} {S : Sh} (hS : ShOK S) {d : Nat} (hd : 0 ≤ d) (x0 : Nat) (x1 : Int32) (σ : Mm) (h_x0 : tgT x0 = 11) : Rf X S emM (f_Ct_tell x0 x1 σ) d 170 0 [.ref x0, .int x1] [] σ := by
  unfold f_Ct_tell
  refine rf_ald (i := 0) (Or.inr ⟨0, rfl, rfl, rfl⟩) c_170_0 rfl ?_
  refine rf_geti hS c_170_1 rfl fl_11_422 rfl h_x0 ?_
  refine rf_bipush c_170_4 kb_60 ?_
  refine rf_ite (fun hc6 => ?_) (fun hc6 => ?_)
  · refine rf_b2t c_170_6 rfl (decide_eq_true hc6) ?_
    refine rf_ald (i := 0) (Or.inr ⟨0, rfl, rfl, rfl⟩) c_170_12 rfl ?_
    refine rf_getr hS c_170_13 rfl fl_11_36 rfl h_x0 ?_
    refine rf_ald (i := 0) (Or.inr ⟨0, rfl, rfl, rfl⟩) c_170_16 rfl ?_
    refine rf_geti hS c_170_17 rfl fl_11_422 rfl h_x0 ?_
    refine rf_ild (i := 1) (Or.inr ⟨1, rfl, rfl, rfl⟩) c_170_20 rfl ?_
    refine rf_ite (fun hb21 => ?_) (fun _ => rf_none)
    refine rf_iast hS c_170_21 (tf_11_5 h_x0) (lf_11_5 h_x0) hb21 ?_
    refine rf_nm (fun σ21 => ?_)
    refine rf_ald (i := 0) (Or.inr ⟨0, rfl, rfl, rfl⟩) c_170_22 rfl ?_
    refine rf_dup c_170_23 rfl ?_
    refine rf_geti hS c_170_24 rfl fl_11_422 rfl h_x0 ?_
    refine rf_iconst c_170_27 ki_1 ?_
    refine rf_iadd c_170_28 ?_
    refine rf_puti hS c_170_29 rfl fl_11_422 rfl rfl rfl rfl h_x0 ?_
    refine rf_nm (fun σ29 => ?_)
    refine rf_ald (i := 0) (Or.inr ⟨0, rfl, rfl, rfl⟩) c_170_32 rfl ?_
    refine rf_geti hS c_170_33 rfl fl_11_422 rfl h_x0 ?_
    exact rf_ret c_170_36 rfl rfl rfl rfl
  · refine rf_b2f c_170_6 rfl (decide_eq_false hc6) ?_
    refine rf_ldc (Or.inl ⟨rfl, rfl⟩) c_170_9 rfl kl_11_91 ?_
    exact rf_ret c_170_11 rfl rfl rfl rfl
theorem c_171_0 : cd 171 0 = some (.aload_n 0, 1) := by decide +kernel
theorem c_171_1 : cd 171 1 = some (.getfield 422, 3) := by decide +kernel
theorem c_171_4 : cd 171 4 = some (.istore_n 2, 1) := by decide +kernel
theorem c_171_5 : cd 171 5 = some (.aload_n 0, 1) := by decide +kernel
theorem c_171_6 : cd 171 6 = some (.iconst (0), 1) := by decide +kernel
theorem c_171_7 : cd 171 7 = some (.putfield 422, 3) := by decide +kernel
theorem c_171_10 : cd 171 10 = some (.iload_n 1, 1) := by decide +kernel
theorem c_171_11 : cd 171 11 = some (.iconst (1), 1) := by decide +kernel
theorem c_171_12 : cd 171 12 = some (.bipush (28), 2) := by decide +kernel
theorem c_171_14 : cd 171 14 = some (.invokestatic 92, 3) := by decide +kernel
theorem c_171_17 : cd 171 17 = some (.ifCond .ne (6), 3) := by decide +kernel
theorem c_171_20 : cd 171 20 = some (.ldc 72, 2) := by decide +kernel
theorem c_171_22 : cd 171 22 = some (.ireturn, 1) := by decide +kernel
theorem c_171_23 : cd 171 23 = some (.aload_n 0, 1) := by decide +kernel
theorem c_171_24 : cd 171 24 = some (.getfield 425, 3) := by decide +kernel
theorem c_171_27 : cd 171 27 = some (.ifCond .ne (6), 3) := by decide +kernel
theorem c_171_30 : cd 171 30 = some (.ldc 169, 2) := by decide +kernel
theorem c_171_32 : cd 171 32 = some (.ireturn, 1) := by decide +kernel
theorem c_171_33 : cd 171 33 = some (.aload_n 0, 1) := by decide +kernel
theorem c_171_34 : cd 171 34 = some (.getfield 19, 3) := by decide +kernel
theorem c_171_37 : cd 171 37 = some (.aload_n 0, 1) := by decide +kernel
theorem c_171_38 : cd 171 38 = some (.getfield 16, 3) := by decide +kernel
theorem c_171_41 : cd 171 41 = some (.invokevirtual 428, 3) := by decide +kernel
theorem c_171_44 : cd 171 44 = some (.iconst (0), 1) := by decide +kernel
theorem c_171_45 : cd 171 45 = some (.istore_n 3, 1) := by decide +kernel
theorem c_171_46 : cd 171 46 = some (.iload_n 3, 1) := by decide +kernel
theorem c_171_47 : cd 171 47 = some (.iconst (2), 1) := by decide +kernel
theorem c_171_48 : cd 171 48 = some (.iload_n 1, 1) := by decide +kernel
theorem c_171_49 : cd 171 49 = some (.imul, 1) := by decide +kernel
theorem c_171_50 : cd 171 50 = some (.if_icmp .ge (80), 3) := by decide +kernel
theorem c_171_53 : cd 171 53 = some (.iload_n 3, 1) := by decide +kernel
theorem c_171_54 : cd 171 54 = some (.iconst (2), 1) := by decide +kernel
theorem c_171_55 : cd 171 55 = some (.irem, 1) := by decide +kernel
theorem c_171_56 : cd 171 56 = some (.ifCond .ne (10), 3) := by decide +kernel
theorem c_171_59 : cd 171 59 = some (.aload_n 0, 1) := by decide +kernel
theorem c_171_60 : cd 171 60 = some (.getfield 19, 3) := by decide +kernel
theorem c_171_63 : cd 171 63 = some (.invokevirtual 328, 3) := by decide +kernel
theorem c_171_66 : cd 171 66 = some (.iload_n 3, 1) := by decide +kernel
theorem c_171_67 : cd 171 67 = some (.iconst (2), 1) := by decide +kernel
theorem c_171_68 : cd 171 68 = some (.irem, 1) := by decide +kernel
theorem c_171_69 : cd 171 69 = some (.ifCond .ne (23), 3) := by decide +kernel
theorem c_171_72 : cd 171 72 = some (.aload_n 0, 1) := by decide +kernel
theorem c_171_73 : cd 171 73 = some (.getfield 19, 3) := by decide +kernel
theorem c_171_76 : cd 171 76 = some (.getfield 269, 3) := by decide +kernel
theorem c_171_79 : cd 171 79 = some (.aload_n 0, 1) := by decide +kernel
theorem c_171_80 : cd 171 80 = some (.getfield 19, 3) := by decide +kernel
theorem c_171_83 : cd 171 83 = some (.getfield 73, 3) := by decide +kernel
theorem c_171_86 : cd 171 86 = some (.invokevirtual 431, 3) := by decide +kernel
theorem c_171_89 : cd 171 89 = some (.goto (10), 3) := by decide +kernel
theorem c_171_92 : cd 171 92 = some (.aload_n 0, 1) := by decide +kernel
theorem c_171_93 : cd 171 93 = some (.getfield 19, 3) := by decide +kernel
theorem c_171_96 : cd 171 96 = some (.invokevirtual 360, 3) := by decide +kernel
theorem c_171_99 : cd 171 99 = some (.istore 4, 2) := by decide +kernel
theorem c_171_101 : cd 171 101 = some (.iload_n 3, 1) := by decide +kernel
theorem c_171_102 : cd 171 102 = some (.iload_n 2, 1) := by decide +kernel
theorem c_171_103 : cd 171 103 = some (.if_icmp .ge (17), 3) := by decide +kernel
theorem c_171_106 : cd 171 106 = some (.aload_n 0, 1) := by decide +kernel
theorem c_171_107 : cd 171 107 = some (.getfield 36, 3) := by decide +kernel
theorem c_171_110 : cd 171 110 = some (.iload_n 3, 1) := by decide +kernel
theorem c_171_111 : cd 171 111 = some (.iaload, 1) := by decide +kernel
theorem c_171_112 : cd 171 112 = some (.iload 4, 2) := by decide +kernel
theorem c_171_114 : cd 171 114 = some (.invokestatic 434, 3) := by decide +kernel
theorem c_171_117 : cd 171 117 = some (.if_icmp .eq (7), 3) := by decide +kernel
theorem c_171_120 : cd 171 120 = some (.iload_n 3, 1) := by decide +kernel
theorem c_171_121 : cd 171 121 = some (.iconst (1), 1) := by decide +kernel
theorem c_171_122 : cd 171 122 = some (.iadd, 1) := by decide +kernel
theorem c_171_123 : cd 171 123 = some (.ireturn, 1) := by decide +kernel
theorem c_171_124 : cd 171 124 = some (.iinc 3 (1), 3) := by decide +kernel
theorem c_171_127 : cd 171 127 = some (.goto (-81), 3) := by decide +kernel
theorem c_171_130 : cd 171 130 = some (.iload_n 2, 1) := by decide +kernel
theorem c_171_131 : cd 171 131 = some (.iconst (2), 1) := by decide +kernel
theorem c_171_132 : cd 171 132 = some (.iload_n 1, 1) := by decide +kernel
theorem c_171_133 : cd 171 133 = some (.imul, 1) := by decide +kernel
theorem c_171_134 : cd 171 134 = some (.if_icmp .le (11), 3) := by decide +kernel
theorem c_171_137 : cd 171 137 = some (.iconst (2), 1) := by decide +kernel
theorem c_171_138 : cd 171 138 = some (.iload_n 1, 1) := by decide +kernel
theorem c_171_139 : cd 171 139 = some (.imul, 1) := by decide +kernel
theorem c_171_140 : cd 171 140 = some (.iconst (1), 1) := by decide +kernel
theorem c_171_141 : cd 171 141 = some (.iadd, 1) := by decide +kernel
theorem c_171_142 : cd 171 142 = some (.goto (4), 3) := by decide +kernel
theorem c_171_145 : cd 171 145 = some (.iconst (0), 1) := by decide +kernel
theorem c_171_146 : cd 171 146 = some (.ireturn, 1) := by decide +kernel
def f_Ct_check_120 (x3 : Int32) (σ : Mm) : Option (Int32 × Mm) := some ((x3 + (1 : Int32)), σ)
set_option maxRecDepth 100000 in
set_option maxHeartbeats 4000000 in
theorem t_Ct_check_120 {X : Xt} {S : Sh} (hS : ShOK S) {d : Nat} (hd : 11 ≤ d + 1) (x3 : Int32) (u0 : Value) (u1 : Value) (u2 : Value) (u4 : Value) (σ : Mm) : Rf X S emM (f_Ct_check_120 x3 σ) (d + 1) 171 120 [u0, u1, u2, .int x3, u4] [] σ := by
  unfold f_Ct_check_120
  refine rf_ild (i := 3) (Or.inr ⟨3, rfl, rfl, rfl⟩) c_171_120 rfl ?_
  refine rf_iconst c_171_121 ki_1 ?_
  refine rf_iadd c_171_122 ?_
  exact rf_ret c_171_123 rfl rfl rfl rfl
def f_Ct_check_99 (k46 : Nat → Int32 → Int32 → Int32 → Mm → Option (Int32 × Mm)) (x0 : Nat) (x1 : Int32) (x2 : Int32) (x3 : Int32) (y0 : Int32) (σ : Mm) : Option (Int32 × Mm) := (if x2 ≤ x3 then (f_Ct_check_120  x3 σ) else (if inbB x3 60 = true then (f_In_bitCount σ y0).bind fun v114 => (if (σ (rfT x0 5) (ix x3)) = v114 then (k46 x0 x1 x2 (x3 + (1 : Int32)) σ) else (f_Ct_check_120  x3 σ)) else none))
set_option maxRecDepth 100000 in
set_option maxHeartbeats 4000000 in
theorem t_Ct_check_99 {X : Xt} {S : Sh} (hS : ShOK S) {d : Nat} (hd : 11 ≤ d + 1) {k46 : Nat → Int32 → Int32 → Int32 → Mm → Option (Int32 × Mm)} (hk46 : ∀ (x0 : Nat) (x1 : Int32) (x2 : Int32) (x3 : Int32) (u4 : Value) (σ : Mm) (h_x0 : tgT x0 = 11), Rf X S emM (k46 x0 x1 x2 x3 σ) (d + 1) 171 46 [.ref x0, .int x1, .int x2, .int x3, u4] [] σ) (x0 : Nat) (x1 : Int32) (x2 : Int32) (x3 : Int32) (y0 : Int32) (u4 : Value) (σ : Mm) (h_x0 : tgT x0 = 11) : Rf X S emM (f_Ct_check_99 k46 x0 x1 x2 x3 y0 σ) (d + 1) 171 99 [.ref x0, .int x1, .int x2, .int x3, u4] [.int y0] σ := by
  unfold f_Ct_check_99
  refine rf_ist (i := 4) (Or.inl ⟨rfl, rfl⟩) c_171_99 (Nat.le_of_ble_eq_true rfl) rfl ?_
  refine rf_ild (i := 3) (Or.inr ⟨3, rfl, rfl, rfl⟩) c_171_101 rfl ?_
  refine rf_ild (i := 2) (Or.inr ⟨2, rfl, rfl, rfl⟩) c_171_102 rfl ?_
  refine rf_ite (fun hc103 => ?_) (fun hc103 => ?_)
  · refine rf_b2t c_171_103 rfl (decide_eq_true hc103) ?_
    exact t_Ct_check_120 hS hd  x3 (.ref x0) (.int x1) (.int x2) (.int y0) σ
  · refine rf_b2f c_171_103 rfl (decide_eq_false hc103) ?_
    refine rf_ald (i := 0) (Or.inr ⟨0, rfl, rfl, rfl⟩) c_171_106 rfl ?_
    refine rf_getr hS c_171_107 rfl fl_11_36 rfl h_x0 ?_
    refine rf_ild (i := 3) (Or.inr ⟨3, rfl, rfl, rfl⟩) c_171_110 rfl ?_
    refine rf_ite (fun hb111 => ?_) (fun _ => rf_none)
    refine rf_iald hS c_171_111 (tf_11_5 h_x0) (lf_11_5 h_x0) hb111 ?_
    refine rf_ild (i := 4) (Or.inl ⟨rfl, rfl⟩) c_171_112 rfl ?_
    refine rf_callI (as := [.int y0]) (kd := 0) c_171_114 rfl (by decide) rfl ml_11_434 (by decide) rfl (rcv_0 rfl) (by simp [Value.category]) rfl rfl (t_In_bitCount hS (by omega) σ y0) (fun v114 => ?_)
    refine rf_ite (fun hc117 => ?_) (fun hc117 => ?_)
    · refine rf_b2t c_171_117 rfl (decide_eq_true hc117) ?_
      refine rf_iinc c_171_124 rfl ki_1 rfl ?_
      refine rf_goto c_171_127 rfl ?_
      exact hk46 x0 x1 x2 (x3 + (1 : Int32)) (.int y0) σ h_x0
    · refine rf_b2f c_171_117 rfl (decide_eq_false hc117) ?_
      exact t_Ct_check_120 hS hd  x3 (.ref x0) (.int x1) (.int x2) (.int y0) σ
def f_Ct_check_66 (k46 : Nat → Int32 → Int32 → Int32 → Mm → Option (Int32 × Mm)) (x0 : Nat) (x1 : Int32) (x2 : Int32) (x3 : Int32) (σ : Mm) : Option (Int32 × Mm) := (if ¬ (irm x3 (2 : Int32)) = 0 then ((f_St_openPapers σ (rfT x0 2)).bind fun v96 => f_Ct_check_99 k46 x0 x1 x2 x3 v96 σ) else ((f_Dk_standing σ (rfT (rfT x0 2) 4) (σ (rfT x0 2) 8)).bind fun v86 => f_Ct_check_99 k46 x0 x1 x2 x3 v86 σ))
set_option maxRecDepth 100000 in
set_option maxHeartbeats 4000000 in
theorem t_Ct_check_66 {X : Xt} {S : Sh} (hS : ShOK S) {d : Nat} (hd : 11 ≤ d + 1) {k46 : Nat → Int32 → Int32 → Int32 → Mm → Option (Int32 × Mm)} (hk46 : ∀ (x0 : Nat) (x1 : Int32) (x2 : Int32) (x3 : Int32) (u4 : Value) (σ : Mm) (h_x0 : tgT x0 = 11), Rf X S emM (k46 x0 x1 x2 x3 σ) (d + 1) 171 46 [.ref x0, .int x1, .int x2, .int x3, u4] [] σ) (x0 : Nat) (x1 : Int32) (x2 : Int32) (x3 : Int32) (u4 : Value) (σ : Mm) (h_x0 : tgT x0 = 11) : Rf X S emM (f_Ct_check_66 k46 x0 x1 x2 x3 σ) (d + 1) 171 66 [.ref x0, .int x1, .int x2, .int x3, u4] [] σ := by
  unfold f_Ct_check_66
  refine rf_ild (i := 3) (Or.inr ⟨3, rfl, rfl, rfl⟩) c_171_66 rfl ?_
  refine rf_iconst c_171_67 ki_2 ?_
  refine rf_irem c_171_68 (by decide) ?_
  refine rf_ite (fun hc69 => ?_) (fun hc69 => ?_)
  · refine rf_b1t c_171_69 rfl (decide_eq_true hc69) ?_
    refine rf_ald (i := 0) (Or.inr ⟨0, rfl, rfl, rfl⟩) c_171_92 rfl ?_
    refine rf_getr hS c_171_93 rfl fl_11_19 rfl h_x0 ?_
    refine rf_callI (as := [.ref (rfT x0 2)]) (kd := 1) c_171_96 rfl (by decide) rfl ml_11_360 (by decide) rfl (rcv_1 hS rfl rfl (tf_11_2 h_x0) (by decide)) (Nat.zero_le _) rfl rfl (t_St_openPapers hS (by omega) σ (rfT x0 2) (tf_11_2 h_x0)) (fun v96 => ?_)
    exact t_Ct_check_99 hS hd hk46 x0 x1 x2 x3 v96 (u4) σ h_x0
  · refine rf_b1f c_171_69 rfl (decide_eq_false hc69) ?_
    refine rf_ald (i := 0) (Or.inr ⟨0, rfl, rfl, rfl⟩) c_171_72 rfl ?_
    refine rf_getr hS c_171_73 rfl fl_11_19 rfl h_x0 ?_
    refine rf_getr hS c_171_76 rfl fl_11_269 rfl (tf_11_2 h_x0) ?_
    refine rf_ald (i := 0) (Or.inr ⟨0, rfl, rfl, rfl⟩) c_171_79 rfl ?_
    refine rf_getr hS c_171_80 rfl fl_11_19 rfl h_x0 ?_
    refine rf_geti hS c_171_83 rfl fl_11_73 rfl (tf_11_2 h_x0) ?_
    refine rf_callI (as := [.ref (rfT (rfT x0 2) 4), .int (σ (rfT x0 2) 8)]) (kd := 1) c_171_86 rfl (by decide) rfl ml_11_431 (by decide) rfl (rcv_1 hS rfl rfl (tf_7_4 (tf_11_2 h_x0)) (by decide)) (Nat.zero_le _) rfl rfl (t_Dk_standing hS (by omega) σ (rfT (rfT x0 2) 4) (σ (rfT x0 2) 8) (tf_7_4 (tf_11_2 h_x0))) (fun v86 => ?_)
    refine rf_goto c_171_89 rfl ?_
    exact t_Ct_check_99 hS hd hk46 x0 x1 x2 x3 v86 (u4) σ h_x0
def f_Ct_check_146 (y0 : Int32) (σ : Mm) : Option (Int32 × Mm) := some (y0, σ)
set_option maxRecDepth 100000 in
set_option maxHeartbeats 4000000 in
theorem t_Ct_check_146 {X : Xt} {S : Sh} (hS : ShOK S) {d : Nat} (hd : 11 ≤ d + 1) (y0 : Int32) (u0 : Value) (u1 : Value) (u2 : Value) (u3 : Value) (u4 : Value) (σ : Mm) : Rf X S emM (f_Ct_check_146 y0 σ) (d + 1) 171 146 [u0, u1, u2, u3, u4] [.int y0] σ := by
  unfold f_Ct_check_146
  exact rf_ret c_171_146 rfl rfl rfl rfl
def f_Ct_check_46 : Nat → Nat → Int32 → Int32 → Int32 → Mm → Option (Int32 × Mm)
  | 0, _, _, _, _, _ => none
  | n + 1, x0, x1, x2, x3, σ => (if ((2 : Int32) * x1) ≤ x3 then (if x2 ≤ ((2 : Int32) * x1) then (f_Ct_check_146  (0 : Int32) σ) else (f_Ct_check_146  (((2 : Int32) * x1) + (1 : Int32)) σ)) else (if ¬ (irm x3 (2 : Int32)) = 0 then (f_Ct_check_66 (f_Ct_check_46  n) x0 x1 x2 x3 σ) else ((f_St_letDayGoBy (rfT x0 2) σ).bind fun v63 => f_Ct_check_66 (f_Ct_check_46  n) x0 x1 x2 x3 v63)))
set_option maxRecDepth 100000 in
set_option maxHeartbeats 4000000 in
theorem t_Ct_check_46 {X : Xt} {S : Sh} (hS : ShOK S) {d : Nat} (hd : 11 ≤ d + 1) : ∀ (n : Nat) (x0 : Nat) (x1 : Int32) (x2 : Int32) (x3 : Int32) (u4 : Value) (σ : Mm) (h_x0 : tgT x0 = 11), Rf X S emM (f_Ct_check_46 n x0 x1 x2 x3 σ) (d + 1) 171 46 [.ref x0, .int x1, .int x2, .int x3, u4] [] σ := by
  intro n
  induction n with
  | zero => intro x0 x1 x2 x3 u4 σ h_x0; exact rf_none
  | succ n ih =>
    intro x0 x1 x2 x3 u4 σ h_x0
    rw [f_Ct_check_46]
    refine rf_ild (i := 3) (Or.inr ⟨3, rfl, rfl, rfl⟩) c_171_46 rfl ?_
    refine rf_iconst c_171_47 ki_2 ?_
    refine rf_ild (i := 1) (Or.inr ⟨1, rfl, rfl, rfl⟩) c_171_48 rfl ?_
    refine rf_imul c_171_49 ?_
    refine rf_ite (fun hc50 => ?_) (fun hc50 => ?_)
    · refine rf_b2t c_171_50 rfl (decide_eq_true hc50) ?_
      refine rf_ild (i := 2) (Or.inr ⟨2, rfl, rfl, rfl⟩) c_171_130 rfl ?_
      refine rf_iconst c_171_131 ki_2 ?_
      refine rf_ild (i := 1) (Or.inr ⟨1, rfl, rfl, rfl⟩) c_171_132 rfl ?_
      refine rf_imul c_171_133 ?_
      refine rf_ite (fun hc134 => ?_) (fun hc134 => ?_)
      · refine rf_b2t c_171_134 rfl (decide_eq_true hc134) ?_
        refine rf_iconst c_171_145 ki_0 ?_
        exact t_Ct_check_146 hS hd  (0 : Int32) (.ref x0) (.int x1) (.int x2) (.int x3) (u4) σ
      · refine rf_b2f c_171_134 rfl (decide_eq_false hc134) ?_
        refine rf_iconst c_171_137 ki_2 ?_
        refine rf_ild (i := 1) (Or.inr ⟨1, rfl, rfl, rfl⟩) c_171_138 rfl ?_
        refine rf_imul c_171_139 ?_
        refine rf_iconst c_171_140 ki_1 ?_
        refine rf_iadd c_171_141 ?_
        refine rf_goto c_171_142 rfl ?_
        exact t_Ct_check_146 hS hd  (((2 : Int32) * x1) + (1 : Int32)) (.ref x0) (.int x1) (.int x2) (.int x3) (u4) σ
    · refine rf_b2f c_171_50 rfl (decide_eq_false hc50) ?_
      refine rf_ild (i := 3) (Or.inr ⟨3, rfl, rfl, rfl⟩) c_171_53 rfl ?_
      refine rf_iconst c_171_54 ki_2 ?_
      refine rf_irem c_171_55 (by decide) ?_
      refine rf_ite (fun hc56 => ?_) (fun hc56 => ?_)
      · refine rf_b1t c_171_56 rfl (decide_eq_true hc56) ?_
        exact t_Ct_check_66 hS hd ih x0 x1 x2 x3 (u4) σ h_x0
      · refine rf_b1f c_171_56 rfl (decide_eq_false hc56) ?_
        refine rf_ald (i := 0) (Or.inr ⟨0, rfl, rfl, rfl⟩) c_171_59 rfl ?_
        refine rf_getr hS c_171_60 rfl fl_11_19 rfl h_x0 ?_
        refine rf_callV (as := [.ref (rfT x0 2)]) (kd := 1) c_171_63 rfl (by decide) rfl ml_11_328 (by decide) rfl (rcv_1 hS rfl rfl (tf_11_2 h_x0) (by decide)) (Nat.zero_le _) rfl rfl (t_St_letDayGoBy hS (by omega) (rfT x0 2) σ (tf_11_2 h_x0)) (fun v63 => ?_)
        exact t_Ct_check_66 hS hd ih x0 x1 x2 x3 (u4) v63 h_x0
def f_Ct_check (x0 : Nat) (x1 : Int32) (σ : Mm) : Option (Int32 × Mm) := nmM (up2 σ x0 9 (0 : Int32)) fun σ7 => (f_Ct_isWithin σ7 x1 (1 : Int32) (28 : Int32)).bind fun v14 => (if ¬ v14 = 0 then (if ¬ (σ7 x0 8) = 0 then ((f_St_become (rfT x0 2) (rfT x0 1) σ7).bind fun v41 => f_Ct_check_46  NN x0 x1 (σ x0 9) (0 : Int32) v41) else (some ((-1000000002 : Int32), σ7))) else (some ((-1000000001 : Int32), σ7)))
set_option maxRecDepth 100000 in
set_option maxHeartbeats 4000000 in
theorem t_Ct_check_e {X : Xt} {S : Sh} (hS : ShOK S) {d : Nat} (hd : 11 ≤ d + 1) (x0 : Nat) (x1 : Int32) (σ : Mm) (h_x0 : tgT x0 = 11) : Rf X S emM (f_Ct_check x0 x1 σ) (d + 1) 171 0 [.ref x0, .int x1, unset0, unset0, unset0] [] σ := by
  unfold f_Ct_check
  refine rf_ald (i := 0) (Or.inr ⟨0, rfl, rfl, rfl⟩) c_171_0 rfl ?_
  refine rf_geti hS c_171_1 rfl fl_11_422 rfl h_x0 ?_
  refine rf_ist (i := 2) (Or.inr ⟨2, rfl, rfl, rfl⟩) c_171_4 (Nat.le_of_ble_eq_true rfl) rfl ?_
  refine rf_ald (i := 0) (Or.inr ⟨0, rfl, rfl, rfl⟩) c_171_5 rfl ?_
  refine rf_iconst c_171_6 ki_0 ?_
  refine rf_puti hS c_171_7 rfl fl_11_422 rfl rfl rfl rfl h_x0 ?_
  refine rf_nm (fun σ7 => ?_)
  refine rf_ild (i := 1) (Or.inr ⟨1, rfl, rfl, rfl⟩) c_171_10 rfl ?_
  refine rf_iconst c_171_11 ki_1 ?_
  refine rf_bipush c_171_12 kb_28 ?_
  refine rf_callI (as := [.int x1, .int (1 : Int32), .int (28 : Int32)]) (kd := 0) c_171_14 rfl (by decide) rfl ml_11_92 (by decide) rfl (rcv_0 rfl) (Nat.zero_le _) rfl rfl (t_Ct_isWithin hS (by omega) σ7 x1 (1 : Int32) (28 : Int32)) (fun v14 => ?_)
  refine rf_ite (fun hc17 => ?_) (fun hc17 => ?_)
  · refine rf_b1t c_171_17 rfl (decide_eq_true hc17) ?_
    refine rf_ald (i := 0) (Or.inr ⟨0, rfl, rfl, rfl⟩) c_171_23 rfl ?_
    refine rf_geti hS c_171_24 rfl fl_11_425 rfl h_x0 ?_
    refine rf_ite (fun hc27 => ?_) (fun hc27 => ?_)
    · refine rf_b1t c_171_27 rfl (decide_eq_true hc27) ?_
      refine rf_ald (i := 0) (Or.inr ⟨0, rfl, rfl, rfl⟩) c_171_33 rfl ?_
      refine rf_getr hS c_171_34 rfl fl_11_19 rfl h_x0 ?_
      refine rf_ald (i := 0) (Or.inr ⟨0, rfl, rfl, rfl⟩) c_171_37 rfl ?_
      refine rf_getr hS c_171_38 rfl fl_11_16 rfl h_x0 ?_
      refine rf_callV (as := [.ref (rfT x0 2), .ref (rfT x0 1)]) (kd := 1) c_171_41 rfl (by decide) rfl ml_11_428 (by decide) rfl (rcv_1 hS rfl rfl (tf_11_2 h_x0) (by decide)) (Nat.zero_le _) rfl rfl (t_St_become hS (by omega) (rfT x0 2) (rfT x0 1) σ7 (tf_11_2 h_x0) (tf_11_1 h_x0)) (fun v41 => ?_)
      refine rf_iconst c_171_44 ki_0 ?_
      refine rf_ist (i := 3) (Or.inr ⟨3, rfl, rfl, rfl⟩) c_171_45 (Nat.le_of_ble_eq_true rfl) rfl ?_
      exact t_Ct_check_46 hS hd  NN x0 x1 (σ x0 9) (0 : Int32) (unset0) v41 h_x0
    · refine rf_b1f c_171_27 rfl (decide_eq_false hc27) ?_
      refine rf_ldc (Or.inl ⟨rfl, rfl⟩) c_171_30 rfl kl_11_169 ?_
      exact rf_ret c_171_32 rfl rfl rfl rfl
  · refine rf_b1f c_171_17 rfl (decide_eq_false hc17) ?_
    refine rf_ldc (Or.inl ⟨rfl, rfl⟩) c_171_20 rfl kl_11_72 ?_
    exact rf_ret c_171_22 rfl rfl rfl rfl
theorem t_Ct_check {X : Xt} {S : Sh} (hS : ShOK S) {d : Nat} (hd : 11 ≤ d) (x0 : Nat) (x1 : Int32) (σ : Mm) (h_x0 : tgT x0 = 11) : Rf X S emM (f_Ct_check x0 x1 σ) d 171 0 [.ref x0, .int x1, unset0, unset0, unset0] [] σ := by
  obtain ⟨d1, rfl⟩ : ∃ d1, d = d1 + 1 := ⟨d - 1, by omega⟩
  exact t_Ct_check_e hS hd x0 x1 σ h_x0
theorem c_172_0 : cd 172 0 = some (.aload_n 0, 1) := by decide +kernel
theorem c_172_1 : cd 172 1 = some (.getfield 16, 3) := by decide +kernel
theorem c_172_4 : cd 172 4 = some (.aload_n 0, 1) := by decide +kernel
theorem c_172_5 : cd 172 5 = some (.getfield 10, 3) := by decide +kernel
theorem c_172_8 : cd 172 8 = some (.invokevirtual 428, 3) := by decide +kernel
theorem c_172_11 : cd 172 11 = some (.aload_n 0, 1) := by decide +kernel
theorem c_172_12 : cd 172 12 = some (.iconst (1), 1) := by decide +kernel
theorem c_172_13 : cd 172 13 = some (.putfield 425, 3) := by decide +kernel
theorem c_172_16 : cd 172 16 = some (.aload_n 0, 1) := by decide +kernel
theorem c_172_17 : cd 172 17 = some (.getfield 10, 3) := by decide +kernel
theorem c_172_20 : cd 172 20 = some (.getfield 73, 3) := by decide +kernel
theorem c_172_23 : cd 172 23 = some (.ireturn, 1) := by decide +kernel
def f_Ct_keep (x0 : Nat) (σ : Mm) : Option (Int32 × Mm) := (f_St_become (rfT x0 1) (rfT x0 0) σ).bind fun v8 => nmM (up2 v8 x0 8 (1 : Int32)) fun σ13 => some ((σ13 (rfT x0 0) 8), σ13)
set_option maxRecDepth 100000 in
set_option maxHeartbeats 4000000 in
theorem t_Ct_keep_e {X : Xt} {S : Sh} (hS : ShOK S) {d : Nat} (hd : 8 ≤ d + 1) (x0 : Nat) (σ : Mm) (h_x0 : tgT x0 = 11) : Rf X S emM (f_Ct_keep x0 σ) (d + 1) 172 0 [.ref x0] [] σ := by
  unfold f_Ct_keep
  refine rf_ald (i := 0) (Or.inr ⟨0, rfl, rfl, rfl⟩) c_172_0 rfl ?_
  refine rf_getr hS c_172_1 rfl fl_11_16 rfl h_x0 ?_
  refine rf_ald (i := 0) (Or.inr ⟨0, rfl, rfl, rfl⟩) c_172_4 rfl ?_
  refine rf_getr hS c_172_5 rfl fl_11_10 rfl h_x0 ?_
  refine rf_callV (as := [.ref (rfT x0 1), .ref (rfT x0 0)]) (kd := 1) c_172_8 rfl (by decide) rfl ml_11_428 (by decide) rfl (rcv_1 hS rfl rfl (tf_11_1 h_x0) (by decide)) (Nat.zero_le _) rfl rfl (t_St_become hS (by omega) (rfT x0 1) (rfT x0 0) σ (tf_11_1 h_x0) (tf_11_0 h_x0)) (fun v8 => ?_)
  refine rf_ald (i := 0) (Or.inr ⟨0, rfl, rfl, rfl⟩) c_172_11 rfl ?_
  refine rf_iconst c_172_12 ki_1 ?_
  refine rf_puti hS c_172_13 rfl fl_11_425 rfl rfl (by decide) (by decide) h_x0 ?_
  refine rf_nm (fun σ13 => ?_)
  refine rf_ald (i := 0) (Or.inr ⟨0, rfl, rfl, rfl⟩) c_172_16 rfl ?_
  refine rf_getr hS c_172_17 rfl fl_11_10 rfl h_x0 ?_
  refine rf_geti hS c_172_20 rfl fl_11_73 rfl (tf_11_0 h_x0) ?_
  exact rf_ret c_172_23 rfl rfl rfl rfl
theorem t_Ct_keep {X : Xt} {S : Sh} (hS : ShOK S) {d : Nat} (hd : 8 ≤ d) (x0 : Nat) (σ : Mm) (h_x0 : tgT x0 = 11) : Rf X S emM (f_Ct_keep x0 σ) d 172 0 [.ref x0] [] σ := by
  obtain ⟨d1, rfl⟩ : ∃ d1, d = d1 + 1 := ⟨d - 1, by omega⟩
  exact t_Ct_keep_e hS hd x0 σ h_x0
theorem c_173_0 : cd 173 0 = some (.aload_n 0, 1) := by decide +kernel
theorem c_173_1 : cd 173 1 = some (.getfield 425, 3) := by decide +kernel
theorem c_173_4 : cd 173 4 = some (.ifCond .ne (6), 3) := by decide +kernel
theorem c_173_7 : cd 173 7 = some (.ldc 169, 2) := by decide +kernel
theorem c_173_9 : cd 173 9 = some (.ireturn, 1) := by decide +kernel
theorem c_173_10 : cd 173 10 = some (.aload_n 0, 1) := by decide +kernel
theorem c_173_11 : cd 173 11 = some (.getfield 10, 3) := by decide +kernel
theorem c_173_14 : cd 173 14 = some (.aload_n 0, 1) := by decide +kernel
theorem c_173_15 : cd 173 15 = some (.getfield 16, 3) := by decide +kernel
theorem c_173_18 : cd 173 18 = some (.invokevirtual 428, 3) := by decide +kernel
theorem c_173_21 : cd 173 21 = some (.aload_n 0, 1) := by decide +kernel
theorem c_173_22 : cd 173 22 = some (.getfield 10, 3) := by decide +kernel
theorem c_173_25 : cd 173 25 = some (.getfield 73, 3) := by decide +kernel
theorem c_173_28 : cd 173 28 = some (.ireturn, 1) := by decide +kernel
def f_Ct_back (x0 : Nat) (σ : Mm) : Option (Int32 × Mm) := (if ¬ (σ x0 8) = 0 then ((f_St_become (rfT x0 0) (rfT x0 1) σ).bind fun v18 => some ((v18 (rfT x0 0) 8), v18)) else (some ((-1000000002 : Int32), σ)))
set_option maxRecDepth 100000 in
set_option maxHeartbeats 4000000 in
theorem t_Ct_back_e {X : Xt} {S : Sh} (hS : ShOK S) {d : Nat} (hd : 8 ≤ d + 1) (x0 : Nat) (σ : Mm) (h_x0 : tgT x0 = 11) : Rf X S emM (f_Ct_back x0 σ) (d + 1) 173 0 [.ref x0] [] σ := by
  unfold f_Ct_back
  refine rf_ald (i := 0) (Or.inr ⟨0, rfl, rfl, rfl⟩) c_173_0 rfl ?_
  refine rf_geti hS c_173_1 rfl fl_11_425 rfl h_x0 ?_
  refine rf_ite (fun hc4 => ?_) (fun hc4 => ?_)
  · refine rf_b1t c_173_4 rfl (decide_eq_true hc4) ?_
    refine rf_ald (i := 0) (Or.inr ⟨0, rfl, rfl, rfl⟩) c_173_10 rfl ?_
    refine rf_getr hS c_173_11 rfl fl_11_10 rfl h_x0 ?_
    refine rf_ald (i := 0) (Or.inr ⟨0, rfl, rfl, rfl⟩) c_173_14 rfl ?_
    refine rf_getr hS c_173_15 rfl fl_11_16 rfl h_x0 ?_
    refine rf_callV (as := [.ref (rfT x0 0), .ref (rfT x0 1)]) (kd := 1) c_173_18 rfl (by decide) rfl ml_11_428 (by decide) rfl (rcv_1 hS rfl rfl (tf_11_0 h_x0) (by decide)) (Nat.zero_le _) rfl rfl (t_St_become hS (by omega) (rfT x0 0) (rfT x0 1) σ (tf_11_0 h_x0) (tf_11_1 h_x0)) (fun v18 => ?_)
    refine rf_ald (i := 0) (Or.inr ⟨0, rfl, rfl, rfl⟩) c_173_21 rfl ?_
    refine rf_getr hS c_173_22 rfl fl_11_10 rfl h_x0 ?_
    refine rf_geti hS c_173_25 rfl fl_11_73 rfl (tf_11_0 h_x0) ?_
    exact rf_ret c_173_28 rfl rfl rfl rfl
  · refine rf_b1f c_173_4 rfl (decide_eq_false hc4) ?_
    refine rf_ldc (Or.inl ⟨rfl, rfl⟩) c_173_7 rfl kl_11_169 ?_
    exact rf_ret c_173_9 rfl rfl rfl rfl
theorem t_Ct_back {X : Xt} {S : Sh} (hS : ShOK S) {d : Nat} (hd : 8 ≤ d) (x0 : Nat) (σ : Mm) (h_x0 : tgT x0 = 11) : Rf X S emM (f_Ct_back x0 σ) d 173 0 [.ref x0] [] σ := by
  obtain ⟨d1, rfl⟩ : ∃ d1, d = d1 + 1 := ⟨d - 1, by omega⟩
  exact t_Ct_back_e hS hd x0 σ h_x0
theorem c_174_0 : cd 174 0 = some (.iload_n 1, 1) := by decide +kernel
theorem c_174_1 : cd 174 1 = some (.tableswitch (235) (0) (15) #[79, 90, 101, 109, 117, 125, 133, 144, 165, 176, 187, 195, 206, 211, 219, 227], 79) := by decide +kernel
theorem c_174_80 : cd 174 80 = some (.aload_n 0, 1) := by decide +kernel
theorem c_174_81 : cd 174 81 = some (.getfield 10, 3) := by decide +kernel
theorem c_174_84 : cd 174 84 = some (.getfield 54, 3) := by decide +kernel
theorem c_174_87 : cd 174 87 = some (.getfield 200, 3) := by decide +kernel
theorem c_174_90 : cd 174 90 = some (.ireturn, 1) := by decide +kernel
theorem c_174_91 : cd 174 91 = some (.aload_n 0, 1) := by decide +kernel
theorem c_174_92 : cd 174 92 = some (.getfield 10, 3) := by decide +kernel
theorem c_174_95 : cd 174 95 = some (.getfield 96, 3) := by decide +kernel
theorem c_174_98 : cd 174 98 = some (.getfield 203, 3) := by decide +kernel
theorem c_174_101 : cd 174 101 = some (.ireturn, 1) := by decide +kernel
theorem c_174_102 : cd 174 102 = some (.aload_n 0, 1) := by decide +kernel
theorem c_174_103 : cd 174 103 = some (.getfield 10, 3) := by decide +kernel
theorem c_174_106 : cd 174 106 = some (.getfield 136, 3) := by decide +kernel
theorem c_174_109 : cd 174 109 = some (.ireturn, 1) := by decide +kernel
theorem c_174_110 : cd 174 110 = some (.aload_n 0, 1) := by decide +kernel
theorem c_174_111 : cd 174 111 = some (.getfield 10, 3) := by decide +kernel
theorem c_174_114 : cd 174 114 = some (.invokevirtual 439, 3) := by decide +kernel
theorem c_174_117 : cd 174 117 = some (.ireturn, 1) := by decide +kernel
theorem c_174_118 : cd 174 118 = some (.aload_n 0, 1) := by decide +kernel
theorem c_174_119 : cd 174 119 = some (.getfield 10, 3) := by decide +kernel
theorem c_174_122 : cd 174 122 = some (.invokevirtual 442, 3) := by decide +kernel
theorem c_174_125 : cd 174 125 = some (.ireturn, 1) := by decide +kernel
theorem c_174_126 : cd 174 126 = some (.aload_n 0, 1) := by decide +kernel
theorem c_174_127 : cd 174 127 = some (.getfield 10, 3) := by decide +kernel
theorem c_174_130 : cd 174 130 = some (.getfield 206, 3) := by decide +kernel
theorem c_174_133 : cd 174 133 = some (.ireturn, 1) := by decide +kernel
theorem c_174_134 : cd 174 134 = some (.aload_n 0, 1) := by decide +kernel
theorem c_174_135 : cd 174 135 = some (.getfield 10, 3) := by decide +kernel
theorem c_174_138 : cd 174 138 = some (.getfield 269, 3) := by decide +kernel
theorem c_174_141 : cd 174 141 = some (.getfield 445, 3) := by decide +kernel
theorem c_174_144 : cd 174 144 = some (.ireturn, 1) := by decide +kernel
theorem c_174_145 : cd 174 145 = some (.aload_n 0, 1) := by decide +kernel
theorem c_174_146 : cd 174 146 = some (.getfield 10, 3) := by decide +kernel
theorem c_174_149 : cd 174 149 = some (.getfield 269, 3) := by decide +kernel
theorem c_174_152 : cd 174 152 = some (.aload_n 0, 1) := by decide +kernel
theorem c_174_153 : cd 174 153 = some (.getfield 10, 3) := by decide +kernel
theorem c_174_156 : cd 174 156 = some (.getfield 73, 3) := by decide +kernel
theorem c_174_159 : cd 174 159 = some (.invokevirtual 431, 3) := by decide +kernel
theorem c_174_162 : cd 174 162 = some (.invokestatic 434, 3) := by decide +kernel
theorem c_174_165 : cd 174 165 = some (.ireturn, 1) := by decide +kernel
theorem c_174_166 : cd 174 166 = some (.aload_n 0, 1) := by decide +kernel
theorem c_174_167 : cd 174 167 = some (.getfield 10, 3) := by decide +kernel
theorem c_174_170 : cd 174 170 = some (.getfield 335, 3) := by decide +kernel
theorem c_174_173 : cd 174 173 = some (.getfield 344, 3) := by decide +kernel
theorem c_174_176 : cd 174 176 = some (.ireturn, 1) := by decide +kernel
theorem c_174_177 : cd 174 177 = some (.aload_n 0, 1) := by decide +kernel
theorem c_174_178 : cd 174 178 = some (.getfield 10, 3) := by decide +kernel
theorem c_174_181 : cd 174 181 = some (.getfield 335, 3) := by decide +kernel
theorem c_174_184 : cd 174 184 = some (.invokevirtual 446, 3) := by decide +kernel
theorem c_174_187 : cd 174 187 = some (.ireturn, 1) := by decide +kernel
theorem c_174_188 : cd 174 188 = some (.aload_n 0, 1) := by decide +kernel
theorem c_174_189 : cd 174 189 = some (.getfield 10, 3) := by decide +kernel
theorem c_174_192 : cd 174 192 = some (.getfield 364, 3) := by decide +kernel
theorem c_174_195 : cd 174 195 = some (.ireturn, 1) := by decide +kernel
theorem c_174_196 : cd 174 196 = some (.aload_n 0, 1) := by decide +kernel
theorem c_174_197 : cd 174 197 = some (.getfield 10, 3) := by decide +kernel
theorem c_174_200 : cd 174 200 = some (.getfield 54, 3) := by decide +kernel
theorem c_174_203 : cd 174 203 = some (.getfield 449, 3) := by decide +kernel
theorem c_174_206 : cd 174 206 = some (.ireturn, 1) := by decide +kernel
theorem c_174_207 : cd 174 207 = some (.aload_n 0, 1) := by decide +kernel
theorem c_174_208 : cd 174 208 = some (.getfield 422, 3) := by decide +kernel
theorem c_174_211 : cd 174 211 = some (.ireturn, 1) := by decide +kernel
theorem c_174_212 : cd 174 212 = some (.aload_n 0, 1) := by decide +kernel
theorem c_174_213 : cd 174 213 = some (.getfield 32, 3) := by decide +kernel
theorem c_174_216 : cd 174 216 = some (.getfield 452, 3) := by decide +kernel
theorem c_174_219 : cd 174 219 = some (.ireturn, 1) := by decide +kernel
theorem c_174_220 : cd 174 220 = some (.aload_n 0, 1) := by decide +kernel
theorem c_174_221 : cd 174 221 = some (.getfield 10, 3) := by decide +kernel
theorem c_174_224 : cd 174 224 = some (.getfield 73, 3) := by decide +kernel
theorem c_174_227 : cd 174 227 = some (.ireturn, 1) := by decide +kernel
theorem c_174_228 : cd 174 228 = some (.aload_n 0, 1) := by decide +kernel
theorem c_174_229 : cd 174 229 = some (.getfield 10, 3) := by decide +kernel
theorem c_174_232 : cd 174 232 = some (.getfield 88, 3) := by decide +kernel
theorem c_174_235 : cd 174 235 = some (.ireturn, 1) := by decide +kernel
theorem c_174_236 : cd 174 236 = some (.ldc 72, 2) := by decide +kernel
theorem c_174_238 : cd 174 238 = some (.ireturn, 1) := by decide +kernel
def f_Ct_count (σ : Mm) (x0 : Nat) (x1 : Int32) : Option Int32 := (if x1 = (0 : Int32) then (some (σ (rfT (rfT x0 0) 0) 3)) else (if x1 = (1 : Int32) then (some (σ (rfT (rfT x0 0) 1) 4)) else (if x1 = (2 : Int32) then (some (σ (rfT x0 0) 10)) else (if x1 = (3 : Int32) then ((f_St_sentPapers σ (rfT x0 0)).bind fun v114 => some v114) else (if x1 = (4 : Int32) then ((f_St_papersThatCame σ (rfT x0 0)).bind fun v122 => some v122) else (if x1 = (5 : Int32) then (some (σ (rfT x0 0) 11)) else (if x1 = (6 : Int32) then (some (σ (rfT (rfT x0 0) 4) 8)) else (if x1 = (7 : Int32) then ((f_Dk_standing σ (rfT (rfT x0 0) 4) (σ (rfT x0 0) 8)).bind fun v159 => (f_In_bitCount σ v159).bind fun v162 => some v162) else (if x1 = (8 : Int32) then (some (σ (rfT (rfT x0 0) 5) 5)) else (if x1 = (9 : Int32) then ((f_Cp_howManyOut σ (rfT (rfT x0 0) 5)).bind fun v184 => some v184) else (if x1 = (10 : Int32) then (some (σ (rfT x0 0) 12)) else (if x1 = (11 : Int32) then (some (σ (rfT (rfT x0 0) 0) 4)) else (if x1 = (12 : Int32) then (some (σ x0 9)) else (if x1 = (13 : Int32) then (some (σ (rfT x0 4) 5)) else (if x1 = (14 : Int32) then (some (σ (rfT x0 0) 8)) else (if x1 = (15 : Int32) then (some (σ (rfT x0 0) 9)) else (some (-1000000001 : Int32))))))))))))))))))
set_option maxRecDepth 100000 in
set_option maxHeartbeats 4000000 in
theorem t_Ct_count_e {X : Xt} {S : Sh} (hS : ShOK S) {d : Nat} (hd : 2 ≤ d + 1) (σ : Mm) (x0 : Nat) (x1 : Int32) (h_x0 : tgT x0 = 11) : Rf X S (emI σ) (f_Ct_count σ x0 x1) (d + 1) 174 0 [.ref x0, .int x1] [] σ := by
  unfold f_Ct_count
  refine rf_ild (i := 1) (Or.inr ⟨1, rfl, rfl, rfl⟩) c_174_0 rfl ?_
  refine rf_ite (fun hs1_0 => ?_) (fun hs1_0 => ?_)
  · refine rf_tsw (o := 79) c_174_1 (by rw [hs1_0]; decide) rfl ?_
    refine rf_ald (i := 0) (Or.inr ⟨0, rfl, rfl, rfl⟩) c_174_80 rfl ?_
    refine rf_getr hS c_174_81 rfl fl_11_10 rfl h_x0 ?_
    refine rf_getr hS c_174_84 rfl fl_11_54 rfl (tf_11_0 h_x0) ?_
    refine rf_geti hS c_174_87 rfl fl_11_200 rfl (tf_7_0 (tf_11_0 h_x0)) ?_
    exact rf_ret c_174_90 rfl rfl rfl rfl
  · refine rf_ite (fun hs1_1 => ?_) (fun hs1_1 => ?_)
    · refine rf_tsw (o := 90) c_174_1 (by rw [hs1_1]; decide) rfl ?_
      refine rf_ald (i := 0) (Or.inr ⟨0, rfl, rfl, rfl⟩) c_174_91 rfl ?_
      refine rf_getr hS c_174_92 rfl fl_11_10 rfl h_x0 ?_
      refine rf_getr hS c_174_95 rfl fl_11_96 rfl (tf_11_0 h_x0) ?_
      refine rf_geti hS c_174_98 rfl fl_11_203 rfl (tf_7_1 (tf_11_0 h_x0)) ?_
      exact rf_ret c_174_101 rfl rfl rfl rfl
    · refine rf_ite (fun hs1_2 => ?_) (fun hs1_2 => ?_)
      · refine rf_tsw (o := 101) c_174_1 (by rw [hs1_2]; decide) rfl ?_
        refine rf_ald (i := 0) (Or.inr ⟨0, rfl, rfl, rfl⟩) c_174_102 rfl ?_
        refine rf_getr hS c_174_103 rfl fl_11_10 rfl h_x0 ?_
        refine rf_geti hS c_174_106 rfl fl_11_136 rfl (tf_11_0 h_x0) ?_
        exact rf_ret c_174_109 rfl rfl rfl rfl
      · refine rf_ite (fun hs1_3 => ?_) (fun hs1_3 => ?_)
        · refine rf_tsw (o := 109) c_174_1 (by rw [hs1_3]; decide) rfl ?_
          refine rf_ald (i := 0) (Or.inr ⟨0, rfl, rfl, rfl⟩) c_174_110 rfl ?_
          refine rf_getr hS c_174_111 rfl fl_11_10 rfl h_x0 ?_
          refine rf_callI (as := [.ref (rfT x0 0)]) (kd := 1) c_174_114 rfl (by decide) rfl ml_11_439 (by decide) rfl (rcv_1 hS rfl rfl (tf_11_0 h_x0) (by decide)) (Nat.zero_le _) rfl rfl (t_St_sentPapers hS (by omega) σ (rfT x0 0) (tf_11_0 h_x0)) (fun v114 => ?_)
          exact rf_ret c_174_117 rfl rfl rfl rfl
        · refine rf_ite (fun hs1_4 => ?_) (fun hs1_4 => ?_)
          · refine rf_tsw (o := 117) c_174_1 (by rw [hs1_4]; decide) rfl ?_
            refine rf_ald (i := 0) (Or.inr ⟨0, rfl, rfl, rfl⟩) c_174_118 rfl ?_
            refine rf_getr hS c_174_119 rfl fl_11_10 rfl h_x0 ?_
            refine rf_callI (as := [.ref (rfT x0 0)]) (kd := 1) c_174_122 rfl (by decide) rfl ml_11_442 (by decide) rfl (rcv_1 hS rfl rfl (tf_11_0 h_x0) (by decide)) (Nat.zero_le _) rfl rfl (t_St_papersThatCame hS (by omega) σ (rfT x0 0) (tf_11_0 h_x0)) (fun v122 => ?_)
            exact rf_ret c_174_125 rfl rfl rfl rfl
          · refine rf_ite (fun hs1_5 => ?_) (fun hs1_5 => ?_)
            · refine rf_tsw (o := 125) c_174_1 (by rw [hs1_5]; decide) rfl ?_
              refine rf_ald (i := 0) (Or.inr ⟨0, rfl, rfl, rfl⟩) c_174_126 rfl ?_
              refine rf_getr hS c_174_127 rfl fl_11_10 rfl h_x0 ?_
              refine rf_geti hS c_174_130 rfl fl_11_206 rfl (tf_11_0 h_x0) ?_
              exact rf_ret c_174_133 rfl rfl rfl rfl
            · refine rf_ite (fun hs1_6 => ?_) (fun hs1_6 => ?_)
              · refine rf_tsw (o := 133) c_174_1 (by rw [hs1_6]; decide) rfl ?_
                refine rf_ald (i := 0) (Or.inr ⟨0, rfl, rfl, rfl⟩) c_174_134 rfl ?_
                refine rf_getr hS c_174_135 rfl fl_11_10 rfl h_x0 ?_
                refine rf_getr hS c_174_138 rfl fl_11_269 rfl (tf_11_0 h_x0) ?_
                refine rf_geti hS c_174_141 rfl fl_11_445 rfl (tf_7_4 (tf_11_0 h_x0)) ?_
                exact rf_ret c_174_144 rfl rfl rfl rfl
              · refine rf_ite (fun hs1_7 => ?_) (fun hs1_7 => ?_)
                · refine rf_tsw (o := 144) c_174_1 (by rw [hs1_7]; decide) rfl ?_
                  refine rf_ald (i := 0) (Or.inr ⟨0, rfl, rfl, rfl⟩) c_174_145 rfl ?_
                  refine rf_getr hS c_174_146 rfl fl_11_10 rfl h_x0 ?_
                  refine rf_getr hS c_174_149 rfl fl_11_269 rfl (tf_11_0 h_x0) ?_
                  refine rf_ald (i := 0) (Or.inr ⟨0, rfl, rfl, rfl⟩) c_174_152 rfl ?_
                  refine rf_getr hS c_174_153 rfl fl_11_10 rfl h_x0 ?_
                  refine rf_geti hS c_174_156 rfl fl_11_73 rfl (tf_11_0 h_x0) ?_
                  refine rf_callI (as := [.ref (rfT (rfT x0 0) 4), .int (σ (rfT x0 0) 8)]) (kd := 1) c_174_159 rfl (by decide) rfl ml_11_431 (by decide) rfl (rcv_1 hS rfl rfl (tf_7_4 (tf_11_0 h_x0)) (by decide)) (Nat.zero_le _) rfl rfl (t_Dk_standing hS (by omega) σ (rfT (rfT x0 0) 4) (σ (rfT x0 0) 8) (tf_7_4 (tf_11_0 h_x0))) (fun v159 => ?_)
                  refine rf_callI (as := [.int v159]) (kd := 0) c_174_162 rfl (by decide) rfl ml_11_434 (by decide) rfl (rcv_0 rfl) (Nat.zero_le _) rfl rfl (t_In_bitCount hS (by omega) σ v159) (fun v162 => ?_)
                  exact rf_ret c_174_165 rfl rfl rfl rfl
                · refine rf_ite (fun hs1_8 => ?_) (fun hs1_8 => ?_)
                  · refine rf_tsw (o := 165) c_174_1 (by rw [hs1_8]; decide) rfl ?_
                    refine rf_ald (i := 0) (Or.inr ⟨0, rfl, rfl, rfl⟩) c_174_166 rfl ?_
                    refine rf_getr hS c_174_167 rfl fl_11_10 rfl h_x0 ?_
                    refine rf_getr hS c_174_170 rfl fl_11_335 rfl (tf_11_0 h_x0) ?_
                    refine rf_geti hS c_174_173 rfl fl_11_344 rfl (tf_7_5 (tf_11_0 h_x0)) ?_
                    exact rf_ret c_174_176 rfl rfl rfl rfl
                  · refine rf_ite (fun hs1_9 => ?_) (fun hs1_9 => ?_)
                    · refine rf_tsw (o := 176) c_174_1 (by rw [hs1_9]; decide) rfl ?_
                      refine rf_ald (i := 0) (Or.inr ⟨0, rfl, rfl, rfl⟩) c_174_177 rfl ?_
                      refine rf_getr hS c_174_178 rfl fl_11_10 rfl h_x0 ?_
                      refine rf_getr hS c_174_181 rfl fl_11_335 rfl (tf_11_0 h_x0) ?_
                      refine rf_callI (as := [.ref (rfT (rfT x0 0) 5)]) (kd := 1) c_174_184 rfl (by decide) rfl ml_11_446 (by decide) rfl (rcv_1 hS rfl rfl (tf_7_5 (tf_11_0 h_x0)) (by decide)) (Nat.zero_le _) rfl rfl (t_Cp_howManyOut hS (by omega) σ (rfT (rfT x0 0) 5) (tf_7_5 (tf_11_0 h_x0))) (fun v184 => ?_)
                      exact rf_ret c_174_187 rfl rfl rfl rfl
                    · refine rf_ite (fun hs1_10 => ?_) (fun hs1_10 => ?_)
                      · refine rf_tsw (o := 187) c_174_1 (by rw [hs1_10]; decide) rfl ?_
                        refine rf_ald (i := 0) (Or.inr ⟨0, rfl, rfl, rfl⟩) c_174_188 rfl ?_
                        refine rf_getr hS c_174_189 rfl fl_11_10 rfl h_x0 ?_
                        refine rf_geti hS c_174_192 rfl fl_11_364 rfl (tf_11_0 h_x0) ?_
                        exact rf_ret c_174_195 rfl rfl rfl rfl
                      · refine rf_ite (fun hs1_11 => ?_) (fun hs1_11 => ?_)
                        · refine rf_tsw (o := 195) c_174_1 (by rw [hs1_11]; decide) rfl ?_
                          refine rf_ald (i := 0) (Or.inr ⟨0, rfl, rfl, rfl⟩) c_174_196 rfl ?_
                          refine rf_getr hS c_174_197 rfl fl_11_10 rfl h_x0 ?_
                          refine rf_getr hS c_174_200 rfl fl_11_54 rfl (tf_11_0 h_x0) ?_
                          refine rf_geti hS c_174_203 rfl fl_11_449 rfl (tf_7_0 (tf_11_0 h_x0)) ?_
                          exact rf_ret c_174_206 rfl rfl rfl rfl
                        · refine rf_ite (fun hs1_12 => ?_) (fun hs1_12 => ?_)
                          · refine rf_tsw (o := 206) c_174_1 (by rw [hs1_12]; decide) rfl ?_
                            refine rf_ald (i := 0) (Or.inr ⟨0, rfl, rfl, rfl⟩) c_174_207 rfl ?_
                            refine rf_geti hS c_174_208 rfl fl_11_422 rfl h_x0 ?_
                            exact rf_ret c_174_211 rfl rfl rfl rfl
                          · refine rf_ite (fun hs1_13 => ?_) (fun hs1_13 => ?_)
                            · refine rf_tsw (o := 211) c_174_1 (by rw [hs1_13]; decide) rfl ?_
                              refine rf_ald (i := 0) (Or.inr ⟨0, rfl, rfl, rfl⟩) c_174_212 rfl ?_
                              refine rf_getr hS c_174_213 rfl fl_11_32 rfl h_x0 ?_
                              refine rf_geti hS c_174_216 rfl fl_11_452 rfl (tf_11_4 h_x0) ?_
                              exact rf_ret c_174_219 rfl rfl rfl rfl
                            · refine rf_ite (fun hs1_14 => ?_) (fun hs1_14 => ?_)
                              · refine rf_tsw (o := 219) c_174_1 (by rw [hs1_14]; decide) rfl ?_
                                refine rf_ald (i := 0) (Or.inr ⟨0, rfl, rfl, rfl⟩) c_174_220 rfl ?_
                                refine rf_getr hS c_174_221 rfl fl_11_10 rfl h_x0 ?_
                                refine rf_geti hS c_174_224 rfl fl_11_73 rfl (tf_11_0 h_x0) ?_
                                exact rf_ret c_174_227 rfl rfl rfl rfl
                              · refine rf_ite (fun hs1_15 => ?_) (fun hs1_15 => ?_)
                                · refine rf_tsw (o := 227) c_174_1 (by rw [hs1_15]; decide) rfl ?_
                                  refine rf_ald (i := 0) (Or.inr ⟨0, rfl, rfl, rfl⟩) c_174_228 rfl ?_
                                  refine rf_getr hS c_174_229 rfl fl_11_10 rfl h_x0 ?_
                                  refine rf_geti hS c_174_232 rfl fl_11_88 rfl (tf_11_0 h_x0) ?_
                                  exact rf_ret c_174_235 rfl rfl rfl rfl
                                · refine rf_tsw c_174_1 (if_pos (by have e0 := lv_neT hs1_0 (a := 0) (by decide); have e1 := lv_neT hs1_1 (a := 1) (by decide); have e2 := lv_neT hs1_2 (a := 2) (by decide); have e3 := lv_neT hs1_3 (a := 3) (by decide); have e4 := lv_neT hs1_4 (a := 4) (by decide); have e5 := lv_neT hs1_5 (a := 5) (by decide); have e6 := lv_neT hs1_6 (a := 6) (by decide); have e7 := lv_neT hs1_7 (a := 7) (by decide); have e8 := lv_neT hs1_8 (a := 8) (by decide); have e9 := lv_neT hs1_9 (a := 9) (by decide); have e10 := lv_neT hs1_10 (a := 10) (by decide); have e11 := lv_neT hs1_11 (a := 11) (by decide); have e12 := lv_neT hs1_12 (a := 12) (by decide); have e13 := lv_neT hs1_13 (a := 13) (by decide); have e14 := lv_neT hs1_14 (a := 14) (by decide); have e15 := lv_neT hs1_15 (a := 15) (by decide); omega)) rfl ?_
                                  refine rf_ldc (Or.inl ⟨rfl, rfl⟩) c_174_236 rfl kl_11_72 ?_
                                  exact rf_ret c_174_238 rfl rfl rfl rfl
theorem t_Ct_count {X : Xt} {S : Sh} (hS : ShOK S) {d : Nat} (hd : 2 ≤ d) (σ : Mm) (x0 : Nat) (x1 : Int32) (h_x0 : tgT x0 = 11) : Rf X S (emI σ) (f_Ct_count σ x0 x1) d 174 0 [.ref x0, .int x1] [] σ := by
  obtain ⟨d1, rfl⟩ : ∃ d1, d = d1 + 1 := ⟨d - 1, by omega⟩
  exact t_Ct_count_e hS hd σ x0 x1 h_x0
theorem c_189_0 : cd 189 0 = some (.iload_n 0, 1) := by decide +kernel
theorem c_189_1 : cd 189 1 = some (.iload_n 1, 1) := by decide +kernel
theorem c_189_2 : cd 189 2 = some (.if_icmp .lt (12), 3) := by decide +kernel
theorem c_189_5 : cd 189 5 = some (.iload_n 0, 1) := by decide +kernel
theorem c_189_6 : cd 189 6 = some (.iload_n 2, 1) := by decide +kernel
theorem c_189_7 : cd 189 7 = some (.if_icmp .gt (7), 3) := by decide +kernel
theorem c_189_10 : cd 189 10 = some (.iconst (1), 1) := by decide +kernel
theorem c_189_11 : cd 189 11 = some (.goto (4), 3) := by decide +kernel
theorem c_189_14 : cd 189 14 = some (.iconst (0), 1) := by decide +kernel
theorem c_189_15 : cd 189 15 = some (.ireturn, 1) := by decide +kernel
def f_Mo_in_15 (σ : Mm) (y0 : Int32) : Option Int32 := if zB y0 = true then some y0 else none
set_option maxRecDepth 100000 in
set_option maxHeartbeats 4000000 in
theorem t_Mo_in_15 {X : Xt} {S : Sh} (hS : ShOK S) {d : Nat} (hd : 0 ≤ d) (σ : Mm) (y0 : Int32) (u0 : Value) (u1 : Value) (u2 : Value) : Rf X S (emI σ) (f_Mo_in_15 σ y0) d 189 15 [u0, u1, u2] [.int y0] σ := by
  unfold f_Mo_in_15
  refine rf_ite (fun hq15 => ?_) (fun _ => rf_none)
  exact rf_ret c_189_15 rfl (zB_n hq15) rfl rfl
def f_Mo_in_14 (σ : Mm) : Option Int32 := f_Mo_in_15 σ (0 : Int32)
set_option maxRecDepth 100000 in
set_option maxHeartbeats 4000000 in
theorem t_Mo_in_14 {X : Xt} {S : Sh} (hS : ShOK S) {d : Nat} (hd : 0 ≤ d) (σ : Mm) (u0 : Value) (u1 : Value) (u2 : Value) : Rf X S (emI σ) (f_Mo_in_14 σ) d 189 14 [u0, u1, u2] [] σ := by
  unfold f_Mo_in_14
  refine rf_iconst c_189_14 ki_0 ?_
  exact t_Mo_in_15 hS hd σ  (0 : Int32) (u0) (u1) (u2)
def f_Mo_in (σ : Mm) (x0 : Int32) (x1 : Int32) (x2 : Int32) : Option Int32 := (if x0 < x1 then (f_Mo_in_14 σ ) else (if x2 < x0 then (f_Mo_in_14 σ ) else (f_Mo_in_15 σ (1 : Int32))))
set_option maxRecDepth 100000 in
set_option maxHeartbeats 4000000 in
theorem t_Mo_in {X : Xt} {S : Sh} (hS : ShOK S) {d : Nat} (hd : 0 ≤ d) (σ : Mm) (x0 : Int32) (x1 : Int32) (x2 : Int32) : Rf X S (emI σ) (f_Mo_in σ x0 x1 x2) d 189 0 [.int x0, .int x1, .int x2] [] σ := by
  unfold f_Mo_in
  refine rf_ild (i := 0) (Or.inr ⟨0, rfl, rfl, rfl⟩) c_189_0 rfl ?_
  refine rf_ild (i := 1) (Or.inr ⟨1, rfl, rfl, rfl⟩) c_189_1 rfl ?_
  refine rf_ite (fun hc2 => ?_) (fun hc2 => ?_)
  · refine rf_b2t c_189_2 rfl (decide_eq_true hc2) ?_
    exact t_Mo_in_14 hS hd σ  (.int x0) (.int x1) (.int x2)
  · refine rf_b2f c_189_2 rfl (decide_eq_false hc2) ?_
    refine rf_ild (i := 0) (Or.inr ⟨0, rfl, rfl, rfl⟩) c_189_5 rfl ?_
    refine rf_ild (i := 2) (Or.inr ⟨2, rfl, rfl, rfl⟩) c_189_6 rfl ?_
    refine rf_ite (fun hc7 => ?_) (fun hc7 => ?_)
    · refine rf_b2t c_189_7 rfl (decide_eq_true hc7) ?_
      exact t_Mo_in_14 hS hd σ  (.int x0) (.int x1) (.int x2)
    · refine rf_b2f c_189_7 rfl (decide_eq_false hc7) ?_
      refine rf_iconst c_189_10 ki_1 ?_
      refine rf_goto c_189_11 rfl ?_
      exact t_Mo_in_15 hS hd σ  (1 : Int32) (.int x0) (.int x1) (.int x2)
theorem c_190_0 : cd 190 0 = some (.iload_n 0, 1) := by decide +kernel
theorem c_190_1 : cd 190 1 = some (.iconst (-1), 1) := by decide +kernel
theorem c_190_2 : cd 190 2 = some (.if_icmp .ne (8), 3) := by decide +kernel
theorem c_190_5 : cd 190 5 = some (.ldc 81, 2) := by decide +kernel
theorem c_190_7 : cd 190 7 = some (.goto (4), 3) := by decide +kernel
theorem c_190_10 : cd 190 10 = some (.iload_n 0, 1) := by decide +kernel
theorem c_190_11 : cd 190 11 = some (.ireturn, 1) := by decide +kernel
def f_Mo_orNone_11 (σ : Mm) (y0 : Int32) : Option Int32 := some y0
set_option maxRecDepth 100000 in
set_option maxHeartbeats 4000000 in
theorem t_Mo_orNone_11 {X : Xt} {S : Sh} (hS : ShOK S) {d : Nat} (hd : 0 ≤ d) (σ : Mm) (y0 : Int32) (u0 : Value) : Rf X S (emI σ) (f_Mo_orNone_11 σ y0) d 190 11 [u0] [.int y0] σ := by
  unfold f_Mo_orNone_11
  exact rf_ret c_190_11 rfl rfl rfl rfl
def f_Mo_orNone (σ : Mm) (x0 : Int32) : Option Int32 := (if ¬ x0 = (-1 : Int32) then (f_Mo_orNone_11 σ x0) else (f_Mo_orNone_11 σ (-1000000005 : Int32)))
set_option maxRecDepth 100000 in
set_option maxHeartbeats 4000000 in
theorem t_Mo_orNone {X : Xt} {S : Sh} (hS : ShOK S) {d : Nat} (hd : 0 ≤ d) (σ : Mm) (x0 : Int32) : Rf X S (emI σ) (f_Mo_orNone σ x0) d 190 0 [.int x0] [] σ := by
  unfold f_Mo_orNone
  refine rf_ild (i := 0) (Or.inr ⟨0, rfl, rfl, rfl⟩) c_190_0 rfl ?_
  refine rf_iconst c_190_1 ki_m1 ?_
  refine rf_ite (fun hc2 => ?_) (fun hc2 => ?_)
  · refine rf_b2t c_190_2 rfl (decide_eq_true hc2) ?_
    refine rf_ild (i := 0) (Or.inr ⟨0, rfl, rfl, rfl⟩) c_190_10 rfl ?_
    exact t_Mo_orNone_11 hS hd σ  x0 (.int x0)
  · refine rf_b2f c_190_2 rfl (decide_eq_false hc2) ?_
    refine rf_ldc (Or.inl ⟨rfl, rfl⟩) c_190_5 rfl kl_12_81 ?_
    refine rf_goto c_190_7 rfl ?_
    exact t_Mo_orNone_11 hS hd σ  (-1000000005 : Int32) (.int x0)
theorem c_191_0 : cd 191 0 = some (.iconst (0), 1) := by decide +kernel
theorem c_191_1 : cd 191 1 = some (.istore_n 1, 1) := by decide +kernel
theorem c_191_2 : cd 191 2 = some (.iconst (0), 1) := by decide +kernel
theorem c_191_3 : cd 191 3 = some (.istore_n 2, 1) := by decide +kernel
theorem c_191_4 : cd 191 4 = some (.iload_n 2, 1) := by decide +kernel
theorem c_191_5 : cd 191 5 = some (.bipush (31), 2) := by decide +kernel
theorem c_191_7 : cd 191 7 = some (.if_icmp .ge (17), 3) := by decide +kernel
theorem c_191_10 : cd 191 10 = some (.iload_n 1, 1) := by decide +kernel
theorem c_191_11 : cd 191 11 = some (.iload_n 0, 1) := by decide +kernel
theorem c_191_12 : cd 191 12 = some (.iload_n 2, 1) := by decide +kernel
theorem c_191_13 : cd 191 13 = some (.ishr, 1) := by decide +kernel
theorem c_191_14 : cd 191 14 = some (.iconst (1), 1) := by decide +kernel
theorem c_191_15 : cd 191 15 = some (.iand, 1) := by decide +kernel
theorem c_191_16 : cd 191 16 = some (.iadd, 1) := by decide +kernel
theorem c_191_17 : cd 191 17 = some (.istore_n 1, 1) := by decide +kernel
theorem c_191_18 : cd 191 18 = some (.iinc 2 (1), 3) := by decide +kernel
theorem c_191_21 : cd 191 21 = some (.goto (-17), 3) := by decide +kernel
theorem c_191_24 : cd 191 24 = some (.iload_n 1, 1) := by decide +kernel
theorem c_191_25 : cd 191 25 = some (.ireturn, 1) := by decide +kernel
def f_Mo_bits_4 (σ : Mm) : Nat → Int32 → Int32 → Int32 → Option Int32
  | 0, _, _, _ => none
  | n + 1, x0, x1, x2 => (if (31 : Int32) ≤ x2 then (some x1) else (f_Mo_bits_4 σ n x0 (x1 + ((x0 >>> (x2 &&& 31)) &&& (1 : Int32))) (x2 + (1 : Int32))))
set_option maxRecDepth 100000 in
set_option maxHeartbeats 4000000 in
theorem t_Mo_bits_4 {X : Xt} {S : Sh} (hS : ShOK S) {d : Nat} (hd : 0 ≤ d) (σ : Mm) : ∀ (n : Nat) (x0 : Int32) (x1 : Int32) (x2 : Int32), Rf X S (emI σ) (f_Mo_bits_4 σ n x0 x1 x2) d 191 4 [.int x0, .int x1, .int x2] [] σ := by
  intro n
  induction n with
  | zero => intro x0 x1 x2; exact rf_none
  | succ n ih =>
    intro x0 x1 x2
    rw [f_Mo_bits_4]
    refine rf_ild (i := 2) (Or.inr ⟨2, rfl, rfl, rfl⟩) c_191_4 rfl ?_
    refine rf_bipush c_191_5 kb_31 ?_
    refine rf_ite (fun hc7 => ?_) (fun hc7 => ?_)
    · refine rf_b2t c_191_7 rfl (decide_eq_true hc7) ?_
      refine rf_ild (i := 1) (Or.inr ⟨1, rfl, rfl, rfl⟩) c_191_24 rfl ?_
      exact rf_ret c_191_25 rfl rfl rfl rfl
    · refine rf_b2f c_191_7 rfl (decide_eq_false hc7) ?_
      refine rf_ild (i := 1) (Or.inr ⟨1, rfl, rfl, rfl⟩) c_191_10 rfl ?_
      refine rf_ild (i := 0) (Or.inr ⟨0, rfl, rfl, rfl⟩) c_191_11 rfl ?_
      refine rf_ild (i := 2) (Or.inr ⟨2, rfl, rfl, rfl⟩) c_191_12 rfl ?_
      refine rf_ishr c_191_13 ?_
      refine rf_iconst c_191_14 ki_1 ?_
      refine rf_iand c_191_15 ?_
      refine rf_iadd c_191_16 ?_
      refine rf_ist (i := 1) (Or.inr ⟨1, rfl, rfl, rfl⟩) c_191_17 (Nat.le_of_ble_eq_true rfl) rfl ?_
      refine rf_iinc c_191_18 rfl ki_1 rfl ?_
      refine rf_goto c_191_21 rfl ?_
      exact ih x0 (x1 + ((x0 >>> (x2 &&& 31)) &&& (1 : Int32))) (x2 + (1 : Int32))
def f_Mo_bits (σ : Mm) (x0 : Int32) : Option Int32 := f_Mo_bits_4 σ NN x0 (0 : Int32) (0 : Int32)
set_option maxRecDepth 100000 in
set_option maxHeartbeats 4000000 in
theorem t_Mo_bits {X : Xt} {S : Sh} (hS : ShOK S) {d : Nat} (hd : 0 ≤ d) (σ : Mm) (x0 : Int32) : Rf X S (emI σ) (f_Mo_bits σ x0) d 191 0 [.int x0, unset0, unset0] [] σ := by
  unfold f_Mo_bits
  refine rf_iconst c_191_0 ki_0 ?_
  refine rf_ist (i := 1) (Or.inr ⟨1, rfl, rfl, rfl⟩) c_191_1 (Nat.le_of_ble_eq_true rfl) rfl ?_
  refine rf_iconst c_191_2 ki_0 ?_
  refine rf_ist (i := 2) (Or.inr ⟨2, rfl, rfl, rfl⟩) c_191_3 (Nat.le_of_ble_eq_true rfl) rfl ?_
  exact t_Mo_bits_4 hS hd σ  NN x0 (0 : Int32) (0 : Int32)
theorem c_192_0 : cd 192 0 = some (.iconst (0), 1) := by decide +kernel
theorem c_192_1 : cd 192 1 = some (.istore_n 1, 1) := by decide +kernel
theorem c_192_2 : cd 192 2 = some (.iload_n 0, 1) := by decide +kernel
theorem c_192_3 : cd 192 3 = some (.iload_n 1, 1) := by decide +kernel
theorem c_192_4 : cd 192 4 = some (.ishr, 1) := by decide +kernel
theorem c_192_5 : cd 192 5 = some (.iconst (1), 1) := by decide +kernel
theorem c_192_6 : cd 192 6 = some (.iand, 1) := by decide +kernel
theorem c_192_7 : cd 192 7 = some (.ifCond .ne (9), 3) := by decide +kernel
theorem c_192_10 : cd 192 10 = some (.iinc 1 (1), 3) := by decide +kernel
theorem c_192_13 : cd 192 13 = some (.goto (-11), 3) := by decide +kernel
theorem c_192_16 : cd 192 16 = some (.iload_n 1, 1) := by decide +kernel
theorem c_192_17 : cd 192 17 = some (.ireturn, 1) := by decide +kernel
def f_Mo_firstBit_2 (σ : Mm) : Nat → Int32 → Int32 → Option Int32
  | 0, _, _ => none
  | n + 1, x0, x1 => (if ¬ ((x0 >>> (x1 &&& 31)) &&& (1 : Int32)) = 0 then (some x1) else (f_Mo_firstBit_2 σ n x0 (x1 + (1 : Int32))))
set_option maxRecDepth 100000 in
set_option maxHeartbeats 4000000 in
theorem t_Mo_firstBit_2 {X : Xt} {S : Sh} (hS : ShOK S) {d : Nat} (hd : 0 ≤ d) (σ : Mm) : ∀ (n : Nat) (x0 : Int32) (x1 : Int32), Rf X S (emI σ) (f_Mo_firstBit_2 σ n x0 x1) d 192 2 [.int x0, .int x1] [] σ := by
  intro n
  induction n with
  | zero => intro x0 x1; exact rf_none
  | succ n ih =>
    intro x0 x1
    rw [f_Mo_firstBit_2]
    refine rf_ild (i := 0) (Or.inr ⟨0, rfl, rfl, rfl⟩) c_192_2 rfl ?_
    refine rf_ild (i := 1) (Or.inr ⟨1, rfl, rfl, rfl⟩) c_192_3 rfl ?_
    refine rf_ishr c_192_4 ?_
    refine rf_iconst c_192_5 ki_1 ?_
    refine rf_iand c_192_6 ?_
    refine rf_ite (fun hc7 => ?_) (fun hc7 => ?_)
    · refine rf_b1t c_192_7 rfl (decide_eq_true hc7) ?_
      refine rf_ild (i := 1) (Or.inr ⟨1, rfl, rfl, rfl⟩) c_192_16 rfl ?_
      exact rf_ret c_192_17 rfl rfl rfl rfl
    · refine rf_b1f c_192_7 rfl (decide_eq_false hc7) ?_
      refine rf_iinc c_192_10 rfl ki_1 rfl ?_
      refine rf_goto c_192_13 rfl ?_
      exact ih x0 (x1 + (1 : Int32))
def f_Mo_firstBit (σ : Mm) (x0 : Int32) : Option Int32 := f_Mo_firstBit_2 σ NN x0 (0 : Int32)
set_option maxRecDepth 100000 in
set_option maxHeartbeats 4000000 in
theorem t_Mo_firstBit {X : Xt} {S : Sh} (hS : ShOK S) {d : Nat} (hd : 0 ≤ d) (σ : Mm) (x0 : Int32) : Rf X S (emI σ) (f_Mo_firstBit σ x0) d 192 0 [.int x0, unset0] [] σ := by
  unfold f_Mo_firstBit
  refine rf_iconst c_192_0 ki_0 ?_
  refine rf_ist (i := 1) (Or.inr ⟨1, rfl, rfl, rfl⟩) c_192_1 (Nat.le_of_ble_eq_true rfl) rfl ?_
  exact t_Mo_firstBit_2 hS hd σ  NN x0 (0 : Int32)
