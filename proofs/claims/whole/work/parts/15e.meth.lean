/-! methods: Ct_isOffice Ct_hold Ct_isDay Ct_held Ct_govern Ct_table Ct_isTable Ct_seats Ct_sits Ct_pass Ct_way Ct_isThing Ct_isKind Ct_paper Ct_isPaper Ct_told Ct_as Ct_send Ct_take Ct_word Ct_feed Ct_trim Ct_rule Ct_isRule Ct_of Ct_counts Ct_due Ct_why Ct_quarrel Ct_lacks Ct_come Ct_decide Ct_isDecision Ct_is Ct_falls Ct_reopen -/
theorem c_182_0 : cd 182 0 = some (.iload_n 1, 1) := by decide +kernel
theorem c_182_1 : cd 182 1 = some (.iconst (0), 1) := by decide +kernel
theorem c_182_2 : cd 182 2 = some (.aload_n 0, 1) := by decide +kernel
theorem c_182_3 : cd 182 3 = some (.getfield 10, 3) := by decide +kernel
theorem c_182_6 : cd 182 6 = some (.getfield 54, 3) := by decide +kernel
theorem c_182_9 : cd 182 9 = some (.getfield 200, 3) := by decide +kernel
theorem c_182_12 : cd 182 12 = some (.iconst (1), 1) := by decide +kernel
theorem c_182_13 : cd 182 13 = some (.isub, 1) := by decide +kernel
theorem c_182_14 : cd 182 14 = some (.invokestatic 92, 3) := by decide +kernel
theorem c_182_17 : cd 182 17 = some (.ireturn, 1) := by decide +kernel
def f_Ct_isOffice (σ : Mm) (x0 : Nat) (x1 : Int32) : Option Int32 := (f_Ct_isWithin σ x1 (0 : Int32) ((σ (rfT (rfT x0 0) 0) 3) - (1 : Int32))).bind fun v14 => if zB v14 = true then some v14 else none
set_option maxRecDepth 100000 in
set_option maxHeartbeats 4000000 in
theorem t_Ct_isOffice_e {X : Xt} {S : Sh} (hS : ShOK S) {d : Nat} (hd : 1 ≤ d + 1) (σ : Mm) (x0 : Nat) (x1 : Int32) (h_x0 : tgT x0 = 11) : Rf X S (emI σ) (f_Ct_isOffice σ x0 x1) (d + 1) 182 0 [.ref x0, .int x1] [] σ := by
  unfold f_Ct_isOffice
  refine rf_ild (i := 1) (Or.inr ⟨1, rfl, rfl, rfl⟩) c_182_0 rfl ?_
  refine rf_iconst c_182_1 ki_0 ?_
  refine rf_ald (i := 0) (Or.inr ⟨0, rfl, rfl, rfl⟩) c_182_2 rfl ?_
  refine rf_getr hS c_182_3 rfl fl_11_10 rfl h_x0 ?_
  refine rf_getr hS c_182_6 rfl fl_11_54 rfl (tf_11_0 h_x0) ?_
  refine rf_geti hS c_182_9 rfl fl_11_200 rfl (tf_7_0 (tf_11_0 h_x0)) ?_
  refine rf_iconst c_182_12 ki_1 ?_
  refine rf_isub c_182_13 ?_
  refine rf_callI (as := [.int x1, .int (0 : Int32), .int ((σ (rfT (rfT x0 0) 0) 3) - (1 : Int32))]) (kd := 0) c_182_14 rfl (by decide) rfl ml_11_92 (by decide) rfl (rcv_0 rfl) (Nat.zero_le _) rfl rfl (t_Ct_isWithin hS (by omega) σ x1 (0 : Int32) ((σ (rfT (rfT x0 0) 0) 3) - (1 : Int32))) (fun v14 => ?_)
  refine rf_ite (fun hq17 => ?_) (fun _ => rf_none)
  exact rf_ret c_182_17 rfl (zB_n hq17) rfl rfl
theorem t_Ct_isOffice {X : Xt} {S : Sh} (hS : ShOK S) {d : Nat} (hd : 1 ≤ d) (σ : Mm) (x0 : Nat) (x1 : Int32) (h_x0 : tgT x0 = 11) : Rf X S (emI σ) (f_Ct_isOffice σ x0 x1) d 182 0 [.ref x0, .int x1] [] σ := by
  obtain ⟨d1, rfl⟩ : ∃ d1, d = d1 + 1 := ⟨d - 1, by omega⟩
  exact t_Ct_isOffice_e hS hd σ x0 x1 h_x0
theorem c_119_0 : cd 119 0 = some (.aload_n 0, 1) := by decide +kernel
theorem c_119_1 : cd 119 1 = some (.iload_n 1, 1) := by decide +kernel
theorem c_119_2 : cd 119 2 = some (.invokevirtual 64, 3) := by decide +kernel
theorem c_119_5 : cd 119 5 = some (.ifCond .eq (12), 3) := by decide +kernel
theorem c_119_8 : cd 119 8 = some (.iload_n 2, 1) := by decide +kernel
theorem c_119_9 : cd 119 9 = some (.bipush (99), 2) := by decide +kernel
theorem c_119_11 : cd 119 11 = some (.invokestatic 68, 3) := by decide +kernel
theorem c_119_14 : cd 119 14 = some (.ifCond .ne (6), 3) := by decide +kernel
theorem c_119_17 : cd 119 17 = some (.ldc 72, 2) := by decide +kernel
theorem c_119_19 : cd 119 19 = some (.ireturn, 1) := by decide +kernel
theorem c_119_20 : cd 119 20 = some (.aload_n 0, 1) := by decide +kernel
theorem c_119_21 : cd 119 21 = some (.getfield 10, 3) := by decide +kernel
theorem c_119_24 : cd 119 24 = some (.getfield 54, 3) := by decide +kernel
theorem c_119_27 : cd 119 27 = some (.iload_n 1, 1) := by decide +kernel
theorem c_119_28 : cd 119 28 = some (.iload_n 2, 1) := by decide +kernel
theorem c_119_29 : cd 119 29 = some (.aload_n 0, 1) := by decide +kernel
theorem c_119_30 : cd 119 30 = some (.getfield 10, 3) := by decide +kernel
theorem c_119_33 : cd 119 33 = some (.getfield 73, 3) := by decide +kernel
theorem c_119_36 : cd 119 36 = some (.invokevirtual 77, 3) := by decide +kernel
theorem c_119_39 : cd 119 39 = some (.ireturn, 1) := by decide +kernel
def f_Ct_hold_17 (σ : Mm) : Option (Int32 × Mm) := some ((-1000000001 : Int32), σ)
set_option maxRecDepth 100000 in
set_option maxHeartbeats 4000000 in
theorem t_Ct_hold_17 {X : Xt} {S : Sh} (hS : ShOK S) {d : Nat} (hd : 2 ≤ d + 1) (u0 : Value) (u1 : Value) (u2 : Value) (σ : Mm) : Rf X S emM (f_Ct_hold_17 σ) (d + 1) 119 17 [u0, u1, u2] [] σ := by
  unfold f_Ct_hold_17
  refine rf_ldc (Or.inl ⟨rfl, rfl⟩) c_119_17 rfl kl_11_72 ?_
  exact rf_ret c_119_19 rfl rfl rfl rfl
def f_Ct_hold (x0 : Nat) (x1 : Int32) (x2 : Int32) (σ : Mm) : Option (Int32 × Mm) := (f_Ct_isOffice σ x0 x1).bind fun v2 => (if v2 = 0 then (f_Ct_hold_17  σ) else ((f_Ct_isNoneOrWithin σ x2 (99 : Int32)).bind fun v11 => (if ¬ v11 = 0 then ((f_Ho_change (rfT (rfT x0 0) 0) x1 x2 (σ (rfT x0 0) 8) σ).bind fun v36 => some (v36.1, v36.2)) else (f_Ct_hold_17  σ))))
set_option maxRecDepth 100000 in
set_option maxHeartbeats 4000000 in
theorem t_Ct_hold_e {X : Xt} {S : Sh} (hS : ShOK S) {d : Nat} (hd : 2 ≤ d + 1) (x0 : Nat) (x1 : Int32) (x2 : Int32) (σ : Mm) (h_x0 : tgT x0 = 11) : Rf X S emM (f_Ct_hold x0 x1 x2 σ) (d + 1) 119 0 [.ref x0, .int x1, .int x2] [] σ := by
  unfold f_Ct_hold
  refine rf_ald (i := 0) (Or.inr ⟨0, rfl, rfl, rfl⟩) c_119_0 rfl ?_
  refine rf_ild (i := 1) (Or.inr ⟨1, rfl, rfl, rfl⟩) c_119_1 rfl ?_
  refine rf_callI (as := [.ref x0, .int x1]) (kd := 1) c_119_2 rfl (by decide) rfl ml_11_64 (by decide) rfl (rcv_1 hS rfl rfl h_x0 (by decide)) (Nat.zero_le _) rfl rfl (t_Ct_isOffice hS (by omega) σ x0 x1 h_x0) (fun v2 => ?_)
  refine rf_ite (fun hc5 => ?_) (fun hc5 => ?_)
  · refine rf_b1t c_119_5 rfl (decide_eq_true hc5) ?_
    exact t_Ct_hold_17 hS hd  (.ref x0) (.int x1) (.int x2) σ
  · refine rf_b1f c_119_5 rfl (decide_eq_false hc5) ?_
    refine rf_ild (i := 2) (Or.inr ⟨2, rfl, rfl, rfl⟩) c_119_8 rfl ?_
    refine rf_bipush c_119_9 kb_99 ?_
    refine rf_callI (as := [.int x2, .int (99 : Int32)]) (kd := 0) c_119_11 rfl (by decide) rfl ml_11_68 (by decide) rfl (rcv_0 rfl) (Nat.zero_le _) rfl rfl (t_Ct_isNoneOrWithin hS (by omega) σ x2 (99 : Int32)) (fun v11 => ?_)
    refine rf_ite (fun hc14 => ?_) (fun hc14 => ?_)
    · refine rf_b1t c_119_14 rfl (decide_eq_true hc14) ?_
      refine rf_ald (i := 0) (Or.inr ⟨0, rfl, rfl, rfl⟩) c_119_20 rfl ?_
      refine rf_getr hS c_119_21 rfl fl_11_10 rfl h_x0 ?_
      refine rf_getr hS c_119_24 rfl fl_11_54 rfl (tf_11_0 h_x0) ?_
      refine rf_ild (i := 1) (Or.inr ⟨1, rfl, rfl, rfl⟩) c_119_27 rfl ?_
      refine rf_ild (i := 2) (Or.inr ⟨2, rfl, rfl, rfl⟩) c_119_28 rfl ?_
      refine rf_ald (i := 0) (Or.inr ⟨0, rfl, rfl, rfl⟩) c_119_29 rfl ?_
      refine rf_getr hS c_119_30 rfl fl_11_10 rfl h_x0 ?_
      refine rf_geti hS c_119_33 rfl fl_11_73 rfl (tf_11_0 h_x0) ?_
      refine rf_callM (as := [.ref (rfT (rfT x0 0) 0), .int x1, .int x2, .int (σ (rfT x0 0) 8)]) (kd := 1) c_119_36 rfl (by decide) rfl ml_11_77 (by decide) rfl (rcv_1 hS rfl rfl (tf_7_0 (tf_11_0 h_x0)) (by decide)) (Nat.zero_le _) rfl rfl (t_Ho_change hS (by omega) (rfT (rfT x0 0) 0) x1 x2 (σ (rfT x0 0) 8) σ (tf_7_0 (tf_11_0 h_x0))) (fun v36 => ?_)
      exact rf_ret c_119_39 rfl rfl rfl rfl
    · refine rf_b1f c_119_14 rfl (decide_eq_false hc14) ?_
      exact t_Ct_hold_17 hS hd  (.ref x0) (.int x1) (.int x2) σ
theorem t_Ct_hold {X : Xt} {S : Sh} (hS : ShOK S) {d : Nat} (hd : 2 ≤ d) (x0 : Nat) (x1 : Int32) (x2 : Int32) (σ : Mm) (h_x0 : tgT x0 = 11) : Rf X S emM (f_Ct_hold x0 x1 x2 σ) d 119 0 [.ref x0, .int x1, .int x2] [] σ := by
  obtain ⟨d1, rfl⟩ : ∃ d1, d = d1 + 1 := ⟨d - 1, by omega⟩
  exact t_Ct_hold_e hS hd x0 x1 x2 σ h_x0
theorem c_177_0 : cd 177 0 = some (.iload_n 0, 1) := by decide +kernel
theorem c_177_1 : cd 177 1 = some (.iconst (0), 1) := by decide +kernel
theorem c_177_2 : cd 177 2 = some (.sipush (999), 3) := by decide +kernel
theorem c_177_5 : cd 177 5 = some (.invokestatic 92, 3) := by decide +kernel
theorem c_177_8 : cd 177 8 = some (.ireturn, 1) := by decide +kernel
def f_Ct_isDay (σ : Mm) (x0 : Int32) : Option Int32 := (f_Ct_isWithin σ x0 (0 : Int32) (999 : Int32)).bind fun v5 => if zB v5 = true then some v5 else none
set_option maxRecDepth 100000 in
set_option maxHeartbeats 4000000 in
theorem t_Ct_isDay_e {X : Xt} {S : Sh} (hS : ShOK S) {d : Nat} (hd : 1 ≤ d + 1) (σ : Mm) (x0 : Int32) : Rf X S (emI σ) (f_Ct_isDay σ x0) (d + 1) 177 0 [.int x0] [] σ := by
  unfold f_Ct_isDay
  refine rf_ild (i := 0) (Or.inr ⟨0, rfl, rfl, rfl⟩) c_177_0 rfl ?_
  refine rf_iconst c_177_1 ki_0 ?_
  refine rf_sipush c_177_2 ks_999 ?_
  refine rf_callI (as := [.int x0, .int (0 : Int32), .int (999 : Int32)]) (kd := 0) c_177_5 rfl (by decide) rfl ml_11_92 (by decide) rfl (rcv_0 rfl) (Nat.zero_le _) rfl rfl (t_Ct_isWithin hS (by omega) σ x0 (0 : Int32) (999 : Int32)) (fun v5 => ?_)
  refine rf_ite (fun hq8 => ?_) (fun _ => rf_none)
  exact rf_ret c_177_8 rfl (zB_n hq8) rfl rfl
theorem t_Ct_isDay {X : Xt} {S : Sh} (hS : ShOK S) {d : Nat} (hd : 1 ≤ d) (σ : Mm) (x0 : Int32) : Rf X S (emI σ) (f_Ct_isDay σ x0) d 177 0 [.int x0] [] σ := by
  obtain ⟨d1, rfl⟩ : ∃ d1, d = d1 + 1 := ⟨d - 1, by omega⟩
  exact t_Ct_isDay_e hS hd σ x0
theorem c_120_0 : cd 120 0 = some (.aload_n 0, 1) := by decide +kernel
theorem c_120_1 : cd 120 1 = some (.iload_n 1, 1) := by decide +kernel
theorem c_120_2 : cd 120 2 = some (.invokevirtual 64, 3) := by decide +kernel
theorem c_120_5 : cd 120 5 = some (.ifCond .eq (10), 3) := by decide +kernel
theorem c_120_8 : cd 120 8 = some (.iload_n 2, 1) := by decide +kernel
theorem c_120_9 : cd 120 9 = some (.invokestatic 81, 3) := by decide +kernel
theorem c_120_12 : cd 120 12 = some (.ifCond .ne (6), 3) := by decide +kernel
theorem c_120_15 : cd 120 15 = some (.ldc 72, 2) := by decide +kernel
theorem c_120_17 : cd 120 17 = some (.ireturn, 1) := by decide +kernel
theorem c_120_18 : cd 120 18 = some (.aload_n 0, 1) := by decide +kernel
theorem c_120_19 : cd 120 19 = some (.getfield 10, 3) := by decide +kernel
theorem c_120_22 : cd 120 22 = some (.getfield 54, 3) := by decide +kernel
theorem c_120_25 : cd 120 25 = some (.iload_n 1, 1) := by decide +kernel
theorem c_120_26 : cd 120 26 = some (.iload_n 2, 1) := by decide +kernel
theorem c_120_27 : cd 120 27 = some (.invokevirtual 84, 3) := by decide +kernel
theorem c_120_30 : cd 120 30 = some (.ireturn, 1) := by decide +kernel
def f_Ct_held_15 (σ : Mm) : Option Int32 := some (-1000000001 : Int32)
set_option maxRecDepth 100000 in
set_option maxHeartbeats 4000000 in
theorem t_Ct_held_15 {X : Xt} {S : Sh} (hS : ShOK S) {d : Nat} (hd : 2 ≤ d + 1) (σ : Mm) (u0 : Value) (u1 : Value) (u2 : Value) : Rf X S (emI σ) (f_Ct_held_15 σ) (d + 1) 120 15 [u0, u1, u2] [] σ := by
  unfold f_Ct_held_15
  refine rf_ldc (Or.inl ⟨rfl, rfl⟩) c_120_15 rfl kl_11_72 ?_
  exact rf_ret c_120_17 rfl rfl rfl rfl
def f_Ct_held (σ : Mm) (x0 : Nat) (x1 : Int32) (x2 : Int32) : Option Int32 := (f_Ct_isOffice σ x0 x1).bind fun v2 => (if v2 = 0 then (f_Ct_held_15 σ ) else ((f_Ct_isDay σ x2).bind fun v9 => (if ¬ v9 = 0 then ((f_Ho_holderOn σ (rfT (rfT x0 0) 0) x1 x2).bind fun v27 => some v27) else (f_Ct_held_15 σ ))))
set_option maxRecDepth 100000 in
set_option maxHeartbeats 4000000 in
theorem t_Ct_held_e {X : Xt} {S : Sh} (hS : ShOK S) {d : Nat} (hd : 2 ≤ d + 1) (σ : Mm) (x0 : Nat) (x1 : Int32) (x2 : Int32) (h_x0 : tgT x0 = 11) : Rf X S (emI σ) (f_Ct_held σ x0 x1 x2) (d + 1) 120 0 [.ref x0, .int x1, .int x2] [] σ := by
  unfold f_Ct_held
  refine rf_ald (i := 0) (Or.inr ⟨0, rfl, rfl, rfl⟩) c_120_0 rfl ?_
  refine rf_ild (i := 1) (Or.inr ⟨1, rfl, rfl, rfl⟩) c_120_1 rfl ?_
  refine rf_callI (as := [.ref x0, .int x1]) (kd := 1) c_120_2 rfl (by decide) rfl ml_11_64 (by decide) rfl (rcv_1 hS rfl rfl h_x0 (by decide)) (Nat.zero_le _) rfl rfl (t_Ct_isOffice hS (by omega) σ x0 x1 h_x0) (fun v2 => ?_)
  refine rf_ite (fun hc5 => ?_) (fun hc5 => ?_)
  · refine rf_b1t c_120_5 rfl (decide_eq_true hc5) ?_
    exact t_Ct_held_15 hS hd σ  (.ref x0) (.int x1) (.int x2)
  · refine rf_b1f c_120_5 rfl (decide_eq_false hc5) ?_
    refine rf_ild (i := 2) (Or.inr ⟨2, rfl, rfl, rfl⟩) c_120_8 rfl ?_
    refine rf_callI (as := [.int x2]) (kd := 0) c_120_9 rfl (by decide) rfl ml_11_81 (by decide) rfl (rcv_0 rfl) (Nat.zero_le _) rfl rfl (t_Ct_isDay hS (by omega) σ x2) (fun v9 => ?_)
    refine rf_ite (fun hc12 => ?_) (fun hc12 => ?_)
    · refine rf_b1t c_120_12 rfl (decide_eq_true hc12) ?_
      refine rf_ald (i := 0) (Or.inr ⟨0, rfl, rfl, rfl⟩) c_120_18 rfl ?_
      refine rf_getr hS c_120_19 rfl fl_11_10 rfl h_x0 ?_
      refine rf_getr hS c_120_22 rfl fl_11_54 rfl (tf_11_0 h_x0) ?_
      refine rf_ild (i := 1) (Or.inr ⟨1, rfl, rfl, rfl⟩) c_120_25 rfl ?_
      refine rf_ild (i := 2) (Or.inr ⟨2, rfl, rfl, rfl⟩) c_120_26 rfl ?_
      refine rf_callI (as := [.ref (rfT (rfT x0 0) 0), .int x1, .int x2]) (kd := 1) c_120_27 rfl (by decide) rfl ml_11_84 (by decide) rfl (rcv_1 hS rfl rfl (tf_7_0 (tf_11_0 h_x0)) (by decide)) (Nat.zero_le _) rfl rfl (t_Ho_holderOn hS (by omega) σ (rfT (rfT x0 0) 0) x1 x2 (tf_7_0 (tf_11_0 h_x0))) (fun v27 => ?_)
      exact rf_ret c_120_30 rfl rfl rfl rfl
    · refine rf_b1f c_120_12 rfl (decide_eq_false hc12) ?_
      exact t_Ct_held_15 hS hd σ  (.ref x0) (.int x1) (.int x2)
theorem t_Ct_held {X : Xt} {S : Sh} (hS : ShOK S) {d : Nat} (hd : 2 ≤ d) (σ : Mm) (x0 : Nat) (x1 : Int32) (x2 : Int32) (h_x0 : tgT x0 = 11) : Rf X S (emI σ) (f_Ct_held σ x0 x1 x2) d 120 0 [.ref x0, .int x1, .int x2] [] σ := by
  obtain ⟨d1, rfl⟩ : ∃ d1, d = d1 + 1 := ⟨d - 1, by omega⟩
  exact t_Ct_held_e hS hd σ x0 x1 x2 h_x0
theorem c_121_0 : cd 121 0 = some (.aload_n 0, 1) := by decide +kernel
theorem c_121_1 : cd 121 1 = some (.getfield 10, 3) := by decide +kernel
theorem c_121_4 : cd 121 4 = some (.getfield 88, 3) := by decide +kernel
theorem c_121_7 : cd 121 7 = some (.bipush (99), 2) := by decide +kernel
theorem c_121_9 : cd 121 9 = some (.if_icmp .lt (6), 3) := by decide +kernel
theorem c_121_12 : cd 121 12 = some (.ldc 91, 2) := by decide +kernel
theorem c_121_14 : cd 121 14 = some (.ireturn, 1) := by decide +kernel
theorem c_121_15 : cd 121 15 = some (.aload_n 0, 1) := by decide +kernel
theorem c_121_16 : cd 121 16 = some (.getfield 10, 3) := by decide +kernel
theorem c_121_19 : cd 121 19 = some (.dup, 1) := by decide +kernel
theorem c_121_20 : cd 121 20 = some (.getfield 88, 3) := by decide +kernel
theorem c_121_23 : cd 121 23 = some (.iconst (1), 1) := by decide +kernel
theorem c_121_24 : cd 121 24 = some (.iadd, 1) := by decide +kernel
theorem c_121_25 : cd 121 25 = some (.putfield 88, 3) := by decide +kernel
theorem c_121_28 : cd 121 28 = some (.aload_n 0, 1) := by decide +kernel
theorem c_121_29 : cd 121 29 = some (.getfield 10, 3) := by decide +kernel
theorem c_121_32 : cd 121 32 = some (.getfield 88, 3) := by decide +kernel
theorem c_121_35 : cd 121 35 = some (.ireturn, 1) := by decide +kernel
def f_Ct_govern (x0 : Nat) (σ : Mm) : Option (Int32 × Mm) := (if (σ (rfT x0 0) 9) < (99 : Int32) then (nmM (up2 σ (rfT x0 0) 9 ((σ (rfT x0 0) 9) + (1 : Int32))) fun σ25 => some ((σ25 (rfT x0 0) 9), σ25)) else (some ((-1000000003 : Int32), σ)))
set_option maxRecDepth 100000 in
set_option maxHeartbeats 4000000 in
theorem t_Ct_govern {X : Xt} {S : Sh} (hS : ShOK S) {d : Nat} (hd : 0 ≤ d) (x0 : Nat) (σ : Mm) (h_x0 : tgT x0 = 11) : Rf X S emM (f_Ct_govern x0 σ) d 121 0 [.ref x0] [] σ := by
  unfold f_Ct_govern
  refine rf_ald (i := 0) (Or.inr ⟨0, rfl, rfl, rfl⟩) c_121_0 rfl ?_
  refine rf_getr hS c_121_1 rfl fl_11_10 rfl h_x0 ?_
  refine rf_geti hS c_121_4 rfl fl_11_88 rfl (tf_11_0 h_x0) ?_
  refine rf_bipush c_121_7 kb_99 ?_
  refine rf_ite (fun hc9 => ?_) (fun hc9 => ?_)
  · refine rf_b2t c_121_9 rfl (decide_eq_true hc9) ?_
    refine rf_ald (i := 0) (Or.inr ⟨0, rfl, rfl, rfl⟩) c_121_15 rfl ?_
    refine rf_getr hS c_121_16 rfl fl_11_10 rfl h_x0 ?_
    refine rf_dup c_121_19 rfl ?_
    refine rf_geti hS c_121_20 rfl fl_11_88 rfl (tf_11_0 h_x0) ?_
    refine rf_iconst c_121_23 ki_1 ?_
    refine rf_iadd c_121_24 ?_
    refine rf_puti hS c_121_25 rfl fl_11_88 rfl rfl rfl rfl (tf_11_0 h_x0) ?_
    refine rf_nm (fun σ25 => ?_)
    refine rf_ald (i := 0) (Or.inr ⟨0, rfl, rfl, rfl⟩) c_121_28 rfl ?_
    refine rf_getr hS c_121_29 rfl fl_11_10 rfl h_x0 ?_
    refine rf_geti hS c_121_32 rfl fl_11_88 rfl (tf_11_0 h_x0) ?_
    exact rf_ret c_121_35 rfl rfl rfl rfl
  · refine rf_b2f c_121_9 rfl (decide_eq_false hc9) ?_
    refine rf_ldc (Or.inl ⟨rfl, rfl⟩) c_121_12 rfl kl_11_91 ?_
    exact rf_ret c_121_14 rfl rfl rfl rfl
theorem c_122_0 : cd 122 0 = some (.iload_n 1, 1) := by decide +kernel
theorem c_122_1 : cd 122 1 = some (.iconst (0), 1) := by decide +kernel
theorem c_122_2 : cd 122 2 = some (.sipush (255), 3) := by decide +kernel
theorem c_122_5 : cd 122 5 = some (.invokestatic 92, 3) := by decide +kernel
theorem c_122_8 : cd 122 8 = some (.ifCond .eq (23), 3) := by decide +kernel
theorem c_122_11 : cd 122 11 = some (.iload_n 2, 1) := by decide +kernel
theorem c_122_12 : cd 122 12 = some (.iconst (1), 1) := by decide +kernel
theorem c_122_13 : cd 122 13 = some (.bipush (30), 2) := by decide +kernel
theorem c_122_15 : cd 122 15 = some (.invokestatic 92, 3) := by decide +kernel
theorem c_122_18 : cd 122 18 = some (.ifCond .eq (13), 3) := by decide +kernel
theorem c_122_21 : cd 122 21 = some (.iload_n 3, 1) := by decide +kernel
theorem c_122_22 : cd 122 22 = some (.iconst (0), 1) := by decide +kernel
theorem c_122_23 : cd 122 23 = some (.bipush (29), 2) := by decide +kernel
theorem c_122_25 : cd 122 25 = some (.invokestatic 92, 3) := by decide +kernel
theorem c_122_28 : cd 122 28 = some (.ifCond .ne (6), 3) := by decide +kernel
theorem c_122_31 : cd 122 31 = some (.ldc 72, 2) := by decide +kernel
theorem c_122_33 : cd 122 33 = some (.ireturn, 1) := by decide +kernel
theorem c_122_34 : cd 122 34 = some (.aload_n 0, 1) := by decide +kernel
theorem c_122_35 : cd 122 35 = some (.getfield 10, 3) := by decide +kernel
theorem c_122_38 : cd 122 38 = some (.getfield 96, 3) := by decide +kernel
theorem c_122_41 : cd 122 41 = some (.iload_n 1, 1) := by decide +kernel
theorem c_122_42 : cd 122 42 = some (.iload_n 2, 1) := by decide +kernel
theorem c_122_43 : cd 122 43 = some (.iload_n 3, 1) := by decide +kernel
theorem c_122_44 : cd 122 44 = some (.invokevirtual 100, 3) := by decide +kernel
theorem c_122_47 : cd 122 47 = some (.ireturn, 1) := by decide +kernel
def f_Ct_table_31 (σ : Mm) : Option (Int32 × Mm) := some ((-1000000001 : Int32), σ)
set_option maxRecDepth 100000 in
set_option maxHeartbeats 4000000 in
theorem t_Ct_table_31 {X : Xt} {S : Sh} (hS : ShOK S) {d : Nat} (hd : 1 ≤ d + 1) (u0 : Value) (u1 : Value) (u2 : Value) (u3 : Value) (σ : Mm) : Rf X S emM (f_Ct_table_31 σ) (d + 1) 122 31 [u0, u1, u2, u3] [] σ := by
  unfold f_Ct_table_31
  refine rf_ldc (Or.inl ⟨rfl, rfl⟩) c_122_31 rfl kl_11_72 ?_
  exact rf_ret c_122_33 rfl rfl rfl rfl
def f_Ct_table (x0 : Nat) (x1 : Int32) (x2 : Int32) (x3 : Int32) (σ : Mm) : Option (Int32 × Mm) := (f_Ct_isWithin σ x1 (0 : Int32) (255 : Int32)).bind fun v5 => (if v5 = 0 then (f_Ct_table_31  σ) else ((f_Ct_isWithin σ x2 (1 : Int32) (30 : Int32)).bind fun v15 => (if v15 = 0 then (f_Ct_table_31  σ) else ((f_Ct_isWithin σ x3 (0 : Int32) (29 : Int32)).bind fun v25 => (if ¬ v25 = 0 then ((f_Tb_add (rfT (rfT x0 0) 1) x1 x2 x3 σ).bind fun v44 => some (v44.1, v44.2)) else (f_Ct_table_31  σ))))))
set_option maxRecDepth 100000 in
set_option maxHeartbeats 4000000 in
theorem t_Ct_table_e {X : Xt} {S : Sh} (hS : ShOK S) {d : Nat} (hd : 1 ≤ d + 1) (x0 : Nat) (x1 : Int32) (x2 : Int32) (x3 : Int32) (σ : Mm) (h_x0 : tgT x0 = 11) : Rf X S emM (f_Ct_table x0 x1 x2 x3 σ) (d + 1) 122 0 [.ref x0, .int x1, .int x2, .int x3] [] σ := by
  unfold f_Ct_table
  refine rf_ild (i := 1) (Or.inr ⟨1, rfl, rfl, rfl⟩) c_122_0 rfl ?_
  refine rf_iconst c_122_1 ki_0 ?_
  refine rf_sipush c_122_2 ks_255 ?_
  refine rf_callI (as := [.int x1, .int (0 : Int32), .int (255 : Int32)]) (kd := 0) c_122_5 rfl (by decide) rfl ml_11_92 (by decide) rfl (rcv_0 rfl) (Nat.zero_le _) rfl rfl (t_Ct_isWithin hS (by omega) σ x1 (0 : Int32) (255 : Int32)) (fun v5 => ?_)
  refine rf_ite (fun hc8 => ?_) (fun hc8 => ?_)
  · refine rf_b1t c_122_8 rfl (decide_eq_true hc8) ?_
    exact t_Ct_table_31 hS hd  (.ref x0) (.int x1) (.int x2) (.int x3) σ
  · refine rf_b1f c_122_8 rfl (decide_eq_false hc8) ?_
    refine rf_ild (i := 2) (Or.inr ⟨2, rfl, rfl, rfl⟩) c_122_11 rfl ?_
    refine rf_iconst c_122_12 ki_1 ?_
    refine rf_bipush c_122_13 kb_30 ?_
    refine rf_callI (as := [.int x2, .int (1 : Int32), .int (30 : Int32)]) (kd := 0) c_122_15 rfl (by decide) rfl ml_11_92 (by decide) rfl (rcv_0 rfl) (Nat.zero_le _) rfl rfl (t_Ct_isWithin hS (by omega) σ x2 (1 : Int32) (30 : Int32)) (fun v15 => ?_)
    refine rf_ite (fun hc18 => ?_) (fun hc18 => ?_)
    · refine rf_b1t c_122_18 rfl (decide_eq_true hc18) ?_
      exact t_Ct_table_31 hS hd  (.ref x0) (.int x1) (.int x2) (.int x3) σ
    · refine rf_b1f c_122_18 rfl (decide_eq_false hc18) ?_
      refine rf_ild (i := 3) (Or.inr ⟨3, rfl, rfl, rfl⟩) c_122_21 rfl ?_
      refine rf_iconst c_122_22 ki_0 ?_
      refine rf_bipush c_122_23 kb_29 ?_
      refine rf_callI (as := [.int x3, .int (0 : Int32), .int (29 : Int32)]) (kd := 0) c_122_25 rfl (by decide) rfl ml_11_92 (by decide) rfl (rcv_0 rfl) (Nat.zero_le _) rfl rfl (t_Ct_isWithin hS (by omega) σ x3 (0 : Int32) (29 : Int32)) (fun v25 => ?_)
      refine rf_ite (fun hc28 => ?_) (fun hc28 => ?_)
      · refine rf_b1t c_122_28 rfl (decide_eq_true hc28) ?_
        refine rf_ald (i := 0) (Or.inr ⟨0, rfl, rfl, rfl⟩) c_122_34 rfl ?_
        refine rf_getr hS c_122_35 rfl fl_11_10 rfl h_x0 ?_
        refine rf_getr hS c_122_38 rfl fl_11_96 rfl (tf_11_0 h_x0) ?_
        refine rf_ild (i := 1) (Or.inr ⟨1, rfl, rfl, rfl⟩) c_122_41 rfl ?_
        refine rf_ild (i := 2) (Or.inr ⟨2, rfl, rfl, rfl⟩) c_122_42 rfl ?_
        refine rf_ild (i := 3) (Or.inr ⟨3, rfl, rfl, rfl⟩) c_122_43 rfl ?_
        refine rf_callM (as := [.ref (rfT (rfT x0 0) 1), .int x1, .int x2, .int x3]) (kd := 1) c_122_44 rfl (by decide) rfl ml_11_100 (by decide) rfl (rcv_1 hS rfl rfl (tf_7_1 (tf_11_0 h_x0)) (by decide)) (Nat.zero_le _) rfl rfl (t_Tb_add hS (by omega) (rfT (rfT x0 0) 1) x1 x2 x3 σ (tf_7_1 (tf_11_0 h_x0))) (fun v44 => ?_)
        exact rf_ret c_122_47 rfl rfl rfl rfl
      · refine rf_b1f c_122_28 rfl (decide_eq_false hc28) ?_
        exact t_Ct_table_31 hS hd  (.ref x0) (.int x1) (.int x2) (.int x3) σ
theorem t_Ct_table {X : Xt} {S : Sh} (hS : ShOK S) {d : Nat} (hd : 1 ≤ d) (x0 : Nat) (x1 : Int32) (x2 : Int32) (x3 : Int32) (σ : Mm) (h_x0 : tgT x0 = 11) : Rf X S emM (f_Ct_table x0 x1 x2 x3 σ) d 122 0 [.ref x0, .int x1, .int x2, .int x3] [] σ := by
  obtain ⟨d1, rfl⟩ : ∃ d1, d = d1 + 1 := ⟨d - 1, by omega⟩
  exact t_Ct_table_e hS hd x0 x1 x2 x3 σ h_x0
theorem c_183_0 : cd 183 0 = some (.iload_n 1, 1) := by decide +kernel
theorem c_183_1 : cd 183 1 = some (.iconst (0), 1) := by decide +kernel
theorem c_183_2 : cd 183 2 = some (.aload_n 0, 1) := by decide +kernel
theorem c_183_3 : cd 183 3 = some (.getfield 10, 3) := by decide +kernel
theorem c_183_6 : cd 183 6 = some (.getfield 96, 3) := by decide +kernel
theorem c_183_9 : cd 183 9 = some (.getfield 203, 3) := by decide +kernel
theorem c_183_12 : cd 183 12 = some (.iconst (1), 1) := by decide +kernel
theorem c_183_13 : cd 183 13 = some (.isub, 1) := by decide +kernel
theorem c_183_14 : cd 183 14 = some (.invokestatic 92, 3) := by decide +kernel
theorem c_183_17 : cd 183 17 = some (.ireturn, 1) := by decide +kernel
def f_Ct_isTable (σ : Mm) (x0 : Nat) (x1 : Int32) : Option Int32 := (f_Ct_isWithin σ x1 (0 : Int32) ((σ (rfT (rfT x0 0) 1) 4) - (1 : Int32))).bind fun v14 => if zB v14 = true then some v14 else none
set_option maxRecDepth 100000 in
set_option maxHeartbeats 4000000 in
theorem t_Ct_isTable_e {X : Xt} {S : Sh} (hS : ShOK S) {d : Nat} (hd : 1 ≤ d + 1) (σ : Mm) (x0 : Nat) (x1 : Int32) (h_x0 : tgT x0 = 11) : Rf X S (emI σ) (f_Ct_isTable σ x0 x1) (d + 1) 183 0 [.ref x0, .int x1] [] σ := by
  unfold f_Ct_isTable
  refine rf_ild (i := 1) (Or.inr ⟨1, rfl, rfl, rfl⟩) c_183_0 rfl ?_
  refine rf_iconst c_183_1 ki_0 ?_
  refine rf_ald (i := 0) (Or.inr ⟨0, rfl, rfl, rfl⟩) c_183_2 rfl ?_
  refine rf_getr hS c_183_3 rfl fl_11_10 rfl h_x0 ?_
  refine rf_getr hS c_183_6 rfl fl_11_96 rfl (tf_11_0 h_x0) ?_
  refine rf_geti hS c_183_9 rfl fl_11_203 rfl (tf_7_1 (tf_11_0 h_x0)) ?_
  refine rf_iconst c_183_12 ki_1 ?_
  refine rf_isub c_183_13 ?_
  refine rf_callI (as := [.int x1, .int (0 : Int32), .int ((σ (rfT (rfT x0 0) 1) 4) - (1 : Int32))]) (kd := 0) c_183_14 rfl (by decide) rfl ml_11_92 (by decide) rfl (rcv_0 rfl) (Nat.zero_le _) rfl rfl (t_Ct_isWithin hS (by omega) σ x1 (0 : Int32) ((σ (rfT (rfT x0 0) 1) 4) - (1 : Int32))) (fun v14 => ?_)
  refine rf_ite (fun hq17 => ?_) (fun _ => rf_none)
  exact rf_ret c_183_17 rfl (zB_n hq17) rfl rfl
theorem t_Ct_isTable {X : Xt} {S : Sh} (hS : ShOK S) {d : Nat} (hd : 1 ≤ d) (σ : Mm) (x0 : Nat) (x1 : Int32) (h_x0 : tgT x0 = 11) : Rf X S (emI σ) (f_Ct_isTable σ x0 x1) d 183 0 [.ref x0, .int x1] [] σ := by
  obtain ⟨d1, rfl⟩ : ∃ d1, d = d1 + 1 := ⟨d - 1, by omega⟩
  exact t_Ct_isTable_e hS hd σ x0 x1 h_x0
theorem c_123_0 : cd 123 0 = some (.aload_n 0, 1) := by decide +kernel
theorem c_123_1 : cd 123 1 = some (.iload_n 1, 1) := by decide +kernel
theorem c_123_2 : cd 123 2 = some (.invokevirtual 105, 3) := by decide +kernel
theorem c_123_5 : cd 123 5 = some (.ifCond .eq (14), 3) := by decide +kernel
theorem c_123_8 : cd 123 8 = some (.iload_n 2, 1) := by decide +kernel
theorem c_123_9 : cd 123 9 = some (.iconst (0), 1) := by decide +kernel
theorem c_123_10 : cd 123 10 = some (.sipush (255), 3) := by decide +kernel
theorem c_123_13 : cd 123 13 = some (.invokestatic 92, 3) := by decide +kernel
theorem c_123_16 : cd 123 16 = some (.ifCond .ne (6), 3) := by decide +kernel
theorem c_123_19 : cd 123 19 = some (.ldc 72, 2) := by decide +kernel
theorem c_123_21 : cd 123 21 = some (.ireturn, 1) := by decide +kernel
theorem c_123_22 : cd 123 22 = some (.aload_n 0, 1) := by decide +kernel
theorem c_123_23 : cd 123 23 = some (.getfield 10, 3) := by decide +kernel
theorem c_123_26 : cd 123 26 = some (.getfield 96, 3) := by decide +kernel
theorem c_123_29 : cd 123 29 = some (.iload_n 1, 1) := by decide +kernel
theorem c_123_30 : cd 123 30 = some (.iload_n 2, 1) := by decide +kernel
theorem c_123_31 : cd 123 31 = some (.invokevirtual 108, 3) := by decide +kernel
theorem c_123_34 : cd 123 34 = some (.ireturn, 1) := by decide +kernel
def f_Ct_seats_19 (σ : Mm) : Option (Int32 × Mm) := some ((-1000000001 : Int32), σ)
set_option maxRecDepth 100000 in
set_option maxHeartbeats 4000000 in
theorem t_Ct_seats_19 {X : Xt} {S : Sh} (hS : ShOK S) {d : Nat} (hd : 2 ≤ d + 1) (u0 : Value) (u1 : Value) (u2 : Value) (σ : Mm) : Rf X S emM (f_Ct_seats_19 σ) (d + 1) 123 19 [u0, u1, u2] [] σ := by
  unfold f_Ct_seats_19
  refine rf_ldc (Or.inl ⟨rfl, rfl⟩) c_123_19 rfl kl_11_72 ?_
  exact rf_ret c_123_21 rfl rfl rfl rfl
def f_Ct_seats (x0 : Nat) (x1 : Int32) (x2 : Int32) (σ : Mm) : Option (Int32 × Mm) := (f_Ct_isTable σ x0 x1).bind fun v2 => (if v2 = 0 then (f_Ct_seats_19  σ) else ((f_Ct_isWithin σ x2 (0 : Int32) (255 : Int32)).bind fun v13 => (if ¬ v13 = 0 then ((f_Tb_changeSeats (rfT (rfT x0 0) 1) x1 x2 σ).bind fun v31 => some (v31.1, v31.2)) else (f_Ct_seats_19  σ))))
set_option maxRecDepth 100000 in
set_option maxHeartbeats 4000000 in
theorem t_Ct_seats_e {X : Xt} {S : Sh} (hS : ShOK S) {d : Nat} (hd : 2 ≤ d + 1) (x0 : Nat) (x1 : Int32) (x2 : Int32) (σ : Mm) (h_x0 : tgT x0 = 11) : Rf X S emM (f_Ct_seats x0 x1 x2 σ) (d + 1) 123 0 [.ref x0, .int x1, .int x2] [] σ := by
  unfold f_Ct_seats
  refine rf_ald (i := 0) (Or.inr ⟨0, rfl, rfl, rfl⟩) c_123_0 rfl ?_
  refine rf_ild (i := 1) (Or.inr ⟨1, rfl, rfl, rfl⟩) c_123_1 rfl ?_
  refine rf_callI (as := [.ref x0, .int x1]) (kd := 1) c_123_2 rfl (by decide) rfl ml_11_105 (by decide) rfl (rcv_1 hS rfl rfl h_x0 (by decide)) (Nat.zero_le _) rfl rfl (t_Ct_isTable hS (by omega) σ x0 x1 h_x0) (fun v2 => ?_)
  refine rf_ite (fun hc5 => ?_) (fun hc5 => ?_)
  · refine rf_b1t c_123_5 rfl (decide_eq_true hc5) ?_
    exact t_Ct_seats_19 hS hd  (.ref x0) (.int x1) (.int x2) σ
  · refine rf_b1f c_123_5 rfl (decide_eq_false hc5) ?_
    refine rf_ild (i := 2) (Or.inr ⟨2, rfl, rfl, rfl⟩) c_123_8 rfl ?_
    refine rf_iconst c_123_9 ki_0 ?_
    refine rf_sipush c_123_10 ks_255 ?_
    refine rf_callI (as := [.int x2, .int (0 : Int32), .int (255 : Int32)]) (kd := 0) c_123_13 rfl (by decide) rfl ml_11_92 (by decide) rfl (rcv_0 rfl) (Nat.zero_le _) rfl rfl (t_Ct_isWithin hS (by omega) σ x2 (0 : Int32) (255 : Int32)) (fun v13 => ?_)
    refine rf_ite (fun hc16 => ?_) (fun hc16 => ?_)
    · refine rf_b1t c_123_16 rfl (decide_eq_true hc16) ?_
      refine rf_ald (i := 0) (Or.inr ⟨0, rfl, rfl, rfl⟩) c_123_22 rfl ?_
      refine rf_getr hS c_123_23 rfl fl_11_10 rfl h_x0 ?_
      refine rf_getr hS c_123_26 rfl fl_11_96 rfl (tf_11_0 h_x0) ?_
      refine rf_ild (i := 1) (Or.inr ⟨1, rfl, rfl, rfl⟩) c_123_29 rfl ?_
      refine rf_ild (i := 2) (Or.inr ⟨2, rfl, rfl, rfl⟩) c_123_30 rfl ?_
      refine rf_callM (as := [.ref (rfT (rfT x0 0) 1), .int x1, .int x2]) (kd := 1) c_123_31 rfl (by decide) rfl ml_11_108 (by decide) rfl (rcv_1 hS rfl rfl (tf_7_1 (tf_11_0 h_x0)) (by decide)) (Nat.zero_le _) rfl rfl (t_Tb_changeSeats hS (by omega) (rfT (rfT x0 0) 1) x1 x2 σ (tf_7_1 (tf_11_0 h_x0))) (fun v31 => ?_)
      exact rf_ret c_123_34 rfl rfl rfl rfl
    · refine rf_b1f c_123_16 rfl (decide_eq_false hc16) ?_
      exact t_Ct_seats_19 hS hd  (.ref x0) (.int x1) (.int x2) σ
theorem t_Ct_seats {X : Xt} {S : Sh} (hS : ShOK S) {d : Nat} (hd : 2 ≤ d) (x0 : Nat) (x1 : Int32) (x2 : Int32) (σ : Mm) (h_x0 : tgT x0 = 11) : Rf X S emM (f_Ct_seats x0 x1 x2 σ) d 123 0 [.ref x0, .int x1, .int x2] [] σ := by
  obtain ⟨d1, rfl⟩ : ∃ d1, d = d1 + 1 := ⟨d - 1, by omega⟩
  exact t_Ct_seats_e hS hd x0 x1 x2 σ h_x0
theorem c_124_0 : cd 124 0 = some (.aload_n 0, 1) := by decide +kernel
theorem c_124_1 : cd 124 1 = some (.iload_n 1, 1) := by decide +kernel
theorem c_124_2 : cd 124 2 = some (.invokevirtual 105, 3) := by decide +kernel
theorem c_124_5 : cd 124 5 = some (.ifCond .eq (14), 3) := by decide +kernel
theorem c_124_8 : cd 124 8 = some (.iload_n 2, 1) := by decide +kernel
theorem c_124_9 : cd 124 9 = some (.iconst (0), 1) := by decide +kernel
theorem c_124_10 : cd 124 10 = some (.sipush (9999), 3) := by decide +kernel
theorem c_124_13 : cd 124 13 = some (.invokestatic 92, 3) := by decide +kernel
theorem c_124_16 : cd 124 16 = some (.ifCond .ne (6), 3) := by decide +kernel
theorem c_124_19 : cd 124 19 = some (.ldc 72, 2) := by decide +kernel
theorem c_124_21 : cd 124 21 = some (.ireturn, 1) := by decide +kernel
theorem c_124_22 : cd 124 22 = some (.aload_n 0, 1) := by decide +kernel
theorem c_124_23 : cd 124 23 = some (.getfield 10, 3) := by decide +kernel
theorem c_124_26 : cd 124 26 = some (.getfield 96, 3) := by decide +kernel
theorem c_124_29 : cd 124 29 = some (.iload_n 1, 1) := by decide +kernel
theorem c_124_30 : cd 124 30 = some (.iload_n 2, 1) := by decide +kernel
theorem c_124_31 : cd 124 31 = some (.invokevirtual 111, 3) := by decide +kernel
theorem c_124_34 : cd 124 34 = some (.invokestatic 114, 3) := by decide +kernel
theorem c_124_37 : cd 124 37 = some (.ireturn, 1) := by decide +kernel
def f_Ct_sits_19 (σ : Mm) : Option Int32 := some (-1000000001 : Int32)
set_option maxRecDepth 100000 in
set_option maxHeartbeats 4000000 in
theorem t_Ct_sits_19 {X : Xt} {S : Sh} (hS : ShOK S) {d : Nat} (hd : 2 ≤ d + 1) (σ : Mm) (u0 : Value) (u1 : Value) (u2 : Value) : Rf X S (emI σ) (f_Ct_sits_19 σ) (d + 1) 124 19 [u0, u1, u2] [] σ := by
  unfold f_Ct_sits_19
  refine rf_ldc (Or.inl ⟨rfl, rfl⟩) c_124_19 rfl kl_11_72 ?_
  exact rf_ret c_124_21 rfl rfl rfl rfl
def f_Ct_sits (σ : Mm) (x0 : Nat) (x1 : Int32) (x2 : Int32) : Option Int32 := (f_Ct_isTable σ x0 x1).bind fun v2 => (if v2 = 0 then (f_Ct_sits_19 σ ) else ((f_Ct_isWithin σ x2 (0 : Int32) (9999 : Int32)).bind fun v13 => (if ¬ v13 = 0 then ((f_Tb_sitsOn σ (rfT (rfT x0 0) 1) x1 x2).bind fun v31 => (f_Ct_bit σ v31).bind fun v34 => some v34) else (f_Ct_sits_19 σ ))))
set_option maxRecDepth 100000 in
set_option maxHeartbeats 4000000 in
theorem t_Ct_sits_e {X : Xt} {S : Sh} (hS : ShOK S) {d : Nat} (hd : 2 ≤ d + 1) (σ : Mm) (x0 : Nat) (x1 : Int32) (x2 : Int32) (h_x0 : tgT x0 = 11) : Rf X S (emI σ) (f_Ct_sits σ x0 x1 x2) (d + 1) 124 0 [.ref x0, .int x1, .int x2] [] σ := by
  unfold f_Ct_sits
  refine rf_ald (i := 0) (Or.inr ⟨0, rfl, rfl, rfl⟩) c_124_0 rfl ?_
  refine rf_ild (i := 1) (Or.inr ⟨1, rfl, rfl, rfl⟩) c_124_1 rfl ?_
  refine rf_callI (as := [.ref x0, .int x1]) (kd := 1) c_124_2 rfl (by decide) rfl ml_11_105 (by decide) rfl (rcv_1 hS rfl rfl h_x0 (by decide)) (Nat.zero_le _) rfl rfl (t_Ct_isTable hS (by omega) σ x0 x1 h_x0) (fun v2 => ?_)
  refine rf_ite (fun hc5 => ?_) (fun hc5 => ?_)
  · refine rf_b1t c_124_5 rfl (decide_eq_true hc5) ?_
    exact t_Ct_sits_19 hS hd σ  (.ref x0) (.int x1) (.int x2)
  · refine rf_b1f c_124_5 rfl (decide_eq_false hc5) ?_
    refine rf_ild (i := 2) (Or.inr ⟨2, rfl, rfl, rfl⟩) c_124_8 rfl ?_
    refine rf_iconst c_124_9 ki_0 ?_
    refine rf_sipush c_124_10 ks_9999 ?_
    refine rf_callI (as := [.int x2, .int (0 : Int32), .int (9999 : Int32)]) (kd := 0) c_124_13 rfl (by decide) rfl ml_11_92 (by decide) rfl (rcv_0 rfl) (Nat.zero_le _) rfl rfl (t_Ct_isWithin hS (by omega) σ x2 (0 : Int32) (9999 : Int32)) (fun v13 => ?_)
    refine rf_ite (fun hc16 => ?_) (fun hc16 => ?_)
    · refine rf_b1t c_124_16 rfl (decide_eq_true hc16) ?_
      refine rf_ald (i := 0) (Or.inr ⟨0, rfl, rfl, rfl⟩) c_124_22 rfl ?_
      refine rf_getr hS c_124_23 rfl fl_11_10 rfl h_x0 ?_
      refine rf_getr hS c_124_26 rfl fl_11_96 rfl (tf_11_0 h_x0) ?_
      refine rf_ild (i := 1) (Or.inr ⟨1, rfl, rfl, rfl⟩) c_124_29 rfl ?_
      refine rf_ild (i := 2) (Or.inr ⟨2, rfl, rfl, rfl⟩) c_124_30 rfl ?_
      refine rf_callI (as := [.ref (rfT (rfT x0 0) 1), .int x1, .int x2]) (kd := 1) c_124_31 rfl (by decide) rfl ml_11_111 (by decide) rfl (rcv_1 hS rfl rfl (tf_7_1 (tf_11_0 h_x0)) (by decide)) (Nat.zero_le _) rfl rfl (t_Tb_sitsOn hS (by omega) σ (rfT (rfT x0 0) 1) x1 x2 (tf_7_1 (tf_11_0 h_x0))) (fun v31 => ?_)
      refine rf_callI (as := [.int v31]) (kd := 0) c_124_34 rfl (by decide) rfl ml_11_114 (by decide) rfl (rcv_0 rfl) (Nat.zero_le _) rfl rfl (t_Ct_bit hS (by omega) σ v31) (fun v34 => ?_)
      exact rf_ret c_124_37 rfl rfl rfl rfl
    · refine rf_b1f c_124_16 rfl (decide_eq_false hc16) ?_
      exact t_Ct_sits_19 hS hd σ  (.ref x0) (.int x1) (.int x2)
theorem t_Ct_sits {X : Xt} {S : Sh} (hS : ShOK S) {d : Nat} (hd : 2 ≤ d) (σ : Mm) (x0 : Nat) (x1 : Int32) (x2 : Int32) (h_x0 : tgT x0 = 11) : Rf X S (emI σ) (f_Ct_sits σ x0 x1 x2) d 124 0 [.ref x0, .int x1, .int x2] [] σ := by
  obtain ⟨d1, rfl⟩ : ∃ d1, d = d1 + 1 := ⟨d - 1, by omega⟩
  exact t_Ct_sits_e hS hd σ x0 x1 x2 h_x0
theorem c_125_0 : cd 125 0 = some (.aload_n 0, 1) := by decide +kernel
theorem c_125_1 : cd 125 1 = some (.iload_n 1, 1) := by decide +kernel
theorem c_125_2 : cd 125 2 = some (.invokevirtual 105, 3) := by decide +kernel
theorem c_125_5 : cd 125 5 = some (.ifCond .eq (25), 3) := by decide +kernel
theorem c_125_8 : cd 125 8 = some (.aload_n 0, 1) := by decide +kernel
theorem c_125_9 : cd 125 9 = some (.iload_n 2, 1) := by decide +kernel
theorem c_125_10 : cd 125 10 = some (.invokevirtual 105, 3) := by decide +kernel
theorem c_125_13 : cd 125 13 = some (.ifCond .eq (17), 3) := by decide +kernel
theorem c_125_16 : cd 125 16 = some (.iload_n 1, 1) := by decide +kernel
theorem c_125_17 : cd 125 17 = some (.iload_n 2, 1) := by decide +kernel
theorem c_125_18 : cd 125 18 = some (.if_icmp .eq (12), 3) := by decide +kernel
theorem c_125_21 : cd 125 21 = some (.iload_n 3, 1) := by decide +kernel
theorem c_125_22 : cd 125 22 = some (.iconst (0), 1) := by decide +kernel
theorem c_125_23 : cd 125 23 = some (.iconst (1), 1) := by decide +kernel
theorem c_125_24 : cd 125 24 = some (.invokestatic 92, 3) := by decide +kernel
theorem c_125_27 : cd 125 27 = some (.ifCond .ne (6), 3) := by decide +kernel
theorem c_125_30 : cd 125 30 = some (.ldc 72, 2) := by decide +kernel
theorem c_125_32 : cd 125 32 = some (.ireturn, 1) := by decide +kernel
theorem c_125_33 : cd 125 33 = some (.aload_n 0, 1) := by decide +kernel
theorem c_125_34 : cd 125 34 = some (.getfield 10, 3) := by decide +kernel
theorem c_125_37 : cd 125 37 = some (.getfield 96, 3) := by decide +kernel
theorem c_125_40 : cd 125 40 = some (.iload_n 1, 1) := by decide +kernel
theorem c_125_41 : cd 125 41 = some (.iload_n 2, 1) := by decide +kernel
theorem c_125_42 : cd 125 42 = some (.iload_n 3, 1) := by decide +kernel
theorem c_125_43 : cd 125 43 = some (.iconst (1), 1) := by decide +kernel
theorem c_125_44 : cd 125 44 = some (.if_icmp .ne (7), 3) := by decide +kernel
theorem c_125_47 : cd 125 47 = some (.iconst (1), 1) := by decide +kernel
theorem c_125_48 : cd 125 48 = some (.goto (4), 3) := by decide +kernel
theorem c_125_51 : cd 125 51 = some (.iconst (0), 1) := by decide +kernel
theorem c_125_52 : cd 125 52 = some (.invokevirtual 118, 3) := by decide +kernel
theorem c_125_55 : cd 125 55 = some (.invokestatic 114, 3) := by decide +kernel
theorem c_125_58 : cd 125 58 = some (.ireturn, 1) := by decide +kernel
def f_Ct_pass_30 (σ : Mm) : Option (Int32 × Mm) := some ((-1000000001 : Int32), σ)
set_option maxRecDepth 100000 in
set_option maxHeartbeats 4000000 in
theorem t_Ct_pass_30 {X : Xt} {S : Sh} (hS : ShOK S) {d : Nat} (hd : 2 ≤ d + 1) (u0 : Value) (u1 : Value) (u2 : Value) (u3 : Value) (σ : Mm) : Rf X S emM (f_Ct_pass_30 σ) (d + 1) 125 30 [u0, u1, u2, u3] [] σ := by
  unfold f_Ct_pass_30
  refine rf_ldc (Or.inl ⟨rfl, rfl⟩) c_125_30 rfl kl_11_72 ?_
  exact rf_ret c_125_32 rfl rfl rfl rfl
def f_Ct_pass_52 (y0 : Nat) (y1 : Int32) (y2 : Int32) (y3 : Int32) (σ : Mm) : Option (Int32 × Mm) := (f_Tb_changePass y0 y1 y2 y3 σ).bind fun v52 => (f_Ct_bit v52.2 v52.1).bind fun v55 => some (v55, v52.2)
set_option maxRecDepth 100000 in
set_option maxHeartbeats 4000000 in
theorem t_Ct_pass_52 {X : Xt} {S : Sh} (hS : ShOK S) {d : Nat} (hd : 2 ≤ d + 1) (y0 : Nat) (y1 : Int32) (y2 : Int32) (y3 : Int32) (u0 : Value) (u1 : Value) (u2 : Value) (u3 : Value) (σ : Mm) (h_y0 : tgT y0 = 8) : Rf X S emM (f_Ct_pass_52 y0 y1 y2 y3 σ) (d + 1) 125 52 [u0, u1, u2, u3] [.int y3, .int y2, .int y1, .ref y0] σ := by
  unfold f_Ct_pass_52
  refine rf_callM (as := [.ref y0, .int y1, .int y2, .int y3]) (kd := 1) c_125_52 rfl (by decide) rfl ml_11_118 (by decide) rfl (rcv_1 hS rfl rfl h_y0 (by decide)) (Nat.zero_le _) rfl rfl (t_Tb_changePass hS (by omega) y0 y1 y2 y3 σ h_y0) (fun v52 => ?_)
  refine rf_callI (as := [.int v52.1]) (kd := 0) c_125_55 rfl (by decide) rfl ml_11_114 (by decide) rfl (rcv_0 rfl) (Nat.zero_le _) rfl rfl (t_Ct_bit hS (by omega) v52.2 v52.1) (fun v55 => ?_)
  exact rf_ret c_125_58 rfl rfl rfl rfl
def f_Ct_pass (x0 : Nat) (x1 : Int32) (x2 : Int32) (x3 : Int32) (σ : Mm) : Option (Int32 × Mm) := (f_Ct_isTable σ x0 x1).bind fun v2 => (if v2 = 0 then (f_Ct_pass_30  σ) else ((f_Ct_isTable σ x0 x2).bind fun v10 => (if v10 = 0 then (f_Ct_pass_30  σ) else (if x1 = x2 then (f_Ct_pass_30  σ) else ((f_Ct_isWithin σ x3 (0 : Int32) (1 : Int32)).bind fun v24 => (if ¬ v24 = 0 then (if ¬ x3 = (1 : Int32) then (f_Ct_pass_52  (rfT (rfT x0 0) 1) x1 x2 (0 : Int32) σ) else (f_Ct_pass_52  (rfT (rfT x0 0) 1) x1 x2 (1 : Int32) σ)) else (f_Ct_pass_30  σ)))))))
set_option maxRecDepth 100000 in
set_option maxHeartbeats 4000000 in
theorem t_Ct_pass_e {X : Xt} {S : Sh} (hS : ShOK S) {d : Nat} (hd : 2 ≤ d + 1) (x0 : Nat) (x1 : Int32) (x2 : Int32) (x3 : Int32) (σ : Mm) (h_x0 : tgT x0 = 11) : Rf X S emM (f_Ct_pass x0 x1 x2 x3 σ) (d + 1) 125 0 [.ref x0, .int x1, .int x2, .int x3] [] σ := by
  unfold f_Ct_pass
  refine rf_ald (i := 0) (Or.inr ⟨0, rfl, rfl, rfl⟩) c_125_0 rfl ?_
  refine rf_ild (i := 1) (Or.inr ⟨1, rfl, rfl, rfl⟩) c_125_1 rfl ?_
  refine rf_callI (as := [.ref x0, .int x1]) (kd := 1) c_125_2 rfl (by decide) rfl ml_11_105 (by decide) rfl (rcv_1 hS rfl rfl h_x0 (by decide)) (Nat.zero_le _) rfl rfl (t_Ct_isTable hS (by omega) σ x0 x1 h_x0) (fun v2 => ?_)
  refine rf_ite (fun hc5 => ?_) (fun hc5 => ?_)
  · refine rf_b1t c_125_5 rfl (decide_eq_true hc5) ?_
    exact t_Ct_pass_30 hS hd  (.ref x0) (.int x1) (.int x2) (.int x3) σ
  · refine rf_b1f c_125_5 rfl (decide_eq_false hc5) ?_
    refine rf_ald (i := 0) (Or.inr ⟨0, rfl, rfl, rfl⟩) c_125_8 rfl ?_
    refine rf_ild (i := 2) (Or.inr ⟨2, rfl, rfl, rfl⟩) c_125_9 rfl ?_
    refine rf_callI (as := [.ref x0, .int x2]) (kd := 1) c_125_10 rfl (by decide) rfl ml_11_105 (by decide) rfl (rcv_1 hS rfl rfl h_x0 (by decide)) (Nat.zero_le _) rfl rfl (t_Ct_isTable hS (by omega) σ x0 x2 h_x0) (fun v10 => ?_)
    refine rf_ite (fun hc13 => ?_) (fun hc13 => ?_)
    · refine rf_b1t c_125_13 rfl (decide_eq_true hc13) ?_
      exact t_Ct_pass_30 hS hd  (.ref x0) (.int x1) (.int x2) (.int x3) σ
    · refine rf_b1f c_125_13 rfl (decide_eq_false hc13) ?_
      refine rf_ild (i := 1) (Or.inr ⟨1, rfl, rfl, rfl⟩) c_125_16 rfl ?_
      refine rf_ild (i := 2) (Or.inr ⟨2, rfl, rfl, rfl⟩) c_125_17 rfl ?_
      refine rf_ite (fun hc18 => ?_) (fun hc18 => ?_)
      · refine rf_b2t c_125_18 rfl (decide_eq_true hc18) ?_
        exact t_Ct_pass_30 hS hd  (.ref x0) (.int x1) (.int x2) (.int x3) σ
      · refine rf_b2f c_125_18 rfl (decide_eq_false hc18) ?_
        refine rf_ild (i := 3) (Or.inr ⟨3, rfl, rfl, rfl⟩) c_125_21 rfl ?_
        refine rf_iconst c_125_22 ki_0 ?_
        refine rf_iconst c_125_23 ki_1 ?_
        refine rf_callI (as := [.int x3, .int (0 : Int32), .int (1 : Int32)]) (kd := 0) c_125_24 rfl (by decide) rfl ml_11_92 (by decide) rfl (rcv_0 rfl) (Nat.zero_le _) rfl rfl (t_Ct_isWithin hS (by omega) σ x3 (0 : Int32) (1 : Int32)) (fun v24 => ?_)
        refine rf_ite (fun hc27 => ?_) (fun hc27 => ?_)
        · refine rf_b1t c_125_27 rfl (decide_eq_true hc27) ?_
          refine rf_ald (i := 0) (Or.inr ⟨0, rfl, rfl, rfl⟩) c_125_33 rfl ?_
          refine rf_getr hS c_125_34 rfl fl_11_10 rfl h_x0 ?_
          refine rf_getr hS c_125_37 rfl fl_11_96 rfl (tf_11_0 h_x0) ?_
          refine rf_ild (i := 1) (Or.inr ⟨1, rfl, rfl, rfl⟩) c_125_40 rfl ?_
          refine rf_ild (i := 2) (Or.inr ⟨2, rfl, rfl, rfl⟩) c_125_41 rfl ?_
          refine rf_ild (i := 3) (Or.inr ⟨3, rfl, rfl, rfl⟩) c_125_42 rfl ?_
          refine rf_iconst c_125_43 ki_1 ?_
          refine rf_ite (fun hc44 => ?_) (fun hc44 => ?_)
          · refine rf_b2t c_125_44 rfl (decide_eq_true hc44) ?_
            refine rf_iconst c_125_51 ki_0 ?_
            exact t_Ct_pass_52 hS hd  (rfT (rfT x0 0) 1) x1 x2 (0 : Int32) (.ref x0) (.int x1) (.int x2) (.int x3) σ (tf_7_1 (tf_11_0 h_x0))
          · refine rf_b2f c_125_44 rfl (decide_eq_false hc44) ?_
            refine rf_iconst c_125_47 ki_1 ?_
            refine rf_goto c_125_48 rfl ?_
            exact t_Ct_pass_52 hS hd  (rfT (rfT x0 0) 1) x1 x2 (1 : Int32) (.ref x0) (.int x1) (.int x2) (.int x3) σ (tf_7_1 (tf_11_0 h_x0))
        · refine rf_b1f c_125_27 rfl (decide_eq_false hc27) ?_
          exact t_Ct_pass_30 hS hd  (.ref x0) (.int x1) (.int x2) (.int x3) σ
theorem t_Ct_pass {X : Xt} {S : Sh} (hS : ShOK S) {d : Nat} (hd : 2 ≤ d) (x0 : Nat) (x1 : Int32) (x2 : Int32) (x3 : Int32) (σ : Mm) (h_x0 : tgT x0 = 11) : Rf X S emM (f_Ct_pass x0 x1 x2 x3 σ) d 125 0 [.ref x0, .int x1, .int x2, .int x3] [] σ := by
  obtain ⟨d1, rfl⟩ : ∃ d1, d = d1 + 1 := ⟨d - 1, by omega⟩
  exact t_Ct_pass_e hS hd x0 x1 x2 x3 σ h_x0
theorem c_126_0 : cd 126 0 = some (.iload_n 1, 1) := by decide +kernel
theorem c_126_1 : cd 126 1 = some (.ifCond .lt (25), 3) := by decide +kernel
theorem c_126_4 : cd 126 4 = some (.aload_n 0, 1) := by decide +kernel
theorem c_126_5 : cd 126 5 = some (.iload_n 1, 1) := by decide +kernel
theorem c_126_6 : cd 126 6 = some (.bipush (10), 2) := by decide +kernel
theorem c_126_8 : cd 126 8 = some (.idiv, 1) := by decide +kernel
theorem c_126_9 : cd 126 9 = some (.invokevirtual 105, 3) := by decide +kernel
theorem c_126_12 : cd 126 12 = some (.ifCond .eq (14), 3) := by decide +kernel
theorem c_126_15 : cd 126 15 = some (.aload_n 0, 1) := by decide +kernel
theorem c_126_16 : cd 126 16 = some (.iload_n 1, 1) := by decide +kernel
theorem c_126_17 : cd 126 17 = some (.bipush (10), 2) := by decide +kernel
theorem c_126_19 : cd 126 19 = some (.irem, 1) := by decide +kernel
theorem c_126_20 : cd 126 20 = some (.invokevirtual 105, 3) := by decide +kernel
theorem c_126_23 : cd 126 23 = some (.ifCond .ne (6), 3) := by decide +kernel
theorem c_126_26 : cd 126 26 = some (.ldc 72, 2) := by decide +kernel
theorem c_126_28 : cd 126 28 = some (.ireturn, 1) := by decide +kernel
theorem c_126_29 : cd 126 29 = some (.iload_n 2, 1) := by decide +kernel
theorem c_126_30 : cd 126 30 = some (.invokestatic 81, 3) := by decide +kernel
theorem c_126_33 : cd 126 33 = some (.ifCond .eq (18), 3) := by decide +kernel
theorem c_126_36 : cd 126 36 = some (.iload_n 3, 1) := by decide +kernel
theorem c_126_37 : cd 126 37 = some (.iconst (0), 1) := by decide +kernel
theorem c_126_38 : cd 126 38 = some (.bipush (30), 2) := by decide +kernel
theorem c_126_40 : cd 126 40 = some (.invokestatic 92, 3) := by decide +kernel
theorem c_126_43 : cd 126 43 = some (.ifCond .eq (8), 3) := by decide +kernel
theorem c_126_46 : cd 126 46 = some (.iload 4, 2) := by decide +kernel
theorem c_126_48 : cd 126 48 = some (.ifCond .ge (6), 3) := by decide +kernel
theorem c_126_51 : cd 126 51 = some (.ldc 72, 2) := by decide +kernel
theorem c_126_53 : cd 126 53 = some (.ireturn, 1) := by decide +kernel
theorem c_126_54 : cd 126 54 = some (.aload_n 0, 1) := by decide +kernel
theorem c_126_55 : cd 126 55 = some (.getfield 25, 3) := by decide +kernel
theorem c_126_58 : cd 126 58 = some (.aload_n 0, 1) := by decide +kernel
theorem c_126_59 : cd 126 59 = some (.getfield 10, 3) := by decide +kernel
theorem c_126_62 : cd 126 62 = some (.getfield 96, 3) := by decide +kernel
theorem c_126_65 : cd 126 65 = some (.iload_n 1, 1) := by decide +kernel
theorem c_126_66 : cd 126 66 = some (.bipush (10), 2) := by decide +kernel
theorem c_126_68 : cd 126 68 = some (.idiv, 1) := by decide +kernel
theorem c_126_69 : cd 126 69 = some (.iload_n 1, 1) := by decide +kernel
theorem c_126_70 : cd 126 70 = some (.bipush (10), 2) := by decide +kernel
theorem c_126_72 : cd 126 72 = some (.irem, 1) := by decide +kernel
theorem c_126_73 : cd 126 73 = some (.iload_n 2, 1) := by decide +kernel
theorem c_126_74 : cd 126 74 = some (.iload_n 3, 1) := by decide +kernel
theorem c_126_75 : cd 126 75 = some (.invokevirtual 122, 3) := by decide +kernel
theorem c_126_78 : cd 126 78 = some (.aload_n 0, 1) := by decide +kernel
theorem c_126_79 : cd 126 79 = some (.getfield 25, 3) := by decide +kernel
theorem c_126_82 : cd 126 82 = some (.iload 4, 2) := by decide +kernel
theorem c_126_84 : cd 126 84 = some (.invokevirtual 126, 3) := by decide +kernel
theorem c_126_87 : cd 126 87 = some (.ireturn, 1) := by decide +kernel
def f_Ct_way_26 (σ : Mm) : Option (Int32 × Mm) := some ((-1000000001 : Int32), σ)
set_option maxRecDepth 100000 in
set_option maxHeartbeats 4000000 in
theorem t_Ct_way_26 {X : Xt} {S : Sh} (hS : ShOK S) {d : Nat} (hd : 18 ≤ d + 1) (u0 : Value) (u1 : Value) (u2 : Value) (u3 : Value) (u4 : Value) (σ : Mm) : Rf X S emM (f_Ct_way_26 σ) (d + 1) 126 26 [u0, u1, u2, u3, u4] [] σ := by
  unfold f_Ct_way_26
  refine rf_ldc (Or.inl ⟨rfl, rfl⟩) c_126_26 rfl kl_11_72 ?_
  exact rf_ret c_126_28 rfl rfl rfl rfl
def f_Ct_way_51 (σ : Mm) : Option (Int32 × Mm) := some ((-1000000001 : Int32), σ)
set_option maxRecDepth 100000 in
set_option maxHeartbeats 4000000 in
theorem t_Ct_way_51 {X : Xt} {S : Sh} (hS : ShOK S) {d : Nat} (hd : 18 ≤ d + 1) (u0 : Value) (u1 : Value) (u2 : Value) (u3 : Value) (u4 : Value) (σ : Mm) : Rf X S emM (f_Ct_way_51 σ) (d + 1) 126 51 [u0, u1, u2, u3, u4] [] σ := by
  unfold f_Ct_way_51
  refine rf_ldc (Or.inl ⟨rfl, rfl⟩) c_126_51 rfl kl_11_72 ?_
  exact rf_ret c_126_53 rfl rfl rfl rfl
def f_Ct_way (x0 : Nat) (x1 : Int32) (x2 : Int32) (x3 : Int32) (x4 : Int32) (σ : Mm) : Option (Int32 × Mm) := (if x1 < 0 then (f_Ct_way_26  σ) else ((f_Ct_isTable σ x0 (x1 / (10 : Int32))).bind fun v9 => (if v9 = 0 then (f_Ct_way_26  σ) else ((f_Ct_isTable σ x0 (irm x1 (10 : Int32))).bind fun v20 => (if ¬ v20 = 0 then ((f_Ct_isDay σ x2).bind fun v30 => (if v30 = 0 then (f_Ct_way_51  σ) else ((f_Ct_isWithin σ x3 (0 : Int32) (30 : Int32)).bind fun v40 => (if v40 = 0 then (f_Ct_way_51  σ) else (if 0 ≤ x4 then ((f_Wf_seek (rfT x0 3) (rfT (rfT x0 0) 1) (x1 / (10 : Int32)) (irm x1 (10 : Int32)) x2 x3 σ).bind fun v75 => (f_Wf_answer v75 (rfT x0 3) x4).bind fun v84 => some (v84, v75)) else (f_Ct_way_51  σ)))))) else (f_Ct_way_26  σ))))))
set_option maxRecDepth 100000 in
set_option maxHeartbeats 4000000 in
theorem t_Ct_way_e {X : Xt} {S : Sh} (hS : ShOK S) {d : Nat} (hd : 18 ≤ d + 1) (x0 : Nat) (x1 : Int32) (x2 : Int32) (x3 : Int32) (x4 : Int32) (σ : Mm) (h_x0 : tgT x0 = 11) : Rf X S emM (f_Ct_way x0 x1 x2 x3 x4 σ) (d + 1) 126 0 [.ref x0, .int x1, .int x2, .int x3, .int x4] [] σ := by
  unfold f_Ct_way
  refine rf_ild (i := 1) (Or.inr ⟨1, rfl, rfl, rfl⟩) c_126_0 rfl ?_
  refine rf_ite (fun hc1 => ?_) (fun hc1 => ?_)
  · refine rf_b1t c_126_1 rfl (decide_eq_true hc1) ?_
    exact t_Ct_way_26 hS hd  (.ref x0) (.int x1) (.int x2) (.int x3) (.int x4) σ
  · refine rf_b1f c_126_1 rfl (decide_eq_false hc1) ?_
    refine rf_ald (i := 0) (Or.inr ⟨0, rfl, rfl, rfl⟩) c_126_4 rfl ?_
    refine rf_ild (i := 1) (Or.inr ⟨1, rfl, rfl, rfl⟩) c_126_5 rfl ?_
    refine rf_bipush c_126_6 kb_10 ?_
    refine rf_idiv c_126_8 (by decide) ?_
    refine rf_callI (as := [.ref x0, .int (x1 / (10 : Int32))]) (kd := 1) c_126_9 rfl (by decide) rfl ml_11_105 (by decide) rfl (rcv_1 hS rfl rfl h_x0 (by decide)) (Nat.zero_le _) rfl rfl (t_Ct_isTable hS (by omega) σ x0 (x1 / (10 : Int32)) h_x0) (fun v9 => ?_)
    refine rf_ite (fun hc12 => ?_) (fun hc12 => ?_)
    · refine rf_b1t c_126_12 rfl (decide_eq_true hc12) ?_
      exact t_Ct_way_26 hS hd  (.ref x0) (.int x1) (.int x2) (.int x3) (.int x4) σ
    · refine rf_b1f c_126_12 rfl (decide_eq_false hc12) ?_
      refine rf_ald (i := 0) (Or.inr ⟨0, rfl, rfl, rfl⟩) c_126_15 rfl ?_
      refine rf_ild (i := 1) (Or.inr ⟨1, rfl, rfl, rfl⟩) c_126_16 rfl ?_
      refine rf_bipush c_126_17 kb_10 ?_
      refine rf_irem c_126_19 (by decide) ?_
      refine rf_callI (as := [.ref x0, .int (irm x1 (10 : Int32))]) (kd := 1) c_126_20 rfl (by decide) rfl ml_11_105 (by decide) rfl (rcv_1 hS rfl rfl h_x0 (by decide)) (Nat.zero_le _) rfl rfl (t_Ct_isTable hS (by omega) σ x0 (irm x1 (10 : Int32)) h_x0) (fun v20 => ?_)
      refine rf_ite (fun hc23 => ?_) (fun hc23 => ?_)
      · refine rf_b1t c_126_23 rfl (decide_eq_true hc23) ?_
        refine rf_ild (i := 2) (Or.inr ⟨2, rfl, rfl, rfl⟩) c_126_29 rfl ?_
        refine rf_callI (as := [.int x2]) (kd := 0) c_126_30 rfl (by decide) rfl ml_11_81 (by decide) rfl (rcv_0 rfl) (Nat.zero_le _) rfl rfl (t_Ct_isDay hS (by omega) σ x2) (fun v30 => ?_)
        refine rf_ite (fun hc33 => ?_) (fun hc33 => ?_)
        · refine rf_b1t c_126_33 rfl (decide_eq_true hc33) ?_
          exact t_Ct_way_51 hS hd  (.ref x0) (.int x1) (.int x2) (.int x3) (.int x4) σ
        · refine rf_b1f c_126_33 rfl (decide_eq_false hc33) ?_
          refine rf_ild (i := 3) (Or.inr ⟨3, rfl, rfl, rfl⟩) c_126_36 rfl ?_
          refine rf_iconst c_126_37 ki_0 ?_
          refine rf_bipush c_126_38 kb_30 ?_
          refine rf_callI (as := [.int x3, .int (0 : Int32), .int (30 : Int32)]) (kd := 0) c_126_40 rfl (by decide) rfl ml_11_92 (by decide) rfl (rcv_0 rfl) (Nat.zero_le _) rfl rfl (t_Ct_isWithin hS (by omega) σ x3 (0 : Int32) (30 : Int32)) (fun v40 => ?_)
          refine rf_ite (fun hc43 => ?_) (fun hc43 => ?_)
          · refine rf_b1t c_126_43 rfl (decide_eq_true hc43) ?_
            exact t_Ct_way_51 hS hd  (.ref x0) (.int x1) (.int x2) (.int x3) (.int x4) σ
          · refine rf_b1f c_126_43 rfl (decide_eq_false hc43) ?_
            refine rf_ild (i := 4) (Or.inl ⟨rfl, rfl⟩) c_126_46 rfl ?_
            refine rf_ite (fun hc48 => ?_) (fun hc48 => ?_)
            · refine rf_b1t c_126_48 rfl (decide_eq_true hc48) ?_
              refine rf_ald (i := 0) (Or.inr ⟨0, rfl, rfl, rfl⟩) c_126_54 rfl ?_
              refine rf_getr hS c_126_55 rfl fl_11_25 rfl h_x0 ?_
              refine rf_ald (i := 0) (Or.inr ⟨0, rfl, rfl, rfl⟩) c_126_58 rfl ?_
              refine rf_getr hS c_126_59 rfl fl_11_10 rfl h_x0 ?_
              refine rf_getr hS c_126_62 rfl fl_11_96 rfl (tf_11_0 h_x0) ?_
              refine rf_ild (i := 1) (Or.inr ⟨1, rfl, rfl, rfl⟩) c_126_65 rfl ?_
              refine rf_bipush c_126_66 kb_10 ?_
              refine rf_idiv c_126_68 (by decide) ?_
              refine rf_ild (i := 1) (Or.inr ⟨1, rfl, rfl, rfl⟩) c_126_69 rfl ?_
              refine rf_bipush c_126_70 kb_10 ?_
              refine rf_irem c_126_72 (by decide) ?_
              refine rf_ild (i := 2) (Or.inr ⟨2, rfl, rfl, rfl⟩) c_126_73 rfl ?_
              refine rf_ild (i := 3) (Or.inr ⟨3, rfl, rfl, rfl⟩) c_126_74 rfl ?_
              refine rf_callV (as := [.ref (rfT x0 3), .ref (rfT (rfT x0 0) 1), .int (x1 / (10 : Int32)), .int (irm x1 (10 : Int32)), .int x2, .int x3]) (kd := 1) c_126_75 rfl (by decide) rfl ml_11_122 (by decide) rfl (rcv_1 hS rfl rfl (tf_11_3 h_x0) (by decide)) (Nat.zero_le _) rfl rfl (t_Wf_seek hS (by omega) (rfT x0 3) (rfT (rfT x0 0) 1) (x1 / (10 : Int32)) (irm x1 (10 : Int32)) x2 x3 σ (tf_11_3 h_x0) (tf_7_1 (tf_11_0 h_x0))) (fun v75 => ?_)
              refine rf_ald (i := 0) (Or.inr ⟨0, rfl, rfl, rfl⟩) c_126_78 rfl ?_
              refine rf_getr hS c_126_79 rfl fl_11_25 rfl h_x0 ?_
              refine rf_ild (i := 4) (Or.inl ⟨rfl, rfl⟩) c_126_82 rfl ?_
              refine rf_callI (as := [.ref (rfT x0 3), .int x4]) (kd := 1) c_126_84 rfl (by decide) rfl ml_11_126 (by decide) rfl (rcv_1 hS rfl rfl (tf_11_3 h_x0) (by decide)) (Nat.zero_le _) rfl rfl (t_Wf_answer hS (by omega) v75 (rfT x0 3) x4 (tf_11_3 h_x0)) (fun v84 => ?_)
              exact rf_ret c_126_87 rfl rfl rfl rfl
            · refine rf_b1f c_126_48 rfl (decide_eq_false hc48) ?_
              exact t_Ct_way_51 hS hd  (.ref x0) (.int x1) (.int x2) (.int x3) (.int x4) σ
      · refine rf_b1f c_126_23 rfl (decide_eq_false hc23) ?_
        exact t_Ct_way_26 hS hd  (.ref x0) (.int x1) (.int x2) (.int x3) (.int x4) σ
theorem t_Ct_way {X : Xt} {S : Sh} (hS : ShOK S) {d : Nat} (hd : 18 ≤ d) (x0 : Nat) (x1 : Int32) (x2 : Int32) (x3 : Int32) (x4 : Int32) (σ : Mm) (h_x0 : tgT x0 = 11) : Rf X S emM (f_Ct_way x0 x1 x2 x3 x4 σ) d 126 0 [.ref x0, .int x1, .int x2, .int x3, .int x4] [] σ := by
  obtain ⟨d1, rfl⟩ : ∃ d1, d = d1 + 1 := ⟨d - 1, by omega⟩
  exact t_Ct_way_e hS hd x0 x1 x2 x3 x4 σ h_x0
theorem c_178_0 : cd 178 0 = some (.iload_n 0, 1) := by decide +kernel
theorem c_178_1 : cd 178 1 = some (.iconst (0), 1) := by decide +kernel
theorem c_178_2 : cd 178 2 = some (.bipush (9), 2) := by decide +kernel
theorem c_178_4 : cd 178 4 = some (.invokestatic 92, 3) := by decide +kernel
theorem c_178_7 : cd 178 7 = some (.ireturn, 1) := by decide +kernel
def f_Ct_isThing (σ : Mm) (x0 : Int32) : Option Int32 := (f_Ct_isWithin σ x0 (0 : Int32) (9 : Int32)).bind fun v4 => if zB v4 = true then some v4 else none
set_option maxRecDepth 100000 in
set_option maxHeartbeats 4000000 in
theorem t_Ct_isThing_e {X : Xt} {S : Sh} (hS : ShOK S) {d : Nat} (hd : 1 ≤ d + 1) (σ : Mm) (x0 : Int32) : Rf X S (emI σ) (f_Ct_isThing σ x0) (d + 1) 178 0 [.int x0] [] σ := by
  unfold f_Ct_isThing
  refine rf_ild (i := 0) (Or.inr ⟨0, rfl, rfl, rfl⟩) c_178_0 rfl ?_
  refine rf_iconst c_178_1 ki_0 ?_
  refine rf_bipush c_178_2 kb_9 ?_
  refine rf_callI (as := [.int x0, .int (0 : Int32), .int (9 : Int32)]) (kd := 0) c_178_4 rfl (by decide) rfl ml_11_92 (by decide) rfl (rcv_0 rfl) (Nat.zero_le _) rfl rfl (t_Ct_isWithin hS (by omega) σ x0 (0 : Int32) (9 : Int32)) (fun v4 => ?_)
  refine rf_ite (fun hq7 => ?_) (fun _ => rf_none)
  exact rf_ret c_178_7 rfl (zB_n hq7) rfl rfl
theorem t_Ct_isThing {X : Xt} {S : Sh} (hS : ShOK S) {d : Nat} (hd : 1 ≤ d) (σ : Mm) (x0 : Int32) : Rf X S (emI σ) (f_Ct_isThing σ x0) d 178 0 [.int x0] [] σ := by
  obtain ⟨d1, rfl⟩ : ∃ d1, d = d1 + 1 := ⟨d - 1, by omega⟩
  exact t_Ct_isThing_e hS hd σ x0
theorem c_179_0 : cd 179 0 = some (.iload_n 0, 1) := by decide +kernel
theorem c_179_1 : cd 179 1 = some (.iconst (0), 1) := by decide +kernel
theorem c_179_2 : cd 179 2 = some (.iconst (4), 1) := by decide +kernel
theorem c_179_3 : cd 179 3 = some (.invokestatic 92, 3) := by decide +kernel
theorem c_179_6 : cd 179 6 = some (.ireturn, 1) := by decide +kernel
def f_Ct_isKind (σ : Mm) (x0 : Int32) : Option Int32 := (f_Ct_isWithin σ x0 (0 : Int32) (4 : Int32)).bind fun v3 => if zB v3 = true then some v3 else none
set_option maxRecDepth 100000 in
set_option maxHeartbeats 4000000 in
theorem t_Ct_isKind_e {X : Xt} {S : Sh} (hS : ShOK S) {d : Nat} (hd : 1 ≤ d + 1) (σ : Mm) (x0 : Int32) : Rf X S (emI σ) (f_Ct_isKind σ x0) (d + 1) 179 0 [.int x0] [] σ := by
  unfold f_Ct_isKind
  refine rf_ild (i := 0) (Or.inr ⟨0, rfl, rfl, rfl⟩) c_179_0 rfl ?_
  refine rf_iconst c_179_1 ki_0 ?_
  refine rf_iconst c_179_2 ki_4 ?_
  refine rf_callI (as := [.int x0, .int (0 : Int32), .int (4 : Int32)]) (kd := 0) c_179_3 rfl (by decide) rfl ml_11_92 (by decide) rfl (rcv_0 rfl) (Nat.zero_le _) rfl rfl (t_Ct_isWithin hS (by omega) σ x0 (0 : Int32) (4 : Int32)) (fun v3 => ?_)
  refine rf_ite (fun hq6 => ?_) (fun _ => rf_none)
  exact rf_ret c_179_6 rfl (zB_n hq6) rfl rfl
theorem t_Ct_isKind {X : Xt} {S : Sh} (hS : ShOK S) {d : Nat} (hd : 1 ≤ d) (σ : Mm) (x0 : Int32) : Rf X S (emI σ) (f_Ct_isKind σ x0) d 179 0 [.int x0] [] σ := by
  obtain ⟨d1, rfl⟩ : ∃ d1, d = d1 + 1 := ⟨d - 1, by omega⟩
  exact t_Ct_isKind_e hS hd σ x0
theorem c_127_0 : cd 127 0 = some (.iload_n 1, 1) := by decide +kernel
theorem c_127_1 : cd 127 1 = some (.invokestatic 130, 3) := by decide +kernel
theorem c_127_4 : cd 127 4 = some (.ifCond .eq (18), 3) := by decide +kernel
theorem c_127_7 : cd 127 7 = some (.aload_n 0, 1) := by decide +kernel
theorem c_127_8 : cd 127 8 = some (.iload_n 2, 1) := by decide +kernel
theorem c_127_9 : cd 127 9 = some (.invokevirtual 64, 3) := by decide +kernel
theorem c_127_12 : cd 127 12 = some (.ifCond .eq (10), 3) := by decide +kernel
theorem c_127_15 : cd 127 15 = some (.iload_n 3, 1) := by decide +kernel
theorem c_127_16 : cd 127 16 = some (.invokestatic 133, 3) := by decide +kernel
theorem c_127_19 : cd 127 19 = some (.ifCond .ne (6), 3) := by decide +kernel
theorem c_127_22 : cd 127 22 = some (.ldc 72, 2) := by decide +kernel
theorem c_127_24 : cd 127 24 = some (.ireturn, 1) := by decide +kernel
theorem c_127_25 : cd 127 25 = some (.iload 4, 2) := by decide +kernel
theorem c_127_27 : cd 127 27 = some (.iconst (0), 1) := by decide +kernel
theorem c_127_28 : cd 127 28 = some (.sipush (9999), 3) := by decide +kernel
theorem c_127_31 : cd 127 31 = some (.invokestatic 92, 3) := by decide +kernel
theorem c_127_34 : cd 127 34 = some (.ifCond .eq (14), 3) := by decide +kernel
theorem c_127_37 : cd 127 37 = some (.iload 5, 2) := by decide +kernel
theorem c_127_39 : cd 127 39 = some (.iconst (0), 1) := by decide +kernel
theorem c_127_40 : cd 127 40 = some (.bipush (99), 2) := by decide +kernel
theorem c_127_42 : cd 127 42 = some (.invokestatic 92, 3) := by decide +kernel
theorem c_127_45 : cd 127 45 = some (.ifCond .ne (6), 3) := by decide +kernel
theorem c_127_48 : cd 127 48 = some (.ldc 72, 2) := by decide +kernel
theorem c_127_50 : cd 127 50 = some (.ireturn, 1) := by decide +kernel
theorem c_127_51 : cd 127 51 = some (.aload_n 0, 1) := by decide +kernel
theorem c_127_52 : cd 127 52 = some (.getfield 10, 3) := by decide +kernel
theorem c_127_55 : cd 127 55 = some (.getfield 136, 3) := by decide +kernel
theorem c_127_58 : cd 127 58 = some (.bipush (24), 2) := by decide +kernel
theorem c_127_60 : cd 127 60 = some (.if_icmp .lt (6), 3) := by decide +kernel
theorem c_127_63 : cd 127 63 = some (.ldc 91, 2) := by decide +kernel
theorem c_127_65 : cd 127 65 = some (.ireturn, 1) := by decide +kernel
theorem c_127_66 : cd 127 66 = some (.aload_n 0, 1) := by decide +kernel
theorem c_127_67 : cd 127 67 = some (.getfield 10, 3) := by decide +kernel
theorem c_127_70 : cd 127 70 = some (.getfield 139, 3) := by decide +kernel
theorem c_127_73 : cd 127 73 = some (.aload_n 0, 1) := by decide +kernel
theorem c_127_74 : cd 127 74 = some (.getfield 10, 3) := by decide +kernel
theorem c_127_77 : cd 127 77 = some (.getfield 136, 3) := by decide +kernel
theorem c_127_80 : cd 127 80 = some (.aaload, 1) := by decide +kernel
theorem c_127_81 : cd 127 81 = some (.iload_n 1, 1) := by decide +kernel
theorem c_127_82 : cd 127 82 = some (.iload_n 2, 1) := by decide +kernel
theorem c_127_83 : cd 127 83 = some (.iload_n 3, 1) := by decide +kernel
theorem c_127_84 : cd 127 84 = some (.iload 4, 2) := by decide +kernel
theorem c_127_86 : cd 127 86 = some (.iload 5, 2) := by decide +kernel
theorem c_127_88 : cd 127 88 = some (.invokevirtual 143, 3) := by decide +kernel
theorem c_127_91 : cd 127 91 = some (.aload_n 0, 1) := by decide +kernel
theorem c_127_92 : cd 127 92 = some (.getfield 10, 3) := by decide +kernel
theorem c_127_95 : cd 127 95 = some (.dup, 1) := by decide +kernel
theorem c_127_96 : cd 127 96 = some (.getfield 136, 3) := by decide +kernel
theorem c_127_99 : cd 127 99 = some (.iconst (1), 1) := by decide +kernel
theorem c_127_100 : cd 127 100 = some (.iadd, 1) := by decide +kernel
theorem c_127_101 : cd 127 101 = some (.putfield 136, 3) := by decide +kernel
theorem c_127_104 : cd 127 104 = some (.aload_n 0, 1) := by decide +kernel
theorem c_127_105 : cd 127 105 = some (.getfield 10, 3) := by decide +kernel
theorem c_127_108 : cd 127 108 = some (.getfield 136, 3) := by decide +kernel
theorem c_127_111 : cd 127 111 = some (.iconst (1), 1) := by decide +kernel
theorem c_127_112 : cd 127 112 = some (.isub, 1) := by decide +kernel
theorem c_127_113 : cd 127 113 = some (.ireturn, 1) := by decide +kernel
def f_Ct_paper_22 (σ : Mm) : Option (Int32 × Mm) := some ((-1000000001 : Int32), σ)
set_option maxRecDepth 100000 in
set_option maxHeartbeats 4000000 in
theorem t_Ct_paper_22 {X : Xt} {S : Sh} (hS : ShOK S) {d : Nat} (hd : 2 ≤ d + 1) (u0 : Value) (u1 : Value) (u2 : Value) (u3 : Value) (u4 : Value) (u5 : Value) (σ : Mm) : Rf X S emM (f_Ct_paper_22 σ) (d + 1) 127 22 [u0, u1, u2, u3, u4, u5] [] σ := by
  unfold f_Ct_paper_22
  refine rf_ldc (Or.inl ⟨rfl, rfl⟩) c_127_22 rfl kl_11_72 ?_
  exact rf_ret c_127_24 rfl rfl rfl rfl
def f_Ct_paper_48 (σ : Mm) : Option (Int32 × Mm) := some ((-1000000001 : Int32), σ)
set_option maxRecDepth 100000 in
set_option maxHeartbeats 4000000 in
theorem t_Ct_paper_48 {X : Xt} {S : Sh} (hS : ShOK S) {d : Nat} (hd : 2 ≤ d + 1) (u0 : Value) (u1 : Value) (u2 : Value) (u3 : Value) (u4 : Value) (u5 : Value) (σ : Mm) : Rf X S emM (f_Ct_paper_48 σ) (d + 1) 127 48 [u0, u1, u2, u3, u4, u5] [] σ := by
  unfold f_Ct_paper_48
  refine rf_ldc (Or.inl ⟨rfl, rfl⟩) c_127_48 rfl kl_11_72 ?_
  exact rf_ret c_127_50 rfl rfl rfl rfl
def f_Ct_paper (x0 : Nat) (x1 : Int32) (x2 : Int32) (x3 : Int32) (x4 : Int32) (x5 : Int32) (σ : Mm) : Option (Int32 × Mm) := (f_Ct_isKind σ x1).bind fun v1 => (if v1 = 0 then (f_Ct_paper_22  σ) else ((f_Ct_isOffice σ x0 x2).bind fun v9 => (if v9 = 0 then (f_Ct_paper_22  σ) else ((f_Ct_isThing σ x3).bind fun v16 => (if ¬ v16 = 0 then ((f_Ct_isWithin σ x4 (0 : Int32) (9999 : Int32)).bind fun v31 => (if v31 = 0 then (f_Ct_paper_48  σ) else ((f_Ct_isWithin σ x5 (0 : Int32) (99 : Int32)).bind fun v42 => (if ¬ v42 = 0 then (if (σ (rfT x0 0) 10) < (24 : Int32) then (if inbB (σ (rfT x0 0) 10) 24 = true then (f_Pa_begin (rfT (rfT (rfT x0 0) 2) (ix (σ (rfT x0 0) 10))) x1 x2 x3 x4 x5 σ).bind fun v88 => nmM (up2 v88 (rfT x0 0) 10 ((v88 (rfT x0 0) 10) + (1 : Int32))) fun σ101 => some (((σ101 (rfT x0 0) 10) - (1 : Int32)), σ101) else none) else (some ((-1000000003 : Int32), σ))) else (f_Ct_paper_48  σ))))) else (f_Ct_paper_22  σ))))))
set_option maxRecDepth 100000 in
set_option maxHeartbeats 4000000 in
theorem t_Ct_paper_e {X : Xt} {S : Sh} (hS : ShOK S) {d : Nat} (hd : 2 ≤ d + 1) (x0 : Nat) (x1 : Int32) (x2 : Int32) (x3 : Int32) (x4 : Int32) (x5 : Int32) (σ : Mm) (h_x0 : tgT x0 = 11) : Rf X S emM (f_Ct_paper x0 x1 x2 x3 x4 x5 σ) (d + 1) 127 0 [.ref x0, .int x1, .int x2, .int x3, .int x4, .int x5] [] σ := by
  unfold f_Ct_paper
  refine rf_ild (i := 1) (Or.inr ⟨1, rfl, rfl, rfl⟩) c_127_0 rfl ?_
  refine rf_callI (as := [.int x1]) (kd := 0) c_127_1 rfl (by decide) rfl ml_11_130 (by decide) rfl (rcv_0 rfl) (Nat.zero_le _) rfl rfl (t_Ct_isKind hS (by omega) σ x1) (fun v1 => ?_)
  refine rf_ite (fun hc4 => ?_) (fun hc4 => ?_)
  · refine rf_b1t c_127_4 rfl (decide_eq_true hc4) ?_
    exact t_Ct_paper_22 hS hd  (.ref x0) (.int x1) (.int x2) (.int x3) (.int x4) (.int x5) σ
  · refine rf_b1f c_127_4 rfl (decide_eq_false hc4) ?_
    refine rf_ald (i := 0) (Or.inr ⟨0, rfl, rfl, rfl⟩) c_127_7 rfl ?_
    refine rf_ild (i := 2) (Or.inr ⟨2, rfl, rfl, rfl⟩) c_127_8 rfl ?_
    refine rf_callI (as := [.ref x0, .int x2]) (kd := 1) c_127_9 rfl (by decide) rfl ml_11_64 (by decide) rfl (rcv_1 hS rfl rfl h_x0 (by decide)) (Nat.zero_le _) rfl rfl (t_Ct_isOffice hS (by omega) σ x0 x2 h_x0) (fun v9 => ?_)
    refine rf_ite (fun hc12 => ?_) (fun hc12 => ?_)
    · refine rf_b1t c_127_12 rfl (decide_eq_true hc12) ?_
      exact t_Ct_paper_22 hS hd  (.ref x0) (.int x1) (.int x2) (.int x3) (.int x4) (.int x5) σ
    · refine rf_b1f c_127_12 rfl (decide_eq_false hc12) ?_
      refine rf_ild (i := 3) (Or.inr ⟨3, rfl, rfl, rfl⟩) c_127_15 rfl ?_
      refine rf_callI (as := [.int x3]) (kd := 0) c_127_16 rfl (by decide) rfl ml_11_133 (by decide) rfl (rcv_0 rfl) (Nat.zero_le _) rfl rfl (t_Ct_isThing hS (by omega) σ x3) (fun v16 => ?_)
      refine rf_ite (fun hc19 => ?_) (fun hc19 => ?_)
      · refine rf_b1t c_127_19 rfl (decide_eq_true hc19) ?_
        refine rf_ild (i := 4) (Or.inl ⟨rfl, rfl⟩) c_127_25 rfl ?_
        refine rf_iconst c_127_27 ki_0 ?_
        refine rf_sipush c_127_28 ks_9999 ?_
        refine rf_callI (as := [.int x4, .int (0 : Int32), .int (9999 : Int32)]) (kd := 0) c_127_31 rfl (by decide) rfl ml_11_92 (by decide) rfl (rcv_0 rfl) (Nat.zero_le _) rfl rfl (t_Ct_isWithin hS (by omega) σ x4 (0 : Int32) (9999 : Int32)) (fun v31 => ?_)
        refine rf_ite (fun hc34 => ?_) (fun hc34 => ?_)
        · refine rf_b1t c_127_34 rfl (decide_eq_true hc34) ?_
          exact t_Ct_paper_48 hS hd  (.ref x0) (.int x1) (.int x2) (.int x3) (.int x4) (.int x5) σ
        · refine rf_b1f c_127_34 rfl (decide_eq_false hc34) ?_
          refine rf_ild (i := 5) (Or.inl ⟨rfl, rfl⟩) c_127_37 rfl ?_
          refine rf_iconst c_127_39 ki_0 ?_
          refine rf_bipush c_127_40 kb_99 ?_
          refine rf_callI (as := [.int x5, .int (0 : Int32), .int (99 : Int32)]) (kd := 0) c_127_42 rfl (by decide) rfl ml_11_92 (by decide) rfl (rcv_0 rfl) (Nat.zero_le _) rfl rfl (t_Ct_isWithin hS (by omega) σ x5 (0 : Int32) (99 : Int32)) (fun v42 => ?_)
          refine rf_ite (fun hc45 => ?_) (fun hc45 => ?_)
          · refine rf_b1t c_127_45 rfl (decide_eq_true hc45) ?_
            refine rf_ald (i := 0) (Or.inr ⟨0, rfl, rfl, rfl⟩) c_127_51 rfl ?_
            refine rf_getr hS c_127_52 rfl fl_11_10 rfl h_x0 ?_
            refine rf_geti hS c_127_55 rfl fl_11_136 rfl (tf_11_0 h_x0) ?_
            refine rf_bipush c_127_58 kb_24 ?_
            refine rf_ite (fun hc60 => ?_) (fun hc60 => ?_)
            · refine rf_b2t c_127_60 rfl (decide_eq_true hc60) ?_
              refine rf_ald (i := 0) (Or.inr ⟨0, rfl, rfl, rfl⟩) c_127_66 rfl ?_
              refine rf_getr hS c_127_67 rfl fl_11_10 rfl h_x0 ?_
              refine rf_getr hS c_127_70 rfl fl_11_139 rfl (tf_11_0 h_x0) ?_
              refine rf_ald (i := 0) (Or.inr ⟨0, rfl, rfl, rfl⟩) c_127_73 rfl ?_
              refine rf_getr hS c_127_74 rfl fl_11_10 rfl h_x0 ?_
              refine rf_geti hS c_127_77 rfl fl_11_136 rfl (tf_11_0 h_x0) ?_
              refine rf_ite (fun hb80 => ?_) (fun _ => rf_none)
              refine rf_aald hS c_127_80 (by rw [(tf_7_2 (tf_11_0 h_x0))]; decide) (by rw [(tf_7_2 (tf_11_0 h_x0))]; decide) (lf_7_2 (tf_11_0 h_x0)) hb80 ?_
              refine rf_ild (i := 1) (Or.inr ⟨1, rfl, rfl, rfl⟩) c_127_81 rfl ?_
              refine rf_ild (i := 2) (Or.inr ⟨2, rfl, rfl, rfl⟩) c_127_82 rfl ?_
              refine rf_ild (i := 3) (Or.inr ⟨3, rfl, rfl, rfl⟩) c_127_83 rfl ?_
              refine rf_ild (i := 4) (Or.inl ⟨rfl, rfl⟩) c_127_84 rfl ?_
              refine rf_ild (i := 5) (Or.inl ⟨rfl, rfl⟩) c_127_86 rfl ?_
              refine rf_callV (as := [.ref (rfT (rfT (rfT x0 0) 2) (ix (σ (rfT x0 0) 10))), .int x1, .int x2, .int x3, .int x4, .int x5]) (kd := 1) c_127_88 rfl (by decide) rfl ml_11_143 (by decide) rfl (rcv_1 hS rfl rfl (te_33 (tf_7_2 (tf_11_0 h_x0)) hb80) (by decide)) (Nat.zero_le _) rfl rfl (t_Pa_begin hS (by omega) (rfT (rfT (rfT x0 0) 2) (ix (σ (rfT x0 0) 10))) x1 x2 x3 x4 x5 σ (te_33 (tf_7_2 (tf_11_0 h_x0)) hb80)) (fun v88 => ?_)
              refine rf_ald (i := 0) (Or.inr ⟨0, rfl, rfl, rfl⟩) c_127_91 rfl ?_
              refine rf_getr hS c_127_92 rfl fl_11_10 rfl h_x0 ?_
              refine rf_dup c_127_95 rfl ?_
              refine rf_geti hS c_127_96 rfl fl_11_136 rfl (tf_11_0 h_x0) ?_
              refine rf_iconst c_127_99 ki_1 ?_
              refine rf_iadd c_127_100 ?_
              refine rf_puti hS c_127_101 rfl fl_11_136 rfl rfl rfl rfl (tf_11_0 h_x0) ?_
              refine rf_nm (fun σ101 => ?_)
              refine rf_ald (i := 0) (Or.inr ⟨0, rfl, rfl, rfl⟩) c_127_104 rfl ?_
              refine rf_getr hS c_127_105 rfl fl_11_10 rfl h_x0 ?_
              refine rf_geti hS c_127_108 rfl fl_11_136 rfl (tf_11_0 h_x0) ?_
              refine rf_iconst c_127_111 ki_1 ?_
              refine rf_isub c_127_112 ?_
              exact rf_ret c_127_113 rfl rfl rfl rfl
            · refine rf_b2f c_127_60 rfl (decide_eq_false hc60) ?_
              refine rf_ldc (Or.inl ⟨rfl, rfl⟩) c_127_63 rfl kl_11_91 ?_
              exact rf_ret c_127_65 rfl rfl rfl rfl
          · refine rf_b1f c_127_45 rfl (decide_eq_false hc45) ?_
            exact t_Ct_paper_48 hS hd  (.ref x0) (.int x1) (.int x2) (.int x3) (.int x4) (.int x5) σ
      · refine rf_b1f c_127_19 rfl (decide_eq_false hc19) ?_
        exact t_Ct_paper_22 hS hd  (.ref x0) (.int x1) (.int x2) (.int x3) (.int x4) (.int x5) σ
theorem t_Ct_paper {X : Xt} {S : Sh} (hS : ShOK S) {d : Nat} (hd : 2 ≤ d) (x0 : Nat) (x1 : Int32) (x2 : Int32) (x3 : Int32) (x4 : Int32) (x5 : Int32) (σ : Mm) (h_x0 : tgT x0 = 11) : Rf X S emM (f_Ct_paper x0 x1 x2 x3 x4 x5 σ) d 127 0 [.ref x0, .int x1, .int x2, .int x3, .int x4, .int x5] [] σ := by
  obtain ⟨d1, rfl⟩ : ∃ d1, d = d1 + 1 := ⟨d - 1, by omega⟩
  exact t_Ct_paper_e hS hd x0 x1 x2 x3 x4 x5 σ h_x0
theorem c_184_0 : cd 184 0 = some (.iload_n 1, 1) := by decide +kernel
theorem c_184_1 : cd 184 1 = some (.iconst (0), 1) := by decide +kernel
theorem c_184_2 : cd 184 2 = some (.aload_n 0, 1) := by decide +kernel
theorem c_184_3 : cd 184 3 = some (.getfield 10, 3) := by decide +kernel
theorem c_184_6 : cd 184 6 = some (.getfield 136, 3) := by decide +kernel
theorem c_184_9 : cd 184 9 = some (.iconst (1), 1) := by decide +kernel
theorem c_184_10 : cd 184 10 = some (.isub, 1) := by decide +kernel
theorem c_184_11 : cd 184 11 = some (.invokestatic 92, 3) := by decide +kernel
theorem c_184_14 : cd 184 14 = some (.ireturn, 1) := by decide +kernel
def f_Ct_isPaper (σ : Mm) (x0 : Nat) (x1 : Int32) : Option Int32 := (f_Ct_isWithin σ x1 (0 : Int32) ((σ (rfT x0 0) 10) - (1 : Int32))).bind fun v11 => if zB v11 = true then some v11 else none
set_option maxRecDepth 100000 in
set_option maxHeartbeats 4000000 in
theorem t_Ct_isPaper_e {X : Xt} {S : Sh} (hS : ShOK S) {d : Nat} (hd : 1 ≤ d + 1) (σ : Mm) (x0 : Nat) (x1 : Int32) (h_x0 : tgT x0 = 11) : Rf X S (emI σ) (f_Ct_isPaper σ x0 x1) (d + 1) 184 0 [.ref x0, .int x1] [] σ := by
  unfold f_Ct_isPaper
  refine rf_ild (i := 1) (Or.inr ⟨1, rfl, rfl, rfl⟩) c_184_0 rfl ?_
  refine rf_iconst c_184_1 ki_0 ?_
  refine rf_ald (i := 0) (Or.inr ⟨0, rfl, rfl, rfl⟩) c_184_2 rfl ?_
  refine rf_getr hS c_184_3 rfl fl_11_10 rfl h_x0 ?_
  refine rf_geti hS c_184_6 rfl fl_11_136 rfl (tf_11_0 h_x0) ?_
  refine rf_iconst c_184_9 ki_1 ?_
  refine rf_isub c_184_10 ?_
  refine rf_callI (as := [.int x1, .int (0 : Int32), .int ((σ (rfT x0 0) 10) - (1 : Int32))]) (kd := 0) c_184_11 rfl (by decide) rfl ml_11_92 (by decide) rfl (rcv_0 rfl) (Nat.zero_le _) rfl rfl (t_Ct_isWithin hS (by omega) σ x1 (0 : Int32) ((σ (rfT x0 0) 10) - (1 : Int32))) (fun v11 => ?_)
  refine rf_ite (fun hq14 => ?_) (fun _ => rf_none)
  exact rf_ret c_184_14 rfl (zB_n hq14) rfl rfl
theorem t_Ct_isPaper {X : Xt} {S : Sh} (hS : ShOK S) {d : Nat} (hd : 1 ≤ d) (σ : Mm) (x0 : Nat) (x1 : Int32) (h_x0 : tgT x0 = 11) : Rf X S (emI σ) (f_Ct_isPaper σ x0 x1) d 184 0 [.ref x0, .int x1] [] σ := by
  obtain ⟨d1, rfl⟩ : ∃ d1, d = d1 + 1 := ⟨d - 1, by omega⟩
  exact t_Ct_isPaper_e hS hd σ x0 x1 h_x0
theorem c_128_0 : cd 128 0 = some (.aload_n 0, 1) := by decide +kernel
theorem c_128_1 : cd 128 1 = some (.iload_n 1, 1) := by decide +kernel
theorem c_128_2 : cd 128 2 = some (.invokevirtual 149, 3) := by decide +kernel
theorem c_128_5 : cd 128 5 = some (.ifCond .eq (13), 3) := by decide +kernel
theorem c_128_8 : cd 128 8 = some (.iload_n 2, 1) := by decide +kernel
theorem c_128_9 : cd 128 9 = some (.iconst (0), 1) := by decide +kernel
theorem c_128_10 : cd 128 10 = some (.bipush (15), 2) := by decide +kernel
theorem c_128_12 : cd 128 12 = some (.invokestatic 92, 3) := by decide +kernel
theorem c_128_15 : cd 128 15 = some (.ifCond .ne (6), 3) := by decide +kernel
theorem c_128_18 : cd 128 18 = some (.ldc 72, 2) := by decide +kernel
theorem c_128_20 : cd 128 20 = some (.ireturn, 1) := by decide +kernel
theorem c_128_21 : cd 128 21 = some (.aload_n 0, 1) := by decide +kernel
theorem c_128_22 : cd 128 22 = some (.getfield 10, 3) := by decide +kernel
theorem c_128_25 : cd 128 25 = some (.getfield 139, 3) := by decide +kernel
theorem c_128_28 : cd 128 28 = some (.iload_n 1, 1) := by decide +kernel
theorem c_128_29 : cd 128 29 = some (.aaload, 1) := by decide +kernel
theorem c_128_30 : cd 128 30 = some (.astore_n 3, 1) := by decide +kernel
theorem c_128_31 : cd 128 31 = some (.iload_n 2, 1) := by decide +kernel
theorem c_128_32 : cd 128 32 = some (.bipush (9), 2) := by decide +kernel
theorem c_128_34 : cd 128 34 = some (.if_icmp .ge (11), 3) := by decide +kernel
theorem c_128_37 : cd 128 37 = some (.aload_n 3, 1) := by decide +kernel
theorem c_128_38 : cd 128 38 = some (.iload_n 2, 1) := by decide +kernel
theorem c_128_39 : cd 128 39 = some (.invokevirtual 152, 3) := by decide +kernel
theorem c_128_42 : cd 128 42 = some (.goto (8), 3) := by decide +kernel
theorem c_128_45 : cd 128 45 = some (.aload_n 3, 1) := by decide +kernel
theorem c_128_46 : cd 128 46 = some (.iload_n 2, 1) := by decide +kernel
theorem c_128_47 : cd 128 47 = some (.invokevirtual 155, 3) := by decide +kernel
theorem c_128_50 : cd 128 50 = some (.ireturn, 1) := by decide +kernel
def f_Ct_told_18 (σ : Mm) : Option Int32 := some (-1000000001 : Int32)
set_option maxRecDepth 100000 in
set_option maxHeartbeats 4000000 in
theorem t_Ct_told_18 {X : Xt} {S : Sh} (hS : ShOK S) {d : Nat} (hd : 10 ≤ d + 1) (σ : Mm) (u0 : Value) (u1 : Value) (u2 : Value) (u3 : Value) : Rf X S (emI σ) (f_Ct_told_18 σ) (d + 1) 128 18 [u0, u1, u2, u3] [] σ := by
  unfold f_Ct_told_18
  refine rf_ldc (Or.inl ⟨rfl, rfl⟩) c_128_18 rfl kl_11_72 ?_
  exact rf_ret c_128_20 rfl rfl rfl rfl
def f_Ct_told_50 (σ : Mm) (y0 : Int32) : Option Int32 := some y0
set_option maxRecDepth 100000 in
set_option maxHeartbeats 4000000 in
theorem t_Ct_told_50 {X : Xt} {S : Sh} (hS : ShOK S) {d : Nat} (hd : 10 ≤ d + 1) (σ : Mm) (y0 : Int32) (u0 : Value) (u1 : Value) (u2 : Value) (u3 : Value) : Rf X S (emI σ) (f_Ct_told_50 σ y0) (d + 1) 128 50 [u0, u1, u2, u3] [.int y0] σ := by
  unfold f_Ct_told_50
  exact rf_ret c_128_50 rfl rfl rfl rfl
def f_Ct_told (σ : Mm) (x0 : Nat) (x1 : Int32) (x2 : Int32) : Option Int32 := (f_Ct_isPaper σ x0 x1).bind fun v2 => (if v2 = 0 then (f_Ct_told_18 σ ) else ((f_Ct_isWithin σ x2 (0 : Int32) (15 : Int32)).bind fun v12 => (if ¬ v12 = 0 then (if inbB x1 24 = true then (if (9 : Int32) ≤ x2 then ((f_Pa_ofItsCourse σ (rfT (rfT (rfT x0 0) 2) (ix x1)) x2).bind fun v47 => f_Ct_told_50 σ v47) else ((f_Pa_ofItself σ (rfT (rfT (rfT x0 0) 2) (ix x1)) x2).bind fun v39 => f_Ct_told_50 σ v39)) else none) else (f_Ct_told_18 σ ))))
set_option maxRecDepth 100000 in
set_option maxHeartbeats 4000000 in
theorem t_Ct_told_e {X : Xt} {S : Sh} (hS : ShOK S) {d : Nat} (hd : 10 ≤ d + 1) (σ : Mm) (x0 : Nat) (x1 : Int32) (x2 : Int32) (h_x0 : tgT x0 = 11) : Rf X S (emI σ) (f_Ct_told σ x0 x1 x2) (d + 1) 128 0 [.ref x0, .int x1, .int x2, unset0] [] σ := by
  unfold f_Ct_told
  refine rf_ald (i := 0) (Or.inr ⟨0, rfl, rfl, rfl⟩) c_128_0 rfl ?_
  refine rf_ild (i := 1) (Or.inr ⟨1, rfl, rfl, rfl⟩) c_128_1 rfl ?_
  refine rf_callI (as := [.ref x0, .int x1]) (kd := 1) c_128_2 rfl (by decide) rfl ml_11_149 (by decide) rfl (rcv_1 hS rfl rfl h_x0 (by decide)) (Nat.zero_le _) rfl rfl (t_Ct_isPaper hS (by omega) σ x0 x1 h_x0) (fun v2 => ?_)
  refine rf_ite (fun hc5 => ?_) (fun hc5 => ?_)
  · refine rf_b1t c_128_5 rfl (decide_eq_true hc5) ?_
    exact t_Ct_told_18 hS hd σ  (.ref x0) (.int x1) (.int x2) (unset0)
  · refine rf_b1f c_128_5 rfl (decide_eq_false hc5) ?_
    refine rf_ild (i := 2) (Or.inr ⟨2, rfl, rfl, rfl⟩) c_128_8 rfl ?_
    refine rf_iconst c_128_9 ki_0 ?_
    refine rf_bipush c_128_10 kb_15 ?_
    refine rf_callI (as := [.int x2, .int (0 : Int32), .int (15 : Int32)]) (kd := 0) c_128_12 rfl (by decide) rfl ml_11_92 (by decide) rfl (rcv_0 rfl) (Nat.zero_le _) rfl rfl (t_Ct_isWithin hS (by omega) σ x2 (0 : Int32) (15 : Int32)) (fun v12 => ?_)
    refine rf_ite (fun hc15 => ?_) (fun hc15 => ?_)
    · refine rf_b1t c_128_15 rfl (decide_eq_true hc15) ?_
      refine rf_ald (i := 0) (Or.inr ⟨0, rfl, rfl, rfl⟩) c_128_21 rfl ?_
      refine rf_getr hS c_128_22 rfl fl_11_10 rfl h_x0 ?_
      refine rf_getr hS c_128_25 rfl fl_11_139 rfl (tf_11_0 h_x0) ?_
      refine rf_ild (i := 1) (Or.inr ⟨1, rfl, rfl, rfl⟩) c_128_28 rfl ?_
      refine rf_ite (fun hb29 => ?_) (fun _ => rf_none)
      refine rf_aald hS c_128_29 (by rw [(tf_7_2 (tf_11_0 h_x0))]; decide) (by rw [(tf_7_2 (tf_11_0 h_x0))]; decide) (lf_7_2 (tf_11_0 h_x0)) hb29 ?_
      refine rf_ast (i := 3) (Or.inr ⟨3, rfl, rfl, rfl⟩) c_128_30 (Nat.le_of_ble_eq_true rfl) rfl ?_
      refine rf_ild (i := 2) (Or.inr ⟨2, rfl, rfl, rfl⟩) c_128_31 rfl ?_
      refine rf_bipush c_128_32 kb_9 ?_
      refine rf_ite (fun hc34 => ?_) (fun hc34 => ?_)
      · refine rf_b2t c_128_34 rfl (decide_eq_true hc34) ?_
        refine rf_ald (i := 3) (Or.inr ⟨3, rfl, rfl, rfl⟩) c_128_45 rfl ?_
        refine rf_ild (i := 2) (Or.inr ⟨2, rfl, rfl, rfl⟩) c_128_46 rfl ?_
        refine rf_callI (as := [.ref (rfT (rfT (rfT x0 0) 2) (ix x1)), .int x2]) (kd := 1) c_128_47 rfl (by decide) rfl ml_11_155 (by decide) rfl (rcv_1 hS rfl rfl (te_33 (tf_7_2 (tf_11_0 h_x0)) hb29) (by decide)) (Nat.zero_le _) rfl rfl (t_Pa_ofItsCourse hS (by omega) σ (rfT (rfT (rfT x0 0) 2) (ix x1)) x2 (te_33 (tf_7_2 (tf_11_0 h_x0)) hb29)) (fun v47 => ?_)
        exact t_Ct_told_50 hS hd σ  v47 (.ref x0) (.int x1) (.int x2) (.ref (rfT (rfT (rfT x0 0) 2) (ix x1)))
      · refine rf_b2f c_128_34 rfl (decide_eq_false hc34) ?_
        refine rf_ald (i := 3) (Or.inr ⟨3, rfl, rfl, rfl⟩) c_128_37 rfl ?_
        refine rf_ild (i := 2) (Or.inr ⟨2, rfl, rfl, rfl⟩) c_128_38 rfl ?_
        refine rf_callI (as := [.ref (rfT (rfT (rfT x0 0) 2) (ix x1)), .int x2]) (kd := 1) c_128_39 rfl (by decide) rfl ml_11_152 (by decide) rfl (rcv_1 hS rfl rfl (te_33 (tf_7_2 (tf_11_0 h_x0)) hb29) (by decide)) (Nat.zero_le _) rfl rfl (t_Pa_ofItself hS (by omega) σ (rfT (rfT (rfT x0 0) 2) (ix x1)) x2 (te_33 (tf_7_2 (tf_11_0 h_x0)) hb29)) (fun v39 => ?_)
        refine rf_goto c_128_42 rfl ?_
        exact t_Ct_told_50 hS hd σ  v39 (.ref x0) (.int x1) (.int x2) (.ref (rfT (rfT (rfT x0 0) 2) (ix x1)))
    · refine rf_b1f c_128_15 rfl (decide_eq_false hc15) ?_
      exact t_Ct_told_18 hS hd σ  (.ref x0) (.int x1) (.int x2) (unset0)
theorem t_Ct_told {X : Xt} {S : Sh} (hS : ShOK S) {d : Nat} (hd : 10 ≤ d) (σ : Mm) (x0 : Nat) (x1 : Int32) (x2 : Int32) (h_x0 : tgT x0 = 11) : Rf X S (emI σ) (f_Ct_told σ x0 x1 x2) d 128 0 [.ref x0, .int x1, .int x2, unset0] [] σ := by
  obtain ⟨d1, rfl⟩ : ∃ d1, d = d1 + 1 := ⟨d - 1, by omega⟩
  exact t_Ct_told_e hS hd σ x0 x1 x2 h_x0
theorem c_129_0 : cd 129 0 = some (.aload_n 0, 1) := by decide +kernel
theorem c_129_1 : cd 129 1 = some (.iload_n 1, 1) := by decide +kernel
theorem c_129_2 : cd 129 2 = some (.invokevirtual 149, 3) := by decide +kernel
theorem c_129_5 : cd 129 5 = some (.ifCond .eq (10), 3) := by decide +kernel
theorem c_129_8 : cd 129 8 = some (.iload_n 2, 1) := by decide +kernel
theorem c_129_9 : cd 129 9 = some (.invokestatic 130, 3) := by decide +kernel
theorem c_129_12 : cd 129 12 = some (.ifCond .ne (6), 3) := by decide +kernel
theorem c_129_15 : cd 129 15 = some (.ldc 72, 2) := by decide +kernel
theorem c_129_17 : cd 129 17 = some (.ireturn, 1) := by decide +kernel
theorem c_129_18 : cd 129 18 = some (.aload_n 0, 1) := by decide +kernel
theorem c_129_19 : cd 129 19 = some (.getfield 10, 3) := by decide +kernel
theorem c_129_22 : cd 129 22 = some (.getfield 139, 3) := by decide +kernel
theorem c_129_25 : cd 129 25 = some (.iload_n 1, 1) := by decide +kernel
theorem c_129_26 : cd 129 26 = some (.aaload, 1) := by decide +kernel
theorem c_129_27 : cd 129 27 = some (.astore_n 3, 1) := by decide +kernel
theorem c_129_28 : cd 129 28 = some (.aload_n 3, 1) := by decide +kernel
theorem c_129_29 : cd 129 29 = some (.iload_n 2, 1) := by decide +kernel
theorem c_129_30 : cd 129 30 = some (.invokevirtual 158, 3) := by decide +kernel
theorem c_129_33 : cd 129 33 = some (.ifCond .eq (10), 3) := by decide +kernel
theorem c_129_36 : cd 129 36 = some (.aload_n 3, 1) := by decide +kernel
theorem c_129_37 : cd 129 37 = some (.getfield 161, 3) := by decide +kernel
theorem c_129_40 : cd 129 40 = some (.goto (5), 3) := by decide +kernel
theorem c_129_43 : cd 129 43 = some (.ldc 164, 2) := by decide +kernel
theorem c_129_45 : cd 129 45 = some (.ireturn, 1) := by decide +kernel
def f_Ct_as_15 (σ : Mm) : Option Int32 := some (-1000000001 : Int32)
set_option maxRecDepth 100000 in
set_option maxHeartbeats 4000000 in
theorem t_Ct_as_15 {X : Xt} {S : Sh} (hS : ShOK S) {d : Nat} (hd : 2 ≤ d + 1) (σ : Mm) (u0 : Value) (u1 : Value) (u2 : Value) (u3 : Value) : Rf X S (emI σ) (f_Ct_as_15 σ) (d + 1) 129 15 [u0, u1, u2, u3] [] σ := by
  unfold f_Ct_as_15
  refine rf_ldc (Or.inl ⟨rfl, rfl⟩) c_129_15 rfl kl_11_72 ?_
  exact rf_ret c_129_17 rfl rfl rfl rfl
def f_Ct_as_45 (σ : Mm) (y0 : Int32) : Option Int32 := some y0
set_option maxRecDepth 100000 in
set_option maxHeartbeats 4000000 in
theorem t_Ct_as_45 {X : Xt} {S : Sh} (hS : ShOK S) {d : Nat} (hd : 2 ≤ d + 1) (σ : Mm) (y0 : Int32) (u0 : Value) (u1 : Value) (u2 : Value) (u3 : Value) : Rf X S (emI σ) (f_Ct_as_45 σ y0) (d + 1) 129 45 [u0, u1, u2, u3] [.int y0] σ := by
  unfold f_Ct_as_45
  exact rf_ret c_129_45 rfl rfl rfl rfl
def f_Ct_as (σ : Mm) (x0 : Nat) (x1 : Int32) (x2 : Int32) : Option Int32 := (f_Ct_isPaper σ x0 x1).bind fun v2 => (if v2 = 0 then (f_Ct_as_15 σ ) else ((f_Ct_isKind σ x2).bind fun v9 => (if ¬ v9 = 0 then (if inbB x1 24 = true then (f_Pa_isOfKind σ (rfT (rfT (rfT x0 0) 2) (ix x1)) x2).bind fun v30 => (if v30 = 0 then (f_Ct_as_45 σ (-1000000012 : Int32)) else (f_Ct_as_45 σ (σ (rfT (rfT (rfT x0 0) 2) (ix x1)) 3))) else none) else (f_Ct_as_15 σ ))))
set_option maxRecDepth 100000 in
set_option maxHeartbeats 4000000 in
theorem t_Ct_as_e {X : Xt} {S : Sh} (hS : ShOK S) {d : Nat} (hd : 2 ≤ d + 1) (σ : Mm) (x0 : Nat) (x1 : Int32) (x2 : Int32) (h_x0 : tgT x0 = 11) : Rf X S (emI σ) (f_Ct_as σ x0 x1 x2) (d + 1) 129 0 [.ref x0, .int x1, .int x2, unset0] [] σ := by
  unfold f_Ct_as
  refine rf_ald (i := 0) (Or.inr ⟨0, rfl, rfl, rfl⟩) c_129_0 rfl ?_
  refine rf_ild (i := 1) (Or.inr ⟨1, rfl, rfl, rfl⟩) c_129_1 rfl ?_
  refine rf_callI (as := [.ref x0, .int x1]) (kd := 1) c_129_2 rfl (by decide) rfl ml_11_149 (by decide) rfl (rcv_1 hS rfl rfl h_x0 (by decide)) (Nat.zero_le _) rfl rfl (t_Ct_isPaper hS (by omega) σ x0 x1 h_x0) (fun v2 => ?_)
  refine rf_ite (fun hc5 => ?_) (fun hc5 => ?_)
  · refine rf_b1t c_129_5 rfl (decide_eq_true hc5) ?_
    exact t_Ct_as_15 hS hd σ  (.ref x0) (.int x1) (.int x2) (unset0)
  · refine rf_b1f c_129_5 rfl (decide_eq_false hc5) ?_
    refine rf_ild (i := 2) (Or.inr ⟨2, rfl, rfl, rfl⟩) c_129_8 rfl ?_
    refine rf_callI (as := [.int x2]) (kd := 0) c_129_9 rfl (by decide) rfl ml_11_130 (by decide) rfl (rcv_0 rfl) (Nat.zero_le _) rfl rfl (t_Ct_isKind hS (by omega) σ x2) (fun v9 => ?_)
    refine rf_ite (fun hc12 => ?_) (fun hc12 => ?_)
    · refine rf_b1t c_129_12 rfl (decide_eq_true hc12) ?_
      refine rf_ald (i := 0) (Or.inr ⟨0, rfl, rfl, rfl⟩) c_129_18 rfl ?_
      refine rf_getr hS c_129_19 rfl fl_11_10 rfl h_x0 ?_
      refine rf_getr hS c_129_22 rfl fl_11_139 rfl (tf_11_0 h_x0) ?_
      refine rf_ild (i := 1) (Or.inr ⟨1, rfl, rfl, rfl⟩) c_129_25 rfl ?_
      refine rf_ite (fun hb26 => ?_) (fun _ => rf_none)
      refine rf_aald hS c_129_26 (by rw [(tf_7_2 (tf_11_0 h_x0))]; decide) (by rw [(tf_7_2 (tf_11_0 h_x0))]; decide) (lf_7_2 (tf_11_0 h_x0)) hb26 ?_
      refine rf_ast (i := 3) (Or.inr ⟨3, rfl, rfl, rfl⟩) c_129_27 (Nat.le_of_ble_eq_true rfl) rfl ?_
      refine rf_ald (i := 3) (Or.inr ⟨3, rfl, rfl, rfl⟩) c_129_28 rfl ?_
      refine rf_ild (i := 2) (Or.inr ⟨2, rfl, rfl, rfl⟩) c_129_29 rfl ?_
      refine rf_callI (as := [.ref (rfT (rfT (rfT x0 0) 2) (ix x1)), .int x2]) (kd := 1) c_129_30 rfl (by decide) rfl ml_11_158 (by decide) rfl (rcv_1 hS rfl rfl (te_33 (tf_7_2 (tf_11_0 h_x0)) hb26) (by decide)) (Nat.zero_le _) rfl rfl (t_Pa_isOfKind hS (by omega) σ (rfT (rfT (rfT x0 0) 2) (ix x1)) x2 (te_33 (tf_7_2 (tf_11_0 h_x0)) hb26)) (fun v30 => ?_)
      refine rf_ite (fun hc33 => ?_) (fun hc33 => ?_)
      · refine rf_b1t c_129_33 rfl (decide_eq_true hc33) ?_
        refine rf_ldc (Or.inl ⟨rfl, rfl⟩) c_129_43 rfl kl_11_164 ?_
        exact t_Ct_as_45 hS hd σ  (-1000000012 : Int32) (.ref x0) (.int x1) (.int x2) (.ref (rfT (rfT (rfT x0 0) 2) (ix x1)))
      · refine rf_b1f c_129_33 rfl (decide_eq_false hc33) ?_
        refine rf_ald (i := 3) (Or.inr ⟨3, rfl, rfl, rfl⟩) c_129_36 rfl ?_
        refine rf_geti hS c_129_37 rfl fl_11_161 rfl (te_33 (tf_7_2 (tf_11_0 h_x0)) hb26) ?_
        refine rf_goto c_129_40 rfl ?_
        exact t_Ct_as_45 hS hd σ  (σ (rfT (rfT (rfT x0 0) 2) (ix x1)) 3) (.ref x0) (.int x1) (.int x2) (.ref (rfT (rfT (rfT x0 0) 2) (ix x1)))
    · refine rf_b1f c_129_12 rfl (decide_eq_false hc12) ?_
      exact t_Ct_as_15 hS hd σ  (.ref x0) (.int x1) (.int x2) (unset0)
theorem t_Ct_as {X : Xt} {S : Sh} (hS : ShOK S) {d : Nat} (hd : 2 ≤ d) (σ : Mm) (x0 : Nat) (x1 : Int32) (x2 : Int32) (h_x0 : tgT x0 = 11) : Rf X S (emI σ) (f_Ct_as σ x0 x1 x2) d 129 0 [.ref x0, .int x1, .int x2, unset0] [] σ := by
  obtain ⟨d1, rfl⟩ : ∃ d1, d = d1 + 1 := ⟨d - 1, by omega⟩
  exact t_Ct_as_e hS hd σ x0 x1 x2 h_x0
theorem c_130_0 : cd 130 0 = some (.aload_n 0, 1) := by decide +kernel
theorem c_130_1 : cd 130 1 = some (.iload_n 1, 1) := by decide +kernel
theorem c_130_2 : cd 130 2 = some (.invokevirtual 149, 3) := by decide +kernel
theorem c_130_5 : cd 130 5 = some (.ifCond .ne (6), 3) := by decide +kernel
theorem c_130_8 : cd 130 8 = some (.ldc 72, 2) := by decide +kernel
theorem c_130_10 : cd 130 10 = some (.ireturn, 1) := by decide +kernel
theorem c_130_11 : cd 130 11 = some (.aload_n 0, 1) := by decide +kernel
theorem c_130_12 : cd 130 12 = some (.getfield 10, 3) := by decide +kernel
theorem c_130_15 : cd 130 15 = some (.getfield 139, 3) := by decide +kernel
theorem c_130_18 : cd 130 18 = some (.iload_n 1, 1) := by decide +kernel
theorem c_130_19 : cd 130 19 = some (.aaload, 1) := by decide +kernel
theorem c_130_20 : cd 130 20 = some (.astore_n 2, 1) := by decide +kernel
theorem c_130_21 : cd 130 21 = some (.aload_n 2, 1) := by decide +kernel
theorem c_130_22 : cd 130 22 = some (.invokevirtual 165, 3) := by decide +kernel
theorem c_130_25 : cd 130 25 = some (.ifCond .eq (6), 3) := by decide +kernel
theorem c_130_28 : cd 130 28 = some (.ldc 169, 2) := by decide +kernel
theorem c_130_30 : cd 130 30 = some (.ireturn, 1) := by decide +kernel
theorem c_130_31 : cd 130 31 = some (.aload_n 2, 1) := by decide +kernel
theorem c_130_32 : cd 130 32 = some (.aload_n 0, 1) := by decide +kernel
theorem c_130_33 : cd 130 33 = some (.getfield 10, 3) := by decide +kernel
theorem c_130_36 : cd 130 36 = some (.getfield 73, 3) := by decide +kernel
theorem c_130_39 : cd 130 39 = some (.putfield 170, 3) := by decide +kernel
theorem c_130_42 : cd 130 42 = some (.iconst (1), 1) := by decide +kernel
theorem c_130_43 : cd 130 43 = some (.ireturn, 1) := by decide +kernel
def f_Ct_send (x0 : Nat) (x1 : Int32) (σ : Mm) : Option (Int32 × Mm) := (f_Ct_isPaper σ x0 x1).bind fun v2 => (if ¬ v2 = 0 then (if inbB x1 24 = true then (f_Pa_isSent σ (rfT (rfT (rfT x0 0) 2) (ix x1))).bind fun v22 => (if v22 = 0 then (nmM (up2 σ (rfT (rfT (rfT x0 0) 2) (ix x1)) 5 (σ (rfT x0 0) 8)) fun σ39 => some ((1 : Int32), σ39)) else (some ((-1000000002 : Int32), σ))) else none) else (some ((-1000000001 : Int32), σ)))
set_option maxRecDepth 100000 in
set_option maxHeartbeats 4000000 in
theorem t_Ct_send_e {X : Xt} {S : Sh} (hS : ShOK S) {d : Nat} (hd : 2 ≤ d + 1) (x0 : Nat) (x1 : Int32) (σ : Mm) (h_x0 : tgT x0 = 11) : Rf X S emM (f_Ct_send x0 x1 σ) (d + 1) 130 0 [.ref x0, .int x1, unset0] [] σ := by
  unfold f_Ct_send
  refine rf_ald (i := 0) (Or.inr ⟨0, rfl, rfl, rfl⟩) c_130_0 rfl ?_
  refine rf_ild (i := 1) (Or.inr ⟨1, rfl, rfl, rfl⟩) c_130_1 rfl ?_
  refine rf_callI (as := [.ref x0, .int x1]) (kd := 1) c_130_2 rfl (by decide) rfl ml_11_149 (by decide) rfl (rcv_1 hS rfl rfl h_x0 (by decide)) (Nat.zero_le _) rfl rfl (t_Ct_isPaper hS (by omega) σ x0 x1 h_x0) (fun v2 => ?_)
  refine rf_ite (fun hc5 => ?_) (fun hc5 => ?_)
  · refine rf_b1t c_130_5 rfl (decide_eq_true hc5) ?_
    refine rf_ald (i := 0) (Or.inr ⟨0, rfl, rfl, rfl⟩) c_130_11 rfl ?_
    refine rf_getr hS c_130_12 rfl fl_11_10 rfl h_x0 ?_
    refine rf_getr hS c_130_15 rfl fl_11_139 rfl (tf_11_0 h_x0) ?_
    refine rf_ild (i := 1) (Or.inr ⟨1, rfl, rfl, rfl⟩) c_130_18 rfl ?_
    refine rf_ite (fun hb19 => ?_) (fun _ => rf_none)
    refine rf_aald hS c_130_19 (by rw [(tf_7_2 (tf_11_0 h_x0))]; decide) (by rw [(tf_7_2 (tf_11_0 h_x0))]; decide) (lf_7_2 (tf_11_0 h_x0)) hb19 ?_
    refine rf_ast (i := 2) (Or.inr ⟨2, rfl, rfl, rfl⟩) c_130_20 (Nat.le_of_ble_eq_true rfl) rfl ?_
    refine rf_ald (i := 2) (Or.inr ⟨2, rfl, rfl, rfl⟩) c_130_21 rfl ?_
    refine rf_callI (as := [.ref (rfT (rfT (rfT x0 0) 2) (ix x1))]) (kd := 1) c_130_22 rfl (by decide) rfl ml_11_165 (by decide) rfl (rcv_1 hS rfl rfl (te_33 (tf_7_2 (tf_11_0 h_x0)) hb19) (by decide)) (Nat.zero_le _) rfl rfl (t_Pa_isSent hS (by omega) σ (rfT (rfT (rfT x0 0) 2) (ix x1)) (te_33 (tf_7_2 (tf_11_0 h_x0)) hb19)) (fun v22 => ?_)
    refine rf_ite (fun hc25 => ?_) (fun hc25 => ?_)
    · refine rf_b1t c_130_25 rfl (decide_eq_true hc25) ?_
      refine rf_ald (i := 2) (Or.inr ⟨2, rfl, rfl, rfl⟩) c_130_31 rfl ?_
      refine rf_ald (i := 0) (Or.inr ⟨0, rfl, rfl, rfl⟩) c_130_32 rfl ?_
      refine rf_getr hS c_130_33 rfl fl_11_10 rfl h_x0 ?_
      refine rf_geti hS c_130_36 rfl fl_11_73 rfl (tf_11_0 h_x0) ?_
      refine rf_puti hS c_130_39 rfl fl_11_170 rfl rfl rfl rfl (te_33 (tf_7_2 (tf_11_0 h_x0)) hb19) ?_
      refine rf_nm (fun σ39 => ?_)
      refine rf_iconst c_130_42 ki_1 ?_
      exact rf_ret c_130_43 rfl rfl rfl rfl
    · refine rf_b1f c_130_25 rfl (decide_eq_false hc25) ?_
      refine rf_ldc (Or.inl ⟨rfl, rfl⟩) c_130_28 rfl kl_11_169 ?_
      exact rf_ret c_130_30 rfl rfl rfl rfl
  · refine rf_b1f c_130_5 rfl (decide_eq_false hc5) ?_
    refine rf_ldc (Or.inl ⟨rfl, rfl⟩) c_130_8 rfl kl_11_72 ?_
    exact rf_ret c_130_10 rfl rfl rfl rfl
theorem t_Ct_send {X : Xt} {S : Sh} (hS : ShOK S) {d : Nat} (hd : 2 ≤ d) (x0 : Nat) (x1 : Int32) (σ : Mm) (h_x0 : tgT x0 = 11) : Rf X S emM (f_Ct_send x0 x1 σ) d 130 0 [.ref x0, .int x1, unset0] [] σ := by
  obtain ⟨d1, rfl⟩ : ∃ d1, d = d1 + 1 := ⟨d - 1, by omega⟩
  exact t_Ct_send_e hS hd x0 x1 σ h_x0
theorem c_131_0 : cd 131 0 = some (.aload_n 0, 1) := by decide +kernel
theorem c_131_1 : cd 131 1 = some (.iload_n 1, 1) := by decide +kernel
theorem c_131_2 : cd 131 2 = some (.invokevirtual 149, 3) := by decide +kernel
theorem c_131_5 : cd 131 5 = some (.ifCond .ne (6), 3) := by decide +kernel
theorem c_131_8 : cd 131 8 = some (.ldc 72, 2) := by decide +kernel
theorem c_131_10 : cd 131 10 = some (.ireturn, 1) := by decide +kernel
theorem c_131_11 : cd 131 11 = some (.aload_n 0, 1) := by decide +kernel
theorem c_131_12 : cd 131 12 = some (.getfield 10, 3) := by decide +kernel
theorem c_131_15 : cd 131 15 = some (.getfield 139, 3) := by decide +kernel
theorem c_131_18 : cd 131 18 = some (.iload_n 1, 1) := by decide +kernel
theorem c_131_19 : cd 131 19 = some (.aaload, 1) := by decide +kernel
theorem c_131_20 : cd 131 20 = some (.astore_n 2, 1) := by decide +kernel
theorem c_131_21 : cd 131 21 = some (.aload_n 2, 1) := by decide +kernel
theorem c_131_22 : cd 131 22 = some (.invokevirtual 173, 3) := by decide +kernel
theorem c_131_25 : cd 131 25 = some (.ifCond .ne (6), 3) := by decide +kernel
theorem c_131_28 : cd 131 28 = some (.ldc 169, 2) := by decide +kernel
theorem c_131_30 : cd 131 30 = some (.ireturn, 1) := by decide +kernel
theorem c_131_31 : cd 131 31 = some (.aload_n 2, 1) := by decide +kernel
theorem c_131_32 : cd 131 32 = some (.iconst (1), 1) := by decide +kernel
theorem c_131_33 : cd 131 33 = some (.putfield 176, 3) := by decide +kernel
theorem c_131_36 : cd 131 36 = some (.iconst (1), 1) := by decide +kernel
theorem c_131_37 : cd 131 37 = some (.ireturn, 1) := by decide +kernel
def f_Ct_take (x0 : Nat) (x1 : Int32) (σ : Mm) : Option (Int32 × Mm) := (f_Ct_isPaper σ x0 x1).bind fun v2 => (if ¬ v2 = 0 then (if inbB x1 24 = true then (f_Pa_isUnderWay σ (rfT (rfT (rfT x0 0) 2) (ix x1))).bind fun v22 => (if ¬ v22 = 0 then (nmM (up2 σ (rfT (rfT (rfT x0 0) 2) (ix x1)) 6 (1 : Int32)) fun σ33 => some ((1 : Int32), σ33)) else (some ((-1000000002 : Int32), σ))) else none) else (some ((-1000000001 : Int32), σ)))
set_option maxRecDepth 100000 in
set_option maxHeartbeats 4000000 in
theorem t_Ct_take_e {X : Xt} {S : Sh} (hS : ShOK S) {d : Nat} (hd : 2 ≤ d + 1) (x0 : Nat) (x1 : Int32) (σ : Mm) (h_x0 : tgT x0 = 11) : Rf X S emM (f_Ct_take x0 x1 σ) (d + 1) 131 0 [.ref x0, .int x1, unset0] [] σ := by
  unfold f_Ct_take
  refine rf_ald (i := 0) (Or.inr ⟨0, rfl, rfl, rfl⟩) c_131_0 rfl ?_
  refine rf_ild (i := 1) (Or.inr ⟨1, rfl, rfl, rfl⟩) c_131_1 rfl ?_
  refine rf_callI (as := [.ref x0, .int x1]) (kd := 1) c_131_2 rfl (by decide) rfl ml_11_149 (by decide) rfl (rcv_1 hS rfl rfl h_x0 (by decide)) (Nat.zero_le _) rfl rfl (t_Ct_isPaper hS (by omega) σ x0 x1 h_x0) (fun v2 => ?_)
  refine rf_ite (fun hc5 => ?_) (fun hc5 => ?_)
  · refine rf_b1t c_131_5 rfl (decide_eq_true hc5) ?_
    refine rf_ald (i := 0) (Or.inr ⟨0, rfl, rfl, rfl⟩) c_131_11 rfl ?_
    refine rf_getr hS c_131_12 rfl fl_11_10 rfl h_x0 ?_
    refine rf_getr hS c_131_15 rfl fl_11_139 rfl (tf_11_0 h_x0) ?_
    refine rf_ild (i := 1) (Or.inr ⟨1, rfl, rfl, rfl⟩) c_131_18 rfl ?_
    refine rf_ite (fun hb19 => ?_) (fun _ => rf_none)
    refine rf_aald hS c_131_19 (by rw [(tf_7_2 (tf_11_0 h_x0))]; decide) (by rw [(tf_7_2 (tf_11_0 h_x0))]; decide) (lf_7_2 (tf_11_0 h_x0)) hb19 ?_
    refine rf_ast (i := 2) (Or.inr ⟨2, rfl, rfl, rfl⟩) c_131_20 (Nat.le_of_ble_eq_true rfl) rfl ?_
    refine rf_ald (i := 2) (Or.inr ⟨2, rfl, rfl, rfl⟩) c_131_21 rfl ?_
    refine rf_callI (as := [.ref (rfT (rfT (rfT x0 0) 2) (ix x1))]) (kd := 1) c_131_22 rfl (by decide) rfl ml_11_173 (by decide) rfl (rcv_1 hS rfl rfl (te_33 (tf_7_2 (tf_11_0 h_x0)) hb19) (by decide)) (Nat.zero_le _) rfl rfl (t_Pa_isUnderWay hS (by omega) σ (rfT (rfT (rfT x0 0) 2) (ix x1)) (te_33 (tf_7_2 (tf_11_0 h_x0)) hb19)) (fun v22 => ?_)
    refine rf_ite (fun hc25 => ?_) (fun hc25 => ?_)
    · refine rf_b1t c_131_25 rfl (decide_eq_true hc25) ?_
      refine rf_ald (i := 2) (Or.inr ⟨2, rfl, rfl, rfl⟩) c_131_31 rfl ?_
      refine rf_iconst c_131_32 ki_1 ?_
      refine rf_puti hS c_131_33 rfl fl_11_176 rfl rfl (by decide) (by decide) (te_33 (tf_7_2 (tf_11_0 h_x0)) hb19) ?_
      refine rf_nm (fun σ33 => ?_)
      refine rf_iconst c_131_36 ki_1 ?_
      exact rf_ret c_131_37 rfl rfl rfl rfl
    · refine rf_b1f c_131_25 rfl (decide_eq_false hc25) ?_
      refine rf_ldc (Or.inl ⟨rfl, rfl⟩) c_131_28 rfl kl_11_169 ?_
      exact rf_ret c_131_30 rfl rfl rfl rfl
  · refine rf_b1f c_131_5 rfl (decide_eq_false hc5) ?_
    refine rf_ldc (Or.inl ⟨rfl, rfl⟩) c_131_8 rfl kl_11_72 ?_
    exact rf_ret c_131_10 rfl rfl rfl rfl
theorem t_Ct_take {X : Xt} {S : Sh} (hS : ShOK S) {d : Nat} (hd : 2 ≤ d) (x0 : Nat) (x1 : Int32) (σ : Mm) (h_x0 : tgT x0 = 11) : Rf X S emM (f_Ct_take x0 x1 σ) d 131 0 [.ref x0, .int x1, unset0] [] σ := by
  obtain ⟨d1, rfl⟩ : ∃ d1, d = d1 + 1 := ⟨d - 1, by omega⟩
  exact t_Ct_take_e hS hd x0 x1 σ h_x0
theorem c_132_0 : cd 132 0 = some (.aload_n 0, 1) := by decide +kernel
theorem c_132_1 : cd 132 1 = some (.iload_n 1, 1) := by decide +kernel
theorem c_132_2 : cd 132 2 = some (.invokevirtual 149, 3) := by decide +kernel
theorem c_132_5 : cd 132 5 = some (.ifCond .eq (20), 3) := by decide +kernel
theorem c_132_8 : cd 132 8 = some (.aload_n 0, 1) := by decide +kernel
theorem c_132_9 : cd 132 9 = some (.iload_n 2, 1) := by decide +kernel
theorem c_132_10 : cd 132 10 = some (.invokevirtual 64, 3) := by decide +kernel
theorem c_132_13 : cd 132 13 = some (.ifCond .eq (12), 3) := by decide +kernel
theorem c_132_16 : cd 132 16 = some (.iload_n 3, 1) := by decide +kernel
theorem c_132_17 : cd 132 17 = some (.iconst (0), 1) := by decide +kernel
theorem c_132_18 : cd 132 18 = some (.iconst (1), 1) := by decide +kernel
theorem c_132_19 : cd 132 19 = some (.invokestatic 92, 3) := by decide +kernel
theorem c_132_22 : cd 132 22 = some (.ifCond .ne (6), 3) := by decide +kernel
theorem c_132_25 : cd 132 25 = some (.ldc 72, 2) := by decide +kernel
theorem c_132_27 : cd 132 27 = some (.ireturn, 1) := by decide +kernel
theorem c_132_28 : cd 132 28 = some (.aload_n 0, 1) := by decide +kernel
theorem c_132_29 : cd 132 29 = some (.getfield 10, 3) := by decide +kernel
theorem c_132_32 : cd 132 32 = some (.getfield 139, 3) := by decide +kernel
theorem c_132_35 : cd 132 35 = some (.iload_n 1, 1) := by decide +kernel
theorem c_132_36 : cd 132 36 = some (.aaload, 1) := by decide +kernel
theorem c_132_37 : cd 132 37 = some (.astore 4, 2) := by decide +kernel
theorem c_132_39 : cd 132 39 = some (.aload 4, 2) := by decide +kernel
theorem c_132_41 : cd 132 41 = some (.invokevirtual 173, 3) := by decide +kernel
theorem c_132_44 : cd 132 44 = some (.ifCond .eq (22), 3) := by decide +kernel
theorem c_132_47 : cd 132 47 = some (.aload 4, 2) := by decide +kernel
theorem c_132_49 : cd 132 49 = some (.iload_n 2, 1) := by decide +kernel
theorem c_132_50 : cd 132 50 = some (.iload_n 3, 1) := by decide +kernel
theorem c_132_51 : cd 132 51 = some (.iconst (1), 1) := by decide +kernel
theorem c_132_52 : cd 132 52 = some (.if_icmp .ne (7), 3) := by decide +kernel
theorem c_132_55 : cd 132 55 = some (.iconst (1), 1) := by decide +kernel
theorem c_132_56 : cd 132 56 = some (.goto (4), 3) := by decide +kernel
theorem c_132_59 : cd 132 59 = some (.iconst (0), 1) := by decide +kernel
theorem c_132_60 : cd 132 60 = some (.invokevirtual 180, 3) := by decide +kernel
theorem c_132_63 : cd 132 63 = some (.goto (5), 3) := by decide +kernel
theorem c_132_66 : cd 132 66 = some (.ldc 169, 2) := by decide +kernel
theorem c_132_68 : cd 132 68 = some (.ireturn, 1) := by decide +kernel
def f_Ct_word_25 (σ : Mm) : Option (Int32 × Mm) := some ((-1000000001 : Int32), σ)
set_option maxRecDepth 100000 in
set_option maxHeartbeats 4000000 in
theorem t_Ct_word_25 {X : Xt} {S : Sh} (hS : ShOK S) {d : Nat} (hd : 2 ≤ d + 1) (u0 : Value) (u1 : Value) (u2 : Value) (u3 : Value) (u4 : Value) (σ : Mm) : Rf X S emM (f_Ct_word_25 σ) (d + 1) 132 25 [u0, u1, u2, u3, u4] [] σ := by
  unfold f_Ct_word_25
  refine rf_ldc (Or.inl ⟨rfl, rfl⟩) c_132_25 rfl kl_11_72 ?_
  exact rf_ret c_132_27 rfl rfl rfl rfl
def f_Ct_word_68 (y0 : Int32) (σ : Mm) : Option (Int32 × Mm) := some (y0, σ)
set_option maxRecDepth 100000 in
set_option maxHeartbeats 4000000 in
theorem t_Ct_word_68 {X : Xt} {S : Sh} (hS : ShOK S) {d : Nat} (hd : 2 ≤ d + 1) (y0 : Int32) (u0 : Value) (u1 : Value) (u2 : Value) (u3 : Value) (u4 : Value) (σ : Mm) : Rf X S emM (f_Ct_word_68 y0 σ) (d + 1) 132 68 [u0, u1, u2, u3, u4] [.int y0] σ := by
  unfold f_Ct_word_68
  exact rf_ret c_132_68 rfl rfl rfl rfl
def f_Ct_word_60 (y0 : Nat) (y1 : Int32) (y2 : Int32) (σ : Mm) : Option (Int32 × Mm) := (f_Pa_hear y0 y1 y2 σ).bind fun v60 => f_Ct_word_68  v60.1 v60.2
set_option maxRecDepth 100000 in
set_option maxHeartbeats 4000000 in
theorem t_Ct_word_60 {X : Xt} {S : Sh} (hS : ShOK S) {d : Nat} (hd : 2 ≤ d + 1) (y0 : Nat) (y1 : Int32) (y2 : Int32) (u0 : Value) (u1 : Value) (u2 : Value) (u3 : Value) (u4 : Value) (σ : Mm) (h_y0 : tgT y0 = 3) : Rf X S emM (f_Ct_word_60 y0 y1 y2 σ) (d + 1) 132 60 [u0, u1, u2, u3, u4] [.int y2, .int y1, .ref y0] σ := by
  unfold f_Ct_word_60
  refine rf_callM (as := [.ref y0, .int y1, .int y2]) (kd := 1) c_132_60 rfl (by decide) rfl ml_11_180 (by decide) rfl (rcv_1 hS rfl rfl h_y0 (by decide)) (Nat.zero_le _) rfl rfl (t_Pa_hear hS (by omega) y0 y1 y2 σ h_y0) (fun v60 => ?_)
  refine rf_goto c_132_63 rfl ?_
  exact t_Ct_word_68 hS hd  v60.1 (u0) (u1) (u2) (u3) (u4) v60.2
def f_Ct_word (x0 : Nat) (x1 : Int32) (x2 : Int32) (x3 : Int32) (σ : Mm) : Option (Int32 × Mm) := (f_Ct_isPaper σ x0 x1).bind fun v2 => (if v2 = 0 then (f_Ct_word_25  σ) else ((f_Ct_isOffice σ x0 x2).bind fun v10 => (if v10 = 0 then (f_Ct_word_25  σ) else ((f_Ct_isWithin σ x3 (0 : Int32) (1 : Int32)).bind fun v19 => (if ¬ v19 = 0 then (if inbB x1 24 = true then (f_Pa_isUnderWay σ (rfT (rfT (rfT x0 0) 2) (ix x1))).bind fun v41 => (if v41 = 0 then (f_Ct_word_68  (-1000000002 : Int32) σ) else (if ¬ x3 = (1 : Int32) then (f_Ct_word_60  (rfT (rfT (rfT x0 0) 2) (ix x1)) x2 (0 : Int32) σ) else (f_Ct_word_60  (rfT (rfT (rfT x0 0) 2) (ix x1)) x2 (1 : Int32) σ))) else none) else (f_Ct_word_25  σ))))))
set_option maxRecDepth 100000 in
set_option maxHeartbeats 4000000 in
theorem t_Ct_word_e {X : Xt} {S : Sh} (hS : ShOK S) {d : Nat} (hd : 2 ≤ d + 1) (x0 : Nat) (x1 : Int32) (x2 : Int32) (x3 : Int32) (σ : Mm) (h_x0 : tgT x0 = 11) : Rf X S emM (f_Ct_word x0 x1 x2 x3 σ) (d + 1) 132 0 [.ref x0, .int x1, .int x2, .int x3, unset0] [] σ := by
  unfold f_Ct_word
  refine rf_ald (i := 0) (Or.inr ⟨0, rfl, rfl, rfl⟩) c_132_0 rfl ?_
  refine rf_ild (i := 1) (Or.inr ⟨1, rfl, rfl, rfl⟩) c_132_1 rfl ?_
  refine rf_callI (as := [.ref x0, .int x1]) (kd := 1) c_132_2 rfl (by decide) rfl ml_11_149 (by decide) rfl (rcv_1 hS rfl rfl h_x0 (by decide)) (Nat.zero_le _) rfl rfl (t_Ct_isPaper hS (by omega) σ x0 x1 h_x0) (fun v2 => ?_)
  refine rf_ite (fun hc5 => ?_) (fun hc5 => ?_)
  · refine rf_b1t c_132_5 rfl (decide_eq_true hc5) ?_
    exact t_Ct_word_25 hS hd  (.ref x0) (.int x1) (.int x2) (.int x3) (unset0) σ
  · refine rf_b1f c_132_5 rfl (decide_eq_false hc5) ?_
    refine rf_ald (i := 0) (Or.inr ⟨0, rfl, rfl, rfl⟩) c_132_8 rfl ?_
    refine rf_ild (i := 2) (Or.inr ⟨2, rfl, rfl, rfl⟩) c_132_9 rfl ?_
    refine rf_callI (as := [.ref x0, .int x2]) (kd := 1) c_132_10 rfl (by decide) rfl ml_11_64 (by decide) rfl (rcv_1 hS rfl rfl h_x0 (by decide)) (Nat.zero_le _) rfl rfl (t_Ct_isOffice hS (by omega) σ x0 x2 h_x0) (fun v10 => ?_)
    refine rf_ite (fun hc13 => ?_) (fun hc13 => ?_)
    · refine rf_b1t c_132_13 rfl (decide_eq_true hc13) ?_
      exact t_Ct_word_25 hS hd  (.ref x0) (.int x1) (.int x2) (.int x3) (unset0) σ
    · refine rf_b1f c_132_13 rfl (decide_eq_false hc13) ?_
      refine rf_ild (i := 3) (Or.inr ⟨3, rfl, rfl, rfl⟩) c_132_16 rfl ?_
      refine rf_iconst c_132_17 ki_0 ?_
      refine rf_iconst c_132_18 ki_1 ?_
      refine rf_callI (as := [.int x3, .int (0 : Int32), .int (1 : Int32)]) (kd := 0) c_132_19 rfl (by decide) rfl ml_11_92 (by decide) rfl (rcv_0 rfl) (Nat.zero_le _) rfl rfl (t_Ct_isWithin hS (by omega) σ x3 (0 : Int32) (1 : Int32)) (fun v19 => ?_)
      refine rf_ite (fun hc22 => ?_) (fun hc22 => ?_)
      · refine rf_b1t c_132_22 rfl (decide_eq_true hc22) ?_
        refine rf_ald (i := 0) (Or.inr ⟨0, rfl, rfl, rfl⟩) c_132_28 rfl ?_
        refine rf_getr hS c_132_29 rfl fl_11_10 rfl h_x0 ?_
        refine rf_getr hS c_132_32 rfl fl_11_139 rfl (tf_11_0 h_x0) ?_
        refine rf_ild (i := 1) (Or.inr ⟨1, rfl, rfl, rfl⟩) c_132_35 rfl ?_
        refine rf_ite (fun hb36 => ?_) (fun _ => rf_none)
        refine rf_aald hS c_132_36 (by rw [(tf_7_2 (tf_11_0 h_x0))]; decide) (by rw [(tf_7_2 (tf_11_0 h_x0))]; decide) (lf_7_2 (tf_11_0 h_x0)) hb36 ?_
        refine rf_ast (i := 4) (Or.inl ⟨rfl, rfl⟩) c_132_37 (Nat.le_of_ble_eq_true rfl) rfl ?_
        refine rf_ald (i := 4) (Or.inl ⟨rfl, rfl⟩) c_132_39 rfl ?_
        refine rf_callI (as := [.ref (rfT (rfT (rfT x0 0) 2) (ix x1))]) (kd := 1) c_132_41 rfl (by decide) rfl ml_11_173 (by decide) rfl (rcv_1 hS rfl rfl (te_33 (tf_7_2 (tf_11_0 h_x0)) hb36) (by decide)) (Nat.zero_le _) rfl rfl (t_Pa_isUnderWay hS (by omega) σ (rfT (rfT (rfT x0 0) 2) (ix x1)) (te_33 (tf_7_2 (tf_11_0 h_x0)) hb36)) (fun v41 => ?_)
        refine rf_ite (fun hc44 => ?_) (fun hc44 => ?_)
        · refine rf_b1t c_132_44 rfl (decide_eq_true hc44) ?_
          refine rf_ldc (Or.inl ⟨rfl, rfl⟩) c_132_66 rfl kl_11_169 ?_
          exact t_Ct_word_68 hS hd  (-1000000002 : Int32) (.ref x0) (.int x1) (.int x2) (.int x3) (.ref (rfT (rfT (rfT x0 0) 2) (ix x1))) σ
        · refine rf_b1f c_132_44 rfl (decide_eq_false hc44) ?_
          refine rf_ald (i := 4) (Or.inl ⟨rfl, rfl⟩) c_132_47 rfl ?_
          refine rf_ild (i := 2) (Or.inr ⟨2, rfl, rfl, rfl⟩) c_132_49 rfl ?_
          refine rf_ild (i := 3) (Or.inr ⟨3, rfl, rfl, rfl⟩) c_132_50 rfl ?_
          refine rf_iconst c_132_51 ki_1 ?_
          refine rf_ite (fun hc52 => ?_) (fun hc52 => ?_)
          · refine rf_b2t c_132_52 rfl (decide_eq_true hc52) ?_
            refine rf_iconst c_132_59 ki_0 ?_
            exact t_Ct_word_60 hS hd  (rfT (rfT (rfT x0 0) 2) (ix x1)) x2 (0 : Int32) (.ref x0) (.int x1) (.int x2) (.int x3) (.ref (rfT (rfT (rfT x0 0) 2) (ix x1))) σ (te_33 (tf_7_2 (tf_11_0 h_x0)) hb36)
          · refine rf_b2f c_132_52 rfl (decide_eq_false hc52) ?_
            refine rf_iconst c_132_55 ki_1 ?_
            refine rf_goto c_132_56 rfl ?_
            exact t_Ct_word_60 hS hd  (rfT (rfT (rfT x0 0) 2) (ix x1)) x2 (1 : Int32) (.ref x0) (.int x1) (.int x2) (.int x3) (.ref (rfT (rfT (rfT x0 0) 2) (ix x1))) σ (te_33 (tf_7_2 (tf_11_0 h_x0)) hb36)
      · refine rf_b1f c_132_22 rfl (decide_eq_false hc22) ?_
        exact t_Ct_word_25 hS hd  (.ref x0) (.int x1) (.int x2) (.int x3) (unset0) σ
theorem t_Ct_word {X : Xt} {S : Sh} (hS : ShOK S) {d : Nat} (hd : 2 ≤ d) (x0 : Nat) (x1 : Int32) (x2 : Int32) (x3 : Int32) (σ : Mm) (h_x0 : tgT x0 = 11) : Rf X S emM (f_Ct_word x0 x1 x2 x3 σ) d 132 0 [.ref x0, .int x1, .int x2, .int x3, unset0] [] σ := by
  obtain ⟨d1, rfl⟩ : ∃ d1, d = d1 + 1 := ⟨d - 1, by omega⟩
  exact t_Ct_word_e hS hd x0 x1 x2 x3 σ h_x0
theorem c_133_0 : cd 133 0 = some (.aload_n 0, 1) := by decide +kernel
theorem c_133_1 : cd 133 1 = some (.getfield 32, 3) := by decide +kernel
theorem c_133_4 : cd 133 4 = some (.iload_n 1, 1) := by decide +kernel
theorem c_133_5 : cd 133 5 = some (.iload_n 2, 1) := by decide +kernel
theorem c_133_6 : cd 133 6 = some (.iload_n 3, 1) := by decide +kernel
theorem c_133_7 : cd 133 7 = some (.invokevirtual 184, 3) := by decide +kernel
theorem c_133_10 : cd 133 10 = some (.ireturn, 1) := by decide +kernel
def f_Ct_feed (x0 : Nat) (x1 : Int32) (x2 : Int32) (x3 : Int32) (σ : Mm) : Option (Int32 × Mm) := (f_Tp_append (rfT x0 4) x1 x2 x3 σ).bind fun v7 => some (v7.1, v7.2)
set_option maxRecDepth 100000 in
set_option maxHeartbeats 4000000 in
theorem t_Ct_feed_e {X : Xt} {S : Sh} (hS : ShOK S) {d : Nat} (hd : 2 ≤ d + 1) (x0 : Nat) (x1 : Int32) (x2 : Int32) (x3 : Int32) (σ : Mm) (h_x0 : tgT x0 = 11) : Rf X S emM (f_Ct_feed x0 x1 x2 x3 σ) (d + 1) 133 0 [.ref x0, .int x1, .int x2, .int x3] [] σ := by
  unfold f_Ct_feed
  refine rf_ald (i := 0) (Or.inr ⟨0, rfl, rfl, rfl⟩) c_133_0 rfl ?_
  refine rf_getr hS c_133_1 rfl fl_11_32 rfl h_x0 ?_
  refine rf_ild (i := 1) (Or.inr ⟨1, rfl, rfl, rfl⟩) c_133_4 rfl ?_
  refine rf_ild (i := 2) (Or.inr ⟨2, rfl, rfl, rfl⟩) c_133_5 rfl ?_
  refine rf_ild (i := 3) (Or.inr ⟨3, rfl, rfl, rfl⟩) c_133_6 rfl ?_
  refine rf_callM (as := [.ref (rfT x0 4), .int x1, .int x2, .int x3]) (kd := 1) c_133_7 rfl (by decide) rfl ml_11_184 (by decide) rfl (rcv_1 hS rfl rfl (tf_11_4 h_x0) (by decide)) (Nat.zero_le _) rfl rfl (t_Tp_append hS (by omega) (rfT x0 4) x1 x2 x3 σ (tf_11_4 h_x0)) (fun v7 => ?_)
  exact rf_ret c_133_10 rfl rfl rfl rfl
theorem t_Ct_feed {X : Xt} {S : Sh} (hS : ShOK S) {d : Nat} (hd : 2 ≤ d) (x0 : Nat) (x1 : Int32) (x2 : Int32) (x3 : Int32) (σ : Mm) (h_x0 : tgT x0 = 11) : Rf X S emM (f_Ct_feed x0 x1 x2 x3 σ) d 133 0 [.ref x0, .int x1, .int x2, .int x3] [] σ := by
  obtain ⟨d1, rfl⟩ : ∃ d1, d = d1 + 1 := ⟨d - 1, by omega⟩
  exact t_Ct_feed_e hS hd x0 x1 x2 x3 σ h_x0
theorem c_134_0 : cd 134 0 = some (.aload_n 0, 1) := by decide +kernel
theorem c_134_1 : cd 134 1 = some (.getfield 32, 3) := by decide +kernel
theorem c_134_4 : cd 134 4 = some (.iload_n 1, 1) := by decide +kernel
theorem c_134_5 : cd 134 5 = some (.invokevirtual 187, 3) := by decide +kernel
theorem c_134_8 : cd 134 8 = some (.ireturn, 1) := by decide +kernel
def f_Ct_trim (x0 : Nat) (x1 : Int32) (σ : Mm) : Option (Int32 × Mm) := (f_Tp_shorten (rfT x0 4) x1 σ).bind fun v5 => some (v5.1, v5.2)
set_option maxRecDepth 100000 in
set_option maxHeartbeats 4000000 in
theorem t_Ct_trim_e {X : Xt} {S : Sh} (hS : ShOK S) {d : Nat} (hd : 2 ≤ d + 1) (x0 : Nat) (x1 : Int32) (σ : Mm) (h_x0 : tgT x0 = 11) : Rf X S emM (f_Ct_trim x0 x1 σ) (d + 1) 134 0 [.ref x0, .int x1] [] σ := by
  unfold f_Ct_trim
  refine rf_ald (i := 0) (Or.inr ⟨0, rfl, rfl, rfl⟩) c_134_0 rfl ?_
  refine rf_getr hS c_134_1 rfl fl_11_32 rfl h_x0 ?_
  refine rf_ild (i := 1) (Or.inr ⟨1, rfl, rfl, rfl⟩) c_134_4 rfl ?_
  refine rf_callM (as := [.ref (rfT x0 4), .int x1]) (kd := 1) c_134_5 rfl (by decide) rfl ml_11_187 (by decide) rfl (rcv_1 hS rfl rfl (tf_11_4 h_x0) (by decide)) (Nat.zero_le _) rfl rfl (t_Tp_shorten hS (by omega) (rfT x0 4) x1 σ (tf_11_4 h_x0)) (fun v5 => ?_)
  exact rf_ret c_134_8 rfl rfl rfl rfl
theorem t_Ct_trim {X : Xt} {S : Sh} (hS : ShOK S) {d : Nat} (hd : 2 ≤ d) (x0 : Nat) (x1 : Int32) (σ : Mm) (h_x0 : tgT x0 = 11) : Rf X S emM (f_Ct_trim x0 x1 σ) d 134 0 [.ref x0, .int x1] [] σ := by
  obtain ⟨d1, rfl⟩ : ∃ d1, d = d1 + 1 := ⟨d - 1, by omega⟩
  exact t_Ct_trim_e hS hd x0 x1 σ h_x0
theorem c_135_0 : cd 135 0 = some (.aload_n 0, 1) := by decide +kernel
theorem c_135_1 : cd 135 1 = some (.getfield 32, 3) := by decide +kernel
theorem c_135_4 : cd 135 4 = some (.invokevirtual 190, 3) := by decide +kernel
theorem c_135_7 : cd 135 7 = some (.istore_n 2, 1) := by decide +kernel
theorem c_135_8 : cd 135 8 = some (.aload_n 0, 1) := by decide +kernel
theorem c_135_9 : cd 135 9 = some (.getfield 32, 3) := by decide +kernel
theorem c_135_12 : cd 135 12 = some (.iconst (0), 1) := by decide +kernel
theorem c_135_13 : cd 135 13 = some (.invokevirtual 187, 3) := by decide +kernel
theorem c_135_16 : cd 135 16 = some (.pop, 1) := by decide +kernel
theorem c_135_17 : cd 135 17 = some (.iload_n 1, 1) := by decide +kernel
theorem c_135_18 : cd 135 18 = some (.invokestatic 81, 3) := by decide +kernel
theorem c_135_21 : cd 135 21 = some (.ifCond .ne (6), 3) := by decide +kernel
theorem c_135_24 : cd 135 24 = some (.ldc 72, 2) := by decide +kernel
theorem c_135_26 : cd 135 26 = some (.ireturn, 1) := by decide +kernel
theorem c_135_27 : cd 135 27 = some (.iload_n 2, 1) := by decide +kernel
theorem c_135_28 : cd 135 28 = some (.ifCond .ne (14), 3) := by decide +kernel
theorem c_135_31 : cd 135 31 = some (.bipush (-100), 2) := by decide +kernel
theorem c_135_33 : cd 135 33 = some (.aload_n 0, 1) := by decide +kernel
theorem c_135_34 : cd 135 34 = some (.getfield 32, 3) := by decide +kernel
theorem c_135_37 : cd 135 37 = some (.invokevirtual 193, 3) := by decide +kernel
theorem c_135_40 : cd 135 40 = some (.isub, 1) := by decide +kernel
theorem c_135_41 : cd 135 41 = some (.ireturn, 1) := by decide +kernel
theorem c_135_42 : cd 135 42 = some (.aload_n 0, 1) := by decide +kernel
theorem c_135_43 : cd 135 43 = some (.getfield 32, 3) := by decide +kernel
theorem c_135_46 : cd 135 46 = some (.getfield 196, 3) := by decide +kernel
theorem c_135_49 : cd 135 49 = some (.aload_n 0, 1) := by decide +kernel
theorem c_135_50 : cd 135 50 = some (.getfield 10, 3) := by decide +kernel
theorem c_135_53 : cd 135 53 = some (.getfield 54, 3) := by decide +kernel
theorem c_135_56 : cd 135 56 = some (.getfield 200, 3) := by decide +kernel
theorem c_135_59 : cd 135 59 = some (.aload_n 0, 1) := by decide +kernel
theorem c_135_60 : cd 135 60 = some (.getfield 10, 3) := by decide +kernel
theorem c_135_63 : cd 135 63 = some (.getfield 96, 3) := by decide +kernel
theorem c_135_66 : cd 135 66 = some (.getfield 203, 3) := by decide +kernel
theorem c_135_69 : cd 135 69 = some (.aload_n 0, 1) := by decide +kernel
theorem c_135_70 : cd 135 70 = some (.getfield 10, 3) := by decide +kernel
theorem c_135_73 : cd 135 73 = some (.getfield 206, 3) := by decide +kernel
theorem c_135_76 : cd 135 76 = some (.invokevirtual 209, 3) := by decide +kernel
theorem c_135_79 : cd 135 79 = some (.ifCond .eq (6), 3) := by decide +kernel
theorem c_135_82 : cd 135 82 = some (.ldc 169, 2) := by decide +kernel
theorem c_135_84 : cd 135 84 = some (.ireturn, 1) := by decide +kernel
theorem c_135_85 : cd 135 85 = some (.aload_n 0, 1) := by decide +kernel
theorem c_135_86 : cd 135 86 = some (.getfield 10, 3) := by decide +kernel
theorem c_135_89 : cd 135 89 = some (.getfield 206, 3) := by decide +kernel
theorem c_135_92 : cd 135 92 = some (.bipush (16), 2) := by decide +kernel
theorem c_135_94 : cd 135 94 = some (.if_icmp .lt (6), 3) := by decide +kernel
theorem c_135_97 : cd 135 97 = some (.ldc 91, 2) := by decide +kernel
theorem c_135_99 : cd 135 99 = some (.ireturn, 1) := by decide +kernel
theorem c_135_100 : cd 135 100 = some (.aload_n 0, 1) := by decide +kernel
theorem c_135_101 : cd 135 101 = some (.getfield 10, 3) := by decide +kernel
theorem c_135_104 : cd 135 104 = some (.getfield 214, 3) := by decide +kernel
theorem c_135_107 : cd 135 107 = some (.aload_n 0, 1) := by decide +kernel
theorem c_135_108 : cd 135 108 = some (.getfield 10, 3) := by decide +kernel
theorem c_135_111 : cd 135 111 = some (.getfield 206, 3) := by decide +kernel
theorem c_135_114 : cd 135 114 = some (.aaload, 1) := by decide +kernel
theorem c_135_115 : cd 135 115 = some (.aload_n 0, 1) := by decide +kernel
theorem c_135_116 : cd 135 116 = some (.getfield 32, 3) := by decide +kernel
theorem c_135_119 : cd 135 119 = some (.getfield 196, 3) := by decide +kernel
theorem c_135_122 : cd 135 122 = some (.invokevirtual 218, 3) := by decide +kernel
theorem c_135_125 : cd 135 125 = some (.aload_n 0, 1) := by decide +kernel
theorem c_135_126 : cd 135 126 = some (.getfield 10, 3) := by decide +kernel
theorem c_135_129 : cd 135 129 = some (.getfield 214, 3) := by decide +kernel
theorem c_135_132 : cd 135 132 = some (.aload_n 0, 1) := by decide +kernel
theorem c_135_133 : cd 135 133 = some (.getfield 10, 3) := by decide +kernel
theorem c_135_136 : cd 135 136 = some (.getfield 206, 3) := by decide +kernel
theorem c_135_139 : cd 135 139 = some (.aaload, 1) := by decide +kernel
theorem c_135_140 : cd 135 140 = some (.iload_n 1, 1) := by decide +kernel
theorem c_135_141 : cd 135 141 = some (.putfield 222, 3) := by decide +kernel
theorem c_135_144 : cd 135 144 = some (.aload_n 0, 1) := by decide +kernel
theorem c_135_145 : cd 135 145 = some (.getfield 10, 3) := by decide +kernel
theorem c_135_148 : cd 135 148 = some (.dup, 1) := by decide +kernel
theorem c_135_149 : cd 135 149 = some (.getfield 206, 3) := by decide +kernel
theorem c_135_152 : cd 135 152 = some (.iconst (1), 1) := by decide +kernel
theorem c_135_153 : cd 135 153 = some (.iadd, 1) := by decide +kernel
theorem c_135_154 : cd 135 154 = some (.putfield 206, 3) := by decide +kernel
theorem c_135_157 : cd 135 157 = some (.aload_n 0, 1) := by decide +kernel
theorem c_135_158 : cd 135 158 = some (.getfield 10, 3) := by decide +kernel
theorem c_135_161 : cd 135 161 = some (.getfield 206, 3) := by decide +kernel
theorem c_135_164 : cd 135 164 = some (.iconst (1), 1) := by decide +kernel
theorem c_135_165 : cd 135 165 = some (.isub, 1) := by decide +kernel
theorem c_135_166 : cd 135 166 = some (.ireturn, 1) := by decide +kernel
def f_Ct_rule (x0 : Nat) (x1 : Int32) (σ : Mm) : Option (Int32 × Mm) := (f_Tp_readRule (rfT x0 4) σ).bind fun v4 => (f_Tp_shorten (rfT x0 4) (0 : Int32) v4.2).bind fun v13 => (f_Ct_isDay v13.2 x1).bind fun v18 => (if ¬ v18 = 0 then (if ¬ v4.1 = 0 then ((f_Ru_isWrong v13.2 (rfT (rfT x0 4) 4) (v13.2 (rfT (rfT x0 0) 0) 3) (v13.2 (rfT (rfT x0 0) 1) 4) (v13.2 (rfT x0 0) 11)).bind fun v76 => (if v76 = 0 then (if (v13.2 (rfT x0 0) 11) < (16 : Int32) then (if inbB (v13.2 (rfT x0 0) 11) 16 = true then (f_Ru_become (rfT (rfT (rfT x0 0) 3) (ix (v13.2 (rfT x0 0) 11))) (rfT (rfT x0 4) 4) v13.2).bind fun v122 => if inbB (v122 (rfT x0 0) 11) 16 = true then nmM (up2 v122 (rfT (rfT (rfT x0 0) 3) (ix (v122 (rfT x0 0) 11))) 3 x1) fun σ141 => nmM (up2 σ141 (rfT x0 0) 11 ((σ141 (rfT x0 0) 11) + (1 : Int32))) fun σ154 => some (((σ154 (rfT x0 0) 11) - (1 : Int32)), σ154) else none else none) else (some ((-1000000003 : Int32), v13.2))) else (some ((-1000000002 : Int32), v13.2)))) else ((f_Tp_placeOfFault v13.2 (rfT x0 4)).bind fun v37 => some (((-100 : Int32) - v37), v13.2))) else (some ((-1000000001 : Int32), v13.2)))
set_option maxRecDepth 100000 in
set_option maxHeartbeats 4000000 in
theorem t_Ct_rule_e {X : Xt} {S : Sh} (hS : ShOK S) {d : Nat} (hd : 62 ≤ d + 1) (x0 : Nat) (x1 : Int32) (σ : Mm) (h_x0 : tgT x0 = 11) : Rf X S emM (f_Ct_rule x0 x1 σ) (d + 1) 135 0 [.ref x0, .int x1, unset0] [] σ := by
  unfold f_Ct_rule
  refine rf_ald (i := 0) (Or.inr ⟨0, rfl, rfl, rfl⟩) c_135_0 rfl ?_
  refine rf_getr hS c_135_1 rfl fl_11_32 rfl h_x0 ?_
  refine rf_callM (as := [.ref (rfT x0 4)]) (kd := 1) c_135_4 rfl (by decide) rfl ml_11_190 (by decide) rfl (rcv_1 hS rfl rfl (tf_11_4 h_x0) (by decide)) (Nat.zero_le _) rfl rfl (t_Tp_readRule hS (by omega) (rfT x0 4) σ (tf_11_4 h_x0)) (fun v4 => ?_)
  refine rf_ist (i := 2) (Or.inr ⟨2, rfl, rfl, rfl⟩) c_135_7 (Nat.le_of_ble_eq_true rfl) rfl ?_
  refine rf_ald (i := 0) (Or.inr ⟨0, rfl, rfl, rfl⟩) c_135_8 rfl ?_
  refine rf_getr hS c_135_9 rfl fl_11_32 rfl h_x0 ?_
  refine rf_iconst c_135_12 ki_0 ?_
  refine rf_callM (as := [.ref (rfT x0 4), .int (0 : Int32)]) (kd := 1) c_135_13 rfl (by decide) rfl ml_11_187 (by decide) rfl (rcv_1 hS rfl rfl (tf_11_4 h_x0) (by decide)) (Nat.zero_le _) rfl rfl (t_Tp_shorten hS (by omega) (rfT x0 4) (0 : Int32) v4.2 (tf_11_4 h_x0)) (fun v13 => ?_)
  refine rf_pop c_135_16 rfl ?_
  refine rf_ild (i := 1) (Or.inr ⟨1, rfl, rfl, rfl⟩) c_135_17 rfl ?_
  refine rf_callI (as := [.int x1]) (kd := 0) c_135_18 rfl (by decide) rfl ml_11_81 (by decide) rfl (rcv_0 rfl) (Nat.zero_le _) rfl rfl (t_Ct_isDay hS (by omega) v13.2 x1) (fun v18 => ?_)
  refine rf_ite (fun hc21 => ?_) (fun hc21 => ?_)
  · refine rf_b1t c_135_21 rfl (decide_eq_true hc21) ?_
    refine rf_ild (i := 2) (Or.inr ⟨2, rfl, rfl, rfl⟩) c_135_27 rfl ?_
    refine rf_ite (fun hc28 => ?_) (fun hc28 => ?_)
    · refine rf_b1t c_135_28 rfl (decide_eq_true hc28) ?_
      refine rf_ald (i := 0) (Or.inr ⟨0, rfl, rfl, rfl⟩) c_135_42 rfl ?_
      refine rf_getr hS c_135_43 rfl fl_11_32 rfl h_x0 ?_
      refine rf_getr hS c_135_46 rfl fl_11_196 rfl (tf_11_4 h_x0) ?_
      refine rf_ald (i := 0) (Or.inr ⟨0, rfl, rfl, rfl⟩) c_135_49 rfl ?_
      refine rf_getr hS c_135_50 rfl fl_11_10 rfl h_x0 ?_
      refine rf_getr hS c_135_53 rfl fl_11_54 rfl (tf_11_0 h_x0) ?_
      refine rf_geti hS c_135_56 rfl fl_11_200 rfl (tf_7_0 (tf_11_0 h_x0)) ?_
      refine rf_ald (i := 0) (Or.inr ⟨0, rfl, rfl, rfl⟩) c_135_59 rfl ?_
      refine rf_getr hS c_135_60 rfl fl_11_10 rfl h_x0 ?_
      refine rf_getr hS c_135_63 rfl fl_11_96 rfl (tf_11_0 h_x0) ?_
      refine rf_geti hS c_135_66 rfl fl_11_203 rfl (tf_7_1 (tf_11_0 h_x0)) ?_
      refine rf_ald (i := 0) (Or.inr ⟨0, rfl, rfl, rfl⟩) c_135_69 rfl ?_
      refine rf_getr hS c_135_70 rfl fl_11_10 rfl h_x0 ?_
      refine rf_geti hS c_135_73 rfl fl_11_206 rfl (tf_11_0 h_x0) ?_
      refine rf_callI (as := [.ref (rfT (rfT x0 4) 4), .int (v13.2 (rfT (rfT x0 0) 0) 3), .int (v13.2 (rfT (rfT x0 0) 1) 4), .int (v13.2 (rfT x0 0) 11)]) (kd := 1) c_135_76 rfl (by decide) rfl ml_11_209 (by decide) rfl (rcv_1 hS rfl rfl (tf_9_4 (tf_11_4 h_x0)) (by decide)) (Nat.zero_le _) rfl rfl (t_Ru_isWrong hS (by omega) v13.2 (rfT (rfT x0 4) 4) (v13.2 (rfT (rfT x0 0) 0) 3) (v13.2 (rfT (rfT x0 0) 1) 4) (v13.2 (rfT x0 0) 11) (tf_9_4 (tf_11_4 h_x0))) (fun v76 => ?_)
      refine rf_ite (fun hc79 => ?_) (fun hc79 => ?_)
      · refine rf_b1t c_135_79 rfl (decide_eq_true hc79) ?_
        refine rf_ald (i := 0) (Or.inr ⟨0, rfl, rfl, rfl⟩) c_135_85 rfl ?_
        refine rf_getr hS c_135_86 rfl fl_11_10 rfl h_x0 ?_
        refine rf_geti hS c_135_89 rfl fl_11_206 rfl (tf_11_0 h_x0) ?_
        refine rf_bipush c_135_92 kb_16 ?_
        refine rf_ite (fun hc94 => ?_) (fun hc94 => ?_)
        · refine rf_b2t c_135_94 rfl (decide_eq_true hc94) ?_
          refine rf_ald (i := 0) (Or.inr ⟨0, rfl, rfl, rfl⟩) c_135_100 rfl ?_
          refine rf_getr hS c_135_101 rfl fl_11_10 rfl h_x0 ?_
          refine rf_getr hS c_135_104 rfl fl_11_214 rfl (tf_11_0 h_x0) ?_
          refine rf_ald (i := 0) (Or.inr ⟨0, rfl, rfl, rfl⟩) c_135_107 rfl ?_
          refine rf_getr hS c_135_108 rfl fl_11_10 rfl h_x0 ?_
          refine rf_geti hS c_135_111 rfl fl_11_206 rfl (tf_11_0 h_x0) ?_
          refine rf_ite (fun hb114 => ?_) (fun _ => rf_none)
          refine rf_aald hS c_135_114 (by rw [(tf_7_3 (tf_11_0 h_x0))]; decide) (by rw [(tf_7_3 (tf_11_0 h_x0))]; decide) (lf_7_3 (tf_11_0 h_x0)) hb114 ?_
          refine rf_ald (i := 0) (Or.inr ⟨0, rfl, rfl, rfl⟩) c_135_115 rfl ?_
          refine rf_getr hS c_135_116 rfl fl_11_32 rfl h_x0 ?_
          refine rf_getr hS c_135_119 rfl fl_11_196 rfl (tf_11_4 h_x0) ?_
          refine rf_callV (as := [.ref (rfT (rfT (rfT x0 0) 3) (ix (v13.2 (rfT x0 0) 11))), .ref (rfT (rfT x0 4) 4)]) (kd := 1) c_135_122 rfl (by decide) rfl ml_11_218 (by decide) rfl (rcv_1 hS rfl rfl (te_35 (tf_7_3 (tf_11_0 h_x0)) hb114) (by decide)) (Nat.zero_le _) rfl rfl (t_Ru_become hS (by omega) (rfT (rfT (rfT x0 0) 3) (ix (v13.2 (rfT x0 0) 11))) (rfT (rfT x0 4) 4) v13.2 (te_35 (tf_7_3 (tf_11_0 h_x0)) hb114) (tf_9_4 (tf_11_4 h_x0))) (fun v122 => ?_)
          refine rf_ald (i := 0) (Or.inr ⟨0, rfl, rfl, rfl⟩) c_135_125 rfl ?_
          refine rf_getr hS c_135_126 rfl fl_11_10 rfl h_x0 ?_
          refine rf_getr hS c_135_129 rfl fl_11_214 rfl (tf_11_0 h_x0) ?_
          refine rf_ald (i := 0) (Or.inr ⟨0, rfl, rfl, rfl⟩) c_135_132 rfl ?_
          refine rf_getr hS c_135_133 rfl fl_11_10 rfl h_x0 ?_
          refine rf_geti hS c_135_136 rfl fl_11_206 rfl (tf_11_0 h_x0) ?_
          refine rf_ite (fun hb139 => ?_) (fun _ => rf_none)
          refine rf_aald hS c_135_139 (by rw [(tf_7_3 (tf_11_0 h_x0))]; decide) (by rw [(tf_7_3 (tf_11_0 h_x0))]; decide) (lf_7_3 (tf_11_0 h_x0)) hb139 ?_
          refine rf_ild (i := 1) (Or.inr ⟨1, rfl, rfl, rfl⟩) c_135_140 rfl ?_
          refine rf_puti hS c_135_141 rfl fl_11_222 rfl rfl rfl rfl (te_35 (tf_7_3 (tf_11_0 h_x0)) hb139) ?_
          refine rf_nm (fun σ141 => ?_)
          refine rf_ald (i := 0) (Or.inr ⟨0, rfl, rfl, rfl⟩) c_135_144 rfl ?_
          refine rf_getr hS c_135_145 rfl fl_11_10 rfl h_x0 ?_
          refine rf_dup c_135_148 rfl ?_
          refine rf_geti hS c_135_149 rfl fl_11_206 rfl (tf_11_0 h_x0) ?_
          refine rf_iconst c_135_152 ki_1 ?_
          refine rf_iadd c_135_153 ?_
          refine rf_puti hS c_135_154 rfl fl_11_206 rfl rfl rfl rfl (tf_11_0 h_x0) ?_
          refine rf_nm (fun σ154 => ?_)
          refine rf_ald (i := 0) (Or.inr ⟨0, rfl, rfl, rfl⟩) c_135_157 rfl ?_
          refine rf_getr hS c_135_158 rfl fl_11_10 rfl h_x0 ?_
          refine rf_geti hS c_135_161 rfl fl_11_206 rfl (tf_11_0 h_x0) ?_
          refine rf_iconst c_135_164 ki_1 ?_
          refine rf_isub c_135_165 ?_
          exact rf_ret c_135_166 rfl rfl rfl rfl
        · refine rf_b2f c_135_94 rfl (decide_eq_false hc94) ?_
          refine rf_ldc (Or.inl ⟨rfl, rfl⟩) c_135_97 rfl kl_11_91 ?_
          exact rf_ret c_135_99 rfl rfl rfl rfl
      · refine rf_b1f c_135_79 rfl (decide_eq_false hc79) ?_
        refine rf_ldc (Or.inl ⟨rfl, rfl⟩) c_135_82 rfl kl_11_169 ?_
        exact rf_ret c_135_84 rfl rfl rfl rfl
    · refine rf_b1f c_135_28 rfl (decide_eq_false hc28) ?_
      refine rf_bipush c_135_31 kb_m100 ?_
      refine rf_ald (i := 0) (Or.inr ⟨0, rfl, rfl, rfl⟩) c_135_33 rfl ?_
      refine rf_getr hS c_135_34 rfl fl_11_32 rfl h_x0 ?_
      refine rf_callI (as := [.ref (rfT x0 4)]) (kd := 1) c_135_37 rfl (by decide) rfl ml_11_193 (by decide) rfl (rcv_1 hS rfl rfl (tf_11_4 h_x0) (by decide)) (by simp [Value.category]) rfl rfl (t_Tp_placeOfFault hS (by omega) v13.2 (rfT x0 4) (tf_11_4 h_x0)) (fun v37 => ?_)
      refine rf_isub c_135_40 ?_
      exact rf_ret c_135_41 rfl rfl rfl rfl
  · refine rf_b1f c_135_21 rfl (decide_eq_false hc21) ?_
    refine rf_ldc (Or.inl ⟨rfl, rfl⟩) c_135_24 rfl kl_11_72 ?_
    exact rf_ret c_135_26 rfl rfl rfl rfl
theorem t_Ct_rule {X : Xt} {S : Sh} (hS : ShOK S) {d : Nat} (hd : 62 ≤ d) (x0 : Nat) (x1 : Int32) (σ : Mm) (h_x0 : tgT x0 = 11) : Rf X S emM (f_Ct_rule x0 x1 σ) d 135 0 [.ref x0, .int x1, unset0] [] σ := by
  obtain ⟨d1, rfl⟩ : ∃ d1, d = d1 + 1 := ⟨d - 1, by omega⟩
  exact t_Ct_rule_e hS hd x0 x1 σ h_x0
theorem c_185_0 : cd 185 0 = some (.iload_n 1, 1) := by decide +kernel
theorem c_185_1 : cd 185 1 = some (.iconst (0), 1) := by decide +kernel
theorem c_185_2 : cd 185 2 = some (.aload_n 0, 1) := by decide +kernel
theorem c_185_3 : cd 185 3 = some (.getfield 10, 3) := by decide +kernel
theorem c_185_6 : cd 185 6 = some (.getfield 206, 3) := by decide +kernel
theorem c_185_9 : cd 185 9 = some (.iconst (1), 1) := by decide +kernel
theorem c_185_10 : cd 185 10 = some (.isub, 1) := by decide +kernel
theorem c_185_11 : cd 185 11 = some (.invokestatic 92, 3) := by decide +kernel
theorem c_185_14 : cd 185 14 = some (.ireturn, 1) := by decide +kernel
def f_Ct_isRule (σ : Mm) (x0 : Nat) (x1 : Int32) : Option Int32 := (f_Ct_isWithin σ x1 (0 : Int32) ((σ (rfT x0 0) 11) - (1 : Int32))).bind fun v11 => if zB v11 = true then some v11 else none
set_option maxRecDepth 100000 in
set_option maxHeartbeats 4000000 in
theorem t_Ct_isRule_e {X : Xt} {S : Sh} (hS : ShOK S) {d : Nat} (hd : 1 ≤ d + 1) (σ : Mm) (x0 : Nat) (x1 : Int32) (h_x0 : tgT x0 = 11) : Rf X S (emI σ) (f_Ct_isRule σ x0 x1) (d + 1) 185 0 [.ref x0, .int x1] [] σ := by
  unfold f_Ct_isRule
  refine rf_ild (i := 1) (Or.inr ⟨1, rfl, rfl, rfl⟩) c_185_0 rfl ?_
  refine rf_iconst c_185_1 ki_0 ?_
  refine rf_ald (i := 0) (Or.inr ⟨0, rfl, rfl, rfl⟩) c_185_2 rfl ?_
  refine rf_getr hS c_185_3 rfl fl_11_10 rfl h_x0 ?_
  refine rf_geti hS c_185_6 rfl fl_11_206 rfl (tf_11_0 h_x0) ?_
  refine rf_iconst c_185_9 ki_1 ?_
  refine rf_isub c_185_10 ?_
  refine rf_callI (as := [.int x1, .int (0 : Int32), .int ((σ (rfT x0 0) 11) - (1 : Int32))]) (kd := 0) c_185_11 rfl (by decide) rfl ml_11_92 (by decide) rfl (rcv_0 rfl) (Nat.zero_le _) rfl rfl (t_Ct_isWithin hS (by omega) σ x1 (0 : Int32) ((σ (rfT x0 0) 11) - (1 : Int32))) (fun v11 => ?_)
  refine rf_ite (fun hq14 => ?_) (fun _ => rf_none)
  exact rf_ret c_185_14 rfl (zB_n hq14) rfl rfl
theorem t_Ct_isRule {X : Xt} {S : Sh} (hS : ShOK S) {d : Nat} (hd : 1 ≤ d) (σ : Mm) (x0 : Nat) (x1 : Int32) (h_x0 : tgT x0 = 11) : Rf X S (emI σ) (f_Ct_isRule σ x0 x1) d 185 0 [.ref x0, .int x1] [] σ := by
  obtain ⟨d1, rfl⟩ : ∃ d1, d = d1 + 1 := ⟨d - 1, by omega⟩
  exact t_Ct_isRule_e hS hd σ x0 x1 h_x0
theorem c_136_0 : cd 136 0 = some (.aload_n 0, 1) := by decide +kernel
theorem c_136_1 : cd 136 1 = some (.iload_n 1, 1) := by decide +kernel
theorem c_136_2 : cd 136 2 = some (.invokevirtual 225, 3) := by decide +kernel
theorem c_136_5 : cd 136 5 = some (.ifCond .eq (12), 3) := by decide +kernel
theorem c_136_8 : cd 136 8 = some (.iload_n 2, 1) := by decide +kernel
theorem c_136_9 : cd 136 9 = some (.iconst (0), 1) := by decide +kernel
theorem c_136_10 : cd 136 10 = some (.iconst (4), 1) := by decide +kernel
theorem c_136_11 : cd 136 11 = some (.invokestatic 92, 3) := by decide +kernel
theorem c_136_14 : cd 136 14 = some (.ifCond .ne (6), 3) := by decide +kernel
theorem c_136_17 : cd 136 17 = some (.ldc 72, 2) := by decide +kernel
theorem c_136_19 : cd 136 19 = some (.ireturn, 1) := by decide +kernel
theorem c_136_20 : cd 136 20 = some (.aload_n 0, 1) := by decide +kernel
theorem c_136_21 : cd 136 21 = some (.getfield 10, 3) := by decide +kernel
theorem c_136_24 : cd 136 24 = some (.getfield 214, 3) := by decide +kernel
theorem c_136_27 : cd 136 27 = some (.iload_n 1, 1) := by decide +kernel
theorem c_136_28 : cd 136 28 = some (.aaload, 1) := by decide +kernel
theorem c_136_29 : cd 136 29 = some (.iload_n 2, 1) := by decide +kernel
theorem c_136_30 : cd 136 30 = some (.invokevirtual 228, 3) := by decide +kernel
theorem c_136_33 : cd 136 33 = some (.ireturn, 1) := by decide +kernel
def f_Ct_of_17 (σ : Mm) : Option Int32 := some (-1000000001 : Int32)
set_option maxRecDepth 100000 in
set_option maxHeartbeats 4000000 in
theorem t_Ct_of_17 {X : Xt} {S : Sh} (hS : ShOK S) {d : Nat} (hd : 2 ≤ d + 1) (σ : Mm) (u0 : Value) (u1 : Value) (u2 : Value) : Rf X S (emI σ) (f_Ct_of_17 σ) (d + 1) 136 17 [u0, u1, u2] [] σ := by
  unfold f_Ct_of_17
  refine rf_ldc (Or.inl ⟨rfl, rfl⟩) c_136_17 rfl kl_11_72 ?_
  exact rf_ret c_136_19 rfl rfl rfl rfl
def f_Ct_of (σ : Mm) (x0 : Nat) (x1 : Int32) (x2 : Int32) : Option Int32 := (f_Ct_isRule σ x0 x1).bind fun v2 => (if v2 = 0 then (f_Ct_of_17 σ ) else ((f_Ct_isWithin σ x2 (0 : Int32) (4 : Int32)).bind fun v11 => (if ¬ v11 = 0 then (if inbB x1 16 = true then (f_Ru_part σ (rfT (rfT (rfT x0 0) 3) (ix x1)) x2).bind fun v30 => some v30 else none) else (f_Ct_of_17 σ ))))
set_option maxRecDepth 100000 in
set_option maxHeartbeats 4000000 in
theorem t_Ct_of_e {X : Xt} {S : Sh} (hS : ShOK S) {d : Nat} (hd : 2 ≤ d + 1) (σ : Mm) (x0 : Nat) (x1 : Int32) (x2 : Int32) (h_x0 : tgT x0 = 11) : Rf X S (emI σ) (f_Ct_of σ x0 x1 x2) (d + 1) 136 0 [.ref x0, .int x1, .int x2] [] σ := by
  unfold f_Ct_of
  refine rf_ald (i := 0) (Or.inr ⟨0, rfl, rfl, rfl⟩) c_136_0 rfl ?_
  refine rf_ild (i := 1) (Or.inr ⟨1, rfl, rfl, rfl⟩) c_136_1 rfl ?_
  refine rf_callI (as := [.ref x0, .int x1]) (kd := 1) c_136_2 rfl (by decide) rfl ml_11_225 (by decide) rfl (rcv_1 hS rfl rfl h_x0 (by decide)) (Nat.zero_le _) rfl rfl (t_Ct_isRule hS (by omega) σ x0 x1 h_x0) (fun v2 => ?_)
  refine rf_ite (fun hc5 => ?_) (fun hc5 => ?_)
  · refine rf_b1t c_136_5 rfl (decide_eq_true hc5) ?_
    exact t_Ct_of_17 hS hd σ  (.ref x0) (.int x1) (.int x2)
  · refine rf_b1f c_136_5 rfl (decide_eq_false hc5) ?_
    refine rf_ild (i := 2) (Or.inr ⟨2, rfl, rfl, rfl⟩) c_136_8 rfl ?_
    refine rf_iconst c_136_9 ki_0 ?_
    refine rf_iconst c_136_10 ki_4 ?_
    refine rf_callI (as := [.int x2, .int (0 : Int32), .int (4 : Int32)]) (kd := 0) c_136_11 rfl (by decide) rfl ml_11_92 (by decide) rfl (rcv_0 rfl) (Nat.zero_le _) rfl rfl (t_Ct_isWithin hS (by omega) σ x2 (0 : Int32) (4 : Int32)) (fun v11 => ?_)
    refine rf_ite (fun hc14 => ?_) (fun hc14 => ?_)
    · refine rf_b1t c_136_14 rfl (decide_eq_true hc14) ?_
      refine rf_ald (i := 0) (Or.inr ⟨0, rfl, rfl, rfl⟩) c_136_20 rfl ?_
      refine rf_getr hS c_136_21 rfl fl_11_10 rfl h_x0 ?_
      refine rf_getr hS c_136_24 rfl fl_11_214 rfl (tf_11_0 h_x0) ?_
      refine rf_ild (i := 1) (Or.inr ⟨1, rfl, rfl, rfl⟩) c_136_27 rfl ?_
      refine rf_ite (fun hb28 => ?_) (fun _ => rf_none)
      refine rf_aald hS c_136_28 (by rw [(tf_7_3 (tf_11_0 h_x0))]; decide) (by rw [(tf_7_3 (tf_11_0 h_x0))]; decide) (lf_7_3 (tf_11_0 h_x0)) hb28 ?_
      refine rf_ild (i := 2) (Or.inr ⟨2, rfl, rfl, rfl⟩) c_136_29 rfl ?_
      refine rf_callI (as := [.ref (rfT (rfT (rfT x0 0) 3) (ix x1)), .int x2]) (kd := 1) c_136_30 rfl (by decide) rfl ml_11_228 (by decide) rfl (rcv_1 hS rfl rfl (te_35 (tf_7_3 (tf_11_0 h_x0)) hb28) (by decide)) (Nat.zero_le _) rfl rfl (t_Ru_part hS (by omega) σ (rfT (rfT (rfT x0 0) 3) (ix x1)) x2 (te_35 (tf_7_3 (tf_11_0 h_x0)) hb28)) (fun v30 => ?_)
      exact rf_ret c_136_33 rfl rfl rfl rfl
    · refine rf_b1f c_136_14 rfl (decide_eq_false hc14) ?_
      exact t_Ct_of_17 hS hd σ  (.ref x0) (.int x1) (.int x2)
theorem t_Ct_of {X : Xt} {S : Sh} (hS : ShOK S) {d : Nat} (hd : 2 ≤ d) (σ : Mm) (x0 : Nat) (x1 : Int32) (x2 : Int32) (h_x0 : tgT x0 = 11) : Rf X S (emI σ) (f_Ct_of σ x0 x1 x2) d 136 0 [.ref x0, .int x1, .int x2] [] σ := by
  obtain ⟨d1, rfl⟩ : ∃ d1, d = d1 + 1 := ⟨d - 1, by omega⟩
  exact t_Ct_of_e hS hd σ x0 x1 x2 h_x0
theorem c_137_0 : cd 137 0 = some (.aload_n 0, 1) := by decide +kernel
theorem c_137_1 : cd 137 1 = some (.iload_n 1, 1) := by decide +kernel
theorem c_137_2 : cd 137 2 = some (.invokevirtual 225, 3) := by decide +kernel
theorem c_137_5 : cd 137 5 = some (.ifCond .eq (11), 3) := by decide +kernel
theorem c_137_8 : cd 137 8 = some (.aload_n 0, 1) := by decide +kernel
theorem c_137_9 : cd 137 9 = some (.iload_n 2, 1) := by decide +kernel
theorem c_137_10 : cd 137 10 = some (.invokevirtual 149, 3) := by decide +kernel
theorem c_137_13 : cd 137 13 = some (.ifCond .ne (6), 3) := by decide +kernel
theorem c_137_16 : cd 137 16 = some (.ldc 72, 2) := by decide +kernel
theorem c_137_18 : cd 137 18 = some (.ireturn, 1) := by decide +kernel
theorem c_137_19 : cd 137 19 = some (.aload_n 0, 1) := by decide +kernel
theorem c_137_20 : cd 137 20 = some (.getfield 10, 3) := by decide +kernel
theorem c_137_23 : cd 137 23 = some (.aload_n 0, 1) := by decide +kernel
theorem c_137_24 : cd 137 24 = some (.getfield 10, 3) := by decide +kernel
theorem c_137_27 : cd 137 27 = some (.getfield 139, 3) := by decide +kernel
theorem c_137_30 : cd 137 30 = some (.iload_n 2, 1) := by decide +kernel
theorem c_137_31 : cd 137 31 = some (.aaload, 1) := by decide +kernel
theorem c_137_32 : cd 137 32 = some (.invokevirtual 231, 3) := by decide +kernel
theorem c_137_35 : cd 137 35 = some (.iload_n 1, 1) := by decide +kernel
theorem c_137_36 : cd 137 36 = some (.ishr, 1) := by decide +kernel
theorem c_137_37 : cd 137 37 = some (.iconst (1), 1) := by decide +kernel
theorem c_137_38 : cd 137 38 = some (.iand, 1) := by decide +kernel
theorem c_137_39 : cd 137 39 = some (.ireturn, 1) := by decide +kernel
def f_Ct_counts_16 (σ : Mm) : Option Int32 := some (-1000000001 : Int32)
set_option maxRecDepth 100000 in
set_option maxHeartbeats 4000000 in
theorem t_Ct_counts_16 {X : Xt} {S : Sh} (hS : ShOK S) {d : Nat} (hd : 4 ≤ d + 1) (σ : Mm) (u0 : Value) (u1 : Value) (u2 : Value) : Rf X S (emI σ) (f_Ct_counts_16 σ) (d + 1) 137 16 [u0, u1, u2] [] σ := by
  unfold f_Ct_counts_16
  refine rf_ldc (Or.inl ⟨rfl, rfl⟩) c_137_16 rfl kl_11_72 ?_
  exact rf_ret c_137_18 rfl rfl rfl rfl
def f_Ct_counts (σ : Mm) (x0 : Nat) (x1 : Int32) (x2 : Int32) : Option Int32 := (f_Ct_isRule σ x0 x1).bind fun v2 => (if v2 = 0 then (f_Ct_counts_16 σ ) else ((f_Ct_isPaper σ x0 x2).bind fun v10 => (if ¬ v10 = 0 then (if inbB x2 24 = true then (f_St_countingRules σ (rfT x0 0) (rfT (rfT (rfT x0 0) 2) (ix x2))).bind fun v32 => some ((v32 >>> (x1 &&& 31)) &&& (1 : Int32)) else none) else (f_Ct_counts_16 σ ))))
set_option maxRecDepth 100000 in
set_option maxHeartbeats 4000000 in
theorem t_Ct_counts_e {X : Xt} {S : Sh} (hS : ShOK S) {d : Nat} (hd : 4 ≤ d + 1) (σ : Mm) (x0 : Nat) (x1 : Int32) (x2 : Int32) (h_x0 : tgT x0 = 11) : Rf X S (emI σ) (f_Ct_counts σ x0 x1 x2) (d + 1) 137 0 [.ref x0, .int x1, .int x2] [] σ := by
  unfold f_Ct_counts
  refine rf_ald (i := 0) (Or.inr ⟨0, rfl, rfl, rfl⟩) c_137_0 rfl ?_
  refine rf_ild (i := 1) (Or.inr ⟨1, rfl, rfl, rfl⟩) c_137_1 rfl ?_
  refine rf_callI (as := [.ref x0, .int x1]) (kd := 1) c_137_2 rfl (by decide) rfl ml_11_225 (by decide) rfl (rcv_1 hS rfl rfl h_x0 (by decide)) (Nat.zero_le _) rfl rfl (t_Ct_isRule hS (by omega) σ x0 x1 h_x0) (fun v2 => ?_)
  refine rf_ite (fun hc5 => ?_) (fun hc5 => ?_)
  · refine rf_b1t c_137_5 rfl (decide_eq_true hc5) ?_
    exact t_Ct_counts_16 hS hd σ  (.ref x0) (.int x1) (.int x2)
  · refine rf_b1f c_137_5 rfl (decide_eq_false hc5) ?_
    refine rf_ald (i := 0) (Or.inr ⟨0, rfl, rfl, rfl⟩) c_137_8 rfl ?_
    refine rf_ild (i := 2) (Or.inr ⟨2, rfl, rfl, rfl⟩) c_137_9 rfl ?_
    refine rf_callI (as := [.ref x0, .int x2]) (kd := 1) c_137_10 rfl (by decide) rfl ml_11_149 (by decide) rfl (rcv_1 hS rfl rfl h_x0 (by decide)) (Nat.zero_le _) rfl rfl (t_Ct_isPaper hS (by omega) σ x0 x2 h_x0) (fun v10 => ?_)
    refine rf_ite (fun hc13 => ?_) (fun hc13 => ?_)
    · refine rf_b1t c_137_13 rfl (decide_eq_true hc13) ?_
      refine rf_ald (i := 0) (Or.inr ⟨0, rfl, rfl, rfl⟩) c_137_19 rfl ?_
      refine rf_getr hS c_137_20 rfl fl_11_10 rfl h_x0 ?_
      refine rf_ald (i := 0) (Or.inr ⟨0, rfl, rfl, rfl⟩) c_137_23 rfl ?_
      refine rf_getr hS c_137_24 rfl fl_11_10 rfl h_x0 ?_
      refine rf_getr hS c_137_27 rfl fl_11_139 rfl (tf_11_0 h_x0) ?_
      refine rf_ild (i := 2) (Or.inr ⟨2, rfl, rfl, rfl⟩) c_137_30 rfl ?_
      refine rf_ite (fun hb31 => ?_) (fun _ => rf_none)
      refine rf_aald hS c_137_31 (by rw [(tf_7_2 (tf_11_0 h_x0))]; decide) (by rw [(tf_7_2 (tf_11_0 h_x0))]; decide) (lf_7_2 (tf_11_0 h_x0)) hb31 ?_
      refine rf_callI (as := [.ref (rfT x0 0), .ref (rfT (rfT (rfT x0 0) 2) (ix x2))]) (kd := 1) c_137_32 rfl (by decide) rfl ml_11_231 (by decide) rfl (rcv_1 hS rfl rfl (tf_11_0 h_x0) (by decide)) (Nat.zero_le _) rfl rfl (t_St_countingRules hS (by omega) σ (rfT x0 0) (rfT (rfT (rfT x0 0) 2) (ix x2)) (tf_11_0 h_x0) (te_33 (tf_7_2 (tf_11_0 h_x0)) hb31)) (fun v32 => ?_)
      refine rf_ild (i := 1) (Or.inr ⟨1, rfl, rfl, rfl⟩) c_137_35 rfl ?_
      refine rf_ishr c_137_36 ?_
      refine rf_iconst c_137_37 ki_1 ?_
      refine rf_iand c_137_38 ?_
      exact rf_ret c_137_39 rfl rfl rfl rfl
    · refine rf_b1f c_137_13 rfl (decide_eq_false hc13) ?_
      exact t_Ct_counts_16 hS hd σ  (.ref x0) (.int x1) (.int x2)
theorem t_Ct_counts {X : Xt} {S : Sh} (hS : ShOK S) {d : Nat} (hd : 4 ≤ d) (σ : Mm) (x0 : Nat) (x1 : Int32) (x2 : Int32) (h_x0 : tgT x0 = 11) : Rf X S (emI σ) (f_Ct_counts σ x0 x1 x2) d 137 0 [.ref x0, .int x1, .int x2] [] σ := by
  obtain ⟨d1, rfl⟩ : ∃ d1, d = d1 + 1 := ⟨d - 1, by omega⟩
  exact t_Ct_counts_e hS hd σ x0 x1 x2 h_x0
theorem c_138_0 : cd 138 0 = some (.aload_n 0, 1) := by decide +kernel
theorem c_138_1 : cd 138 1 = some (.iload_n 1, 1) := by decide +kernel
theorem c_138_2 : cd 138 2 = some (.invokevirtual 149, 3) := by decide +kernel
theorem c_138_5 : cd 138 5 = some (.ifCond .eq (12), 3) := by decide +kernel
theorem c_138_8 : cd 138 8 = some (.iload_n 2, 1) := by decide +kernel
theorem c_138_9 : cd 138 9 = some (.iconst (0), 1) := by decide +kernel
theorem c_138_10 : cd 138 10 = some (.iconst (4), 1) := by decide +kernel
theorem c_138_11 : cd 138 11 = some (.invokestatic 92, 3) := by decide +kernel
theorem c_138_14 : cd 138 14 = some (.ifCond .ne (6), 3) := by decide +kernel
theorem c_138_17 : cd 138 17 = some (.ldc 72, 2) := by decide +kernel
theorem c_138_19 : cd 138 19 = some (.ireturn, 1) := by decide +kernel
theorem c_138_20 : cd 138 20 = some (.aload_n 0, 1) := by decide +kernel
theorem c_138_21 : cd 138 21 = some (.getfield 10, 3) := by decide +kernel
theorem c_138_24 : cd 138 24 = some (.aload_n 0, 1) := by decide +kernel
theorem c_138_25 : cd 138 25 = some (.getfield 10, 3) := by decide +kernel
theorem c_138_28 : cd 138 28 = some (.getfield 139, 3) := by decide +kernel
theorem c_138_31 : cd 138 31 = some (.iload_n 1, 1) := by decide +kernel
theorem c_138_32 : cd 138 32 = some (.aaload, 1) := by decide +kernel
theorem c_138_33 : cd 138 33 = some (.iload_n 2, 1) := by decide +kernel
theorem c_138_34 : cd 138 34 = some (.invokevirtual 235, 3) := by decide +kernel
theorem c_138_37 : cd 138 37 = some (.ireturn, 1) := by decide +kernel
def f_Ct_due_17 (σ : Mm) : Option Int32 := some (-1000000001 : Int32)
set_option maxRecDepth 100000 in
set_option maxHeartbeats 4000000 in
theorem t_Ct_due_17 {X : Xt} {S : Sh} (hS : ShOK S) {d : Nat} (hd : 10 ≤ d + 1) (σ : Mm) (u0 : Value) (u1 : Value) (u2 : Value) : Rf X S (emI σ) (f_Ct_due_17 σ) (d + 1) 138 17 [u0, u1, u2] [] σ := by
  unfold f_Ct_due_17
  refine rf_ldc (Or.inl ⟨rfl, rfl⟩) c_138_17 rfl kl_11_72 ?_
  exact rf_ret c_138_19 rfl rfl rfl rfl
def f_Ct_due (σ : Mm) (x0 : Nat) (x1 : Int32) (x2 : Int32) : Option Int32 := (f_Ct_isPaper σ x0 x1).bind fun v2 => (if v2 = 0 then (f_Ct_due_17 σ ) else ((f_Ct_isWithin σ x2 (0 : Int32) (4 : Int32)).bind fun v11 => (if ¬ v11 = 0 then (if inbB x1 24 = true then (f_St_dueOf σ (rfT x0 0) (rfT (rfT (rfT x0 0) 2) (ix x1)) x2).bind fun v34 => some v34 else none) else (f_Ct_due_17 σ ))))
set_option maxRecDepth 100000 in
set_option maxHeartbeats 4000000 in
theorem t_Ct_due_e {X : Xt} {S : Sh} (hS : ShOK S) {d : Nat} (hd : 10 ≤ d + 1) (σ : Mm) (x0 : Nat) (x1 : Int32) (x2 : Int32) (h_x0 : tgT x0 = 11) : Rf X S (emI σ) (f_Ct_due σ x0 x1 x2) (d + 1) 138 0 [.ref x0, .int x1, .int x2] [] σ := by
  unfold f_Ct_due
  refine rf_ald (i := 0) (Or.inr ⟨0, rfl, rfl, rfl⟩) c_138_0 rfl ?_
  refine rf_ild (i := 1) (Or.inr ⟨1, rfl, rfl, rfl⟩) c_138_1 rfl ?_
  refine rf_callI (as := [.ref x0, .int x1]) (kd := 1) c_138_2 rfl (by decide) rfl ml_11_149 (by decide) rfl (rcv_1 hS rfl rfl h_x0 (by decide)) (Nat.zero_le _) rfl rfl (t_Ct_isPaper hS (by omega) σ x0 x1 h_x0) (fun v2 => ?_)
  refine rf_ite (fun hc5 => ?_) (fun hc5 => ?_)
  · refine rf_b1t c_138_5 rfl (decide_eq_true hc5) ?_
    exact t_Ct_due_17 hS hd σ  (.ref x0) (.int x1) (.int x2)
  · refine rf_b1f c_138_5 rfl (decide_eq_false hc5) ?_
    refine rf_ild (i := 2) (Or.inr ⟨2, rfl, rfl, rfl⟩) c_138_8 rfl ?_
    refine rf_iconst c_138_9 ki_0 ?_
    refine rf_iconst c_138_10 ki_4 ?_
    refine rf_callI (as := [.int x2, .int (0 : Int32), .int (4 : Int32)]) (kd := 0) c_138_11 rfl (by decide) rfl ml_11_92 (by decide) rfl (rcv_0 rfl) (Nat.zero_le _) rfl rfl (t_Ct_isWithin hS (by omega) σ x2 (0 : Int32) (4 : Int32)) (fun v11 => ?_)
    refine rf_ite (fun hc14 => ?_) (fun hc14 => ?_)
    · refine rf_b1t c_138_14 rfl (decide_eq_true hc14) ?_
      refine rf_ald (i := 0) (Or.inr ⟨0, rfl, rfl, rfl⟩) c_138_20 rfl ?_
      refine rf_getr hS c_138_21 rfl fl_11_10 rfl h_x0 ?_
      refine rf_ald (i := 0) (Or.inr ⟨0, rfl, rfl, rfl⟩) c_138_24 rfl ?_
      refine rf_getr hS c_138_25 rfl fl_11_10 rfl h_x0 ?_
      refine rf_getr hS c_138_28 rfl fl_11_139 rfl (tf_11_0 h_x0) ?_
      refine rf_ild (i := 1) (Or.inr ⟨1, rfl, rfl, rfl⟩) c_138_31 rfl ?_
      refine rf_ite (fun hb32 => ?_) (fun _ => rf_none)
      refine rf_aald hS c_138_32 (by rw [(tf_7_2 (tf_11_0 h_x0))]; decide) (by rw [(tf_7_2 (tf_11_0 h_x0))]; decide) (lf_7_2 (tf_11_0 h_x0)) hb32 ?_
      refine rf_ild (i := 2) (Or.inr ⟨2, rfl, rfl, rfl⟩) c_138_33 rfl ?_
      refine rf_callI (as := [.ref (rfT x0 0), .ref (rfT (rfT (rfT x0 0) 2) (ix x1)), .int x2]) (kd := 1) c_138_34 rfl (by decide) rfl ml_11_235 (by decide) rfl (rcv_1 hS rfl rfl (tf_11_0 h_x0) (by decide)) (Nat.zero_le _) rfl rfl (t_St_dueOf hS (by omega) σ (rfT x0 0) (rfT (rfT (rfT x0 0) 2) (ix x1)) x2 (tf_11_0 h_x0) (te_33 (tf_7_2 (tf_11_0 h_x0)) hb32)) (fun v34 => ?_)
      exact rf_ret c_138_37 rfl rfl rfl rfl
    · refine rf_b1f c_138_14 rfl (decide_eq_false hc14) ?_
      exact t_Ct_due_17 hS hd σ  (.ref x0) (.int x1) (.int x2)
theorem t_Ct_due {X : Xt} {S : Sh} (hS : ShOK S) {d : Nat} (hd : 10 ≤ d) (σ : Mm) (x0 : Nat) (x1 : Int32) (x2 : Int32) (h_x0 : tgT x0 = 11) : Rf X S (emI σ) (f_Ct_due σ x0 x1 x2) d 138 0 [.ref x0, .int x1, .int x2] [] σ := by
  obtain ⟨d1, rfl⟩ : ∃ d1, d = d1 + 1 := ⟨d - 1, by omega⟩
  exact t_Ct_due_e hS hd σ x0 x1 x2 h_x0
theorem c_139_0 : cd 139 0 = some (.aload_n 0, 1) := by decide +kernel
theorem c_139_1 : cd 139 1 = some (.iload_n 1, 1) := by decide +kernel
theorem c_139_2 : cd 139 2 = some (.invokevirtual 149, 3) := by decide +kernel
theorem c_139_5 : cd 139 5 = some (.ifCond .eq (12), 3) := by decide +kernel
theorem c_139_8 : cd 139 8 = some (.iload_n 2, 1) := by decide +kernel
theorem c_139_9 : cd 139 9 = some (.iconst (0), 1) := by decide +kernel
theorem c_139_10 : cd 139 10 = some (.iconst (4), 1) := by decide +kernel
theorem c_139_11 : cd 139 11 = some (.invokestatic 92, 3) := by decide +kernel
theorem c_139_14 : cd 139 14 = some (.ifCond .ne (6), 3) := by decide +kernel
theorem c_139_17 : cd 139 17 = some (.ldc 72, 2) := by decide +kernel
theorem c_139_19 : cd 139 19 = some (.ireturn, 1) := by decide +kernel
theorem c_139_20 : cd 139 20 = some (.aload_n 0, 1) := by decide +kernel
theorem c_139_21 : cd 139 21 = some (.getfield 10, 3) := by decide +kernel
theorem c_139_24 : cd 139 24 = some (.aload_n 0, 1) := by decide +kernel
theorem c_139_25 : cd 139 25 = some (.getfield 10, 3) := by decide +kernel
theorem c_139_28 : cd 139 28 = some (.aload_n 0, 1) := by decide +kernel
theorem c_139_29 : cd 139 29 = some (.getfield 10, 3) := by decide +kernel
theorem c_139_32 : cd 139 32 = some (.getfield 139, 3) := by decide +kernel
theorem c_139_35 : cd 139 35 = some (.iload_n 1, 1) := by decide +kernel
theorem c_139_36 : cd 139 36 = some (.aaload, 1) := by decide +kernel
theorem c_139_37 : cd 139 37 = some (.invokevirtual 231, 3) := by decide +kernel
theorem c_139_40 : cd 139 40 = some (.iload_n 2, 1) := by decide +kernel
theorem c_139_41 : cd 139 41 = some (.invokevirtual 239, 3) := by decide +kernel
theorem c_139_44 : cd 139 44 = some (.ireturn, 1) := by decide +kernel
def f_Ct_why_17 (σ : Mm) : Option Int32 := some (-1000000001 : Int32)
set_option maxRecDepth 100000 in
set_option maxHeartbeats 4000000 in
theorem t_Ct_why_17 {X : Xt} {S : Sh} (hS : ShOK S) {d : Nat} (hd : 4 ≤ d + 1) (σ : Mm) (u0 : Value) (u1 : Value) (u2 : Value) : Rf X S (emI σ) (f_Ct_why_17 σ) (d + 1) 139 17 [u0, u1, u2] [] σ := by
  unfold f_Ct_why_17
  refine rf_ldc (Or.inl ⟨rfl, rfl⟩) c_139_17 rfl kl_11_72 ?_
  exact rf_ret c_139_19 rfl rfl rfl rfl
def f_Ct_why (σ : Mm) (x0 : Nat) (x1 : Int32) (x2 : Int32) : Option Int32 := (f_Ct_isPaper σ x0 x1).bind fun v2 => (if v2 = 0 then (f_Ct_why_17 σ ) else ((f_Ct_isWithin σ x2 (0 : Int32) (4 : Int32)).bind fun v11 => (if ¬ v11 = 0 then (if inbB x1 24 = true then (f_St_countingRules σ (rfT x0 0) (rfT (rfT (rfT x0 0) 2) (ix x1))).bind fun v37 => (f_St_greatestRule σ (rfT x0 0) v37 x2).bind fun v41 => some v41 else none) else (f_Ct_why_17 σ ))))
set_option maxRecDepth 100000 in
set_option maxHeartbeats 4000000 in
theorem t_Ct_why_e {X : Xt} {S : Sh} (hS : ShOK S) {d : Nat} (hd : 4 ≤ d + 1) (σ : Mm) (x0 : Nat) (x1 : Int32) (x2 : Int32) (h_x0 : tgT x0 = 11) : Rf X S (emI σ) (f_Ct_why σ x0 x1 x2) (d + 1) 139 0 [.ref x0, .int x1, .int x2] [] σ := by
  unfold f_Ct_why
  refine rf_ald (i := 0) (Or.inr ⟨0, rfl, rfl, rfl⟩) c_139_0 rfl ?_
  refine rf_ild (i := 1) (Or.inr ⟨1, rfl, rfl, rfl⟩) c_139_1 rfl ?_
  refine rf_callI (as := [.ref x0, .int x1]) (kd := 1) c_139_2 rfl (by decide) rfl ml_11_149 (by decide) rfl (rcv_1 hS rfl rfl h_x0 (by decide)) (Nat.zero_le _) rfl rfl (t_Ct_isPaper hS (by omega) σ x0 x1 h_x0) (fun v2 => ?_)
  refine rf_ite (fun hc5 => ?_) (fun hc5 => ?_)
  · refine rf_b1t c_139_5 rfl (decide_eq_true hc5) ?_
    exact t_Ct_why_17 hS hd σ  (.ref x0) (.int x1) (.int x2)
  · refine rf_b1f c_139_5 rfl (decide_eq_false hc5) ?_
    refine rf_ild (i := 2) (Or.inr ⟨2, rfl, rfl, rfl⟩) c_139_8 rfl ?_
    refine rf_iconst c_139_9 ki_0 ?_
    refine rf_iconst c_139_10 ki_4 ?_
    refine rf_callI (as := [.int x2, .int (0 : Int32), .int (4 : Int32)]) (kd := 0) c_139_11 rfl (by decide) rfl ml_11_92 (by decide) rfl (rcv_0 rfl) (Nat.zero_le _) rfl rfl (t_Ct_isWithin hS (by omega) σ x2 (0 : Int32) (4 : Int32)) (fun v11 => ?_)
    refine rf_ite (fun hc14 => ?_) (fun hc14 => ?_)
    · refine rf_b1t c_139_14 rfl (decide_eq_true hc14) ?_
      refine rf_ald (i := 0) (Or.inr ⟨0, rfl, rfl, rfl⟩) c_139_20 rfl ?_
      refine rf_getr hS c_139_21 rfl fl_11_10 rfl h_x0 ?_
      refine rf_ald (i := 0) (Or.inr ⟨0, rfl, rfl, rfl⟩) c_139_24 rfl ?_
      refine rf_getr hS c_139_25 rfl fl_11_10 rfl h_x0 ?_
      refine rf_ald (i := 0) (Or.inr ⟨0, rfl, rfl, rfl⟩) c_139_28 rfl ?_
      refine rf_getr hS c_139_29 rfl fl_11_10 rfl h_x0 ?_
      refine rf_getr hS c_139_32 rfl fl_11_139 rfl (tf_11_0 h_x0) ?_
      refine rf_ild (i := 1) (Or.inr ⟨1, rfl, rfl, rfl⟩) c_139_35 rfl ?_
      refine rf_ite (fun hb36 => ?_) (fun _ => rf_none)
      refine rf_aald hS c_139_36 (by rw [(tf_7_2 (tf_11_0 h_x0))]; decide) (by rw [(tf_7_2 (tf_11_0 h_x0))]; decide) (lf_7_2 (tf_11_0 h_x0)) hb36 ?_
      refine rf_callI (as := [.ref (rfT x0 0), .ref (rfT (rfT (rfT x0 0) 2) (ix x1))]) (kd := 1) c_139_37 rfl (by decide) rfl ml_11_231 (by decide) rfl (rcv_1 hS rfl rfl (tf_11_0 h_x0) (by decide)) (by simp [Value.category]) rfl rfl (t_St_countingRules hS (by omega) σ (rfT x0 0) (rfT (rfT (rfT x0 0) 2) (ix x1)) (tf_11_0 h_x0) (te_33 (tf_7_2 (tf_11_0 h_x0)) hb36)) (fun v37 => ?_)
      refine rf_ild (i := 2) (Or.inr ⟨2, rfl, rfl, rfl⟩) c_139_40 rfl ?_
      refine rf_callI (as := [.ref (rfT x0 0), .int v37, .int x2]) (kd := 1) c_139_41 rfl (by decide) rfl ml_11_239 (by decide) rfl (rcv_1 hS rfl rfl (tf_11_0 h_x0) (by decide)) (Nat.zero_le _) rfl rfl (t_St_greatestRule hS (by omega) σ (rfT x0 0) v37 x2 (tf_11_0 h_x0)) (fun v41 => ?_)
      exact rf_ret c_139_44 rfl rfl rfl rfl
    · refine rf_b1f c_139_14 rfl (decide_eq_false hc14) ?_
      exact t_Ct_why_17 hS hd σ  (.ref x0) (.int x1) (.int x2)
theorem t_Ct_why {X : Xt} {S : Sh} (hS : ShOK S) {d : Nat} (hd : 4 ≤ d) (σ : Mm) (x0 : Nat) (x1 : Int32) (x2 : Int32) (h_x0 : tgT x0 = 11) : Rf X S (emI σ) (f_Ct_why σ x0 x1 x2) d 139 0 [.ref x0, .int x1, .int x2] [] σ := by
  obtain ⟨d1, rfl⟩ : ∃ d1, d = d1 + 1 := ⟨d - 1, by omega⟩
  exact t_Ct_why_e hS hd σ x0 x1 x2 h_x0
theorem c_140_0 : cd 140 0 = some (.aload_n 0, 1) := by decide +kernel
theorem c_140_1 : cd 140 1 = some (.iload_n 1, 1) := by decide +kernel
theorem c_140_2 : cd 140 2 = some (.invokevirtual 225, 3) := by decide +kernel
theorem c_140_5 : cd 140 5 = some (.ifCond .eq (16), 3) := by decide +kernel
theorem c_140_8 : cd 140 8 = some (.aload_n 0, 1) := by decide +kernel
theorem c_140_9 : cd 140 9 = some (.iload_n 2, 1) := by decide +kernel
theorem c_140_10 : cd 140 10 = some (.invokevirtual 225, 3) := by decide +kernel
theorem c_140_13 : cd 140 13 = some (.ifCond .eq (8), 3) := by decide +kernel
theorem c_140_16 : cd 140 16 = some (.iload_n 1, 1) := by decide +kernel
theorem c_140_17 : cd 140 17 = some (.iload_n 2, 1) := by decide +kernel
theorem c_140_18 : cd 140 18 = some (.if_icmp .ne (6), 3) := by decide +kernel
theorem c_140_21 : cd 140 21 = some (.ldc 72, 2) := by decide +kernel
theorem c_140_23 : cd 140 23 = some (.ireturn, 1) := by decide +kernel
theorem c_140_24 : cd 140 24 = some (.aload_n 0, 1) := by decide +kernel
theorem c_140_25 : cd 140 25 = some (.getfield 10, 3) := by decide +kernel
theorem c_140_28 : cd 140 28 = some (.getfield 214, 3) := by decide +kernel
theorem c_140_31 : cd 140 31 = some (.iload_n 1, 1) := by decide +kernel
theorem c_140_32 : cd 140 32 = some (.aaload, 1) := by decide +kernel
theorem c_140_33 : cd 140 33 = some (.astore_n 3, 1) := by decide +kernel
theorem c_140_34 : cd 140 34 = some (.aload_n 0, 1) := by decide +kernel
theorem c_140_35 : cd 140 35 = some (.getfield 10, 3) := by decide +kernel
theorem c_140_38 : cd 140 38 = some (.getfield 214, 3) := by decide +kernel
theorem c_140_41 : cd 140 41 = some (.iload_n 2, 1) := by decide +kernel
theorem c_140_42 : cd 140 42 = some (.aaload, 1) := by decide +kernel
theorem c_140_43 : cd 140 43 = some (.astore 4, 2) := by decide +kernel
theorem c_140_45 : cd 140 45 = some (.aload_n 3, 1) := by decide +kernel
theorem c_140_46 : cd 140 46 = some (.getfield 242, 3) := by decide +kernel
theorem c_140_49 : cd 140 49 = some (.aload 4, 2) := by decide +kernel
theorem c_140_51 : cd 140 51 = some (.getfield 242, 3) := by decide +kernel
theorem c_140_54 : cd 140 54 = some (.if_icmp .ne (19), 3) := by decide +kernel
theorem c_140_57 : cd 140 57 = some (.aload_n 3, 1) := by decide +kernel
theorem c_140_58 : cd 140 58 = some (.getfield 242, 3) := by decide +kernel
theorem c_140_61 : cd 140 61 = some (.iconst (2), 1) := by decide +kernel
theorem c_140_62 : cd 140 62 = some (.if_icmp .eq (11), 3) := by decide +kernel
theorem c_140_65 : cd 140 65 = some (.aload_n 3, 1) := by decide +kernel
theorem c_140_66 : cd 140 66 = some (.getfield 242, 3) := by decide +kernel
theorem c_140_69 : cd 140 69 = some (.iconst (5), 1) := by decide +kernel
theorem c_140_70 : cd 140 70 = some (.if_icmp .ne (6), 3) := by decide +kernel
theorem c_140_73 : cd 140 73 = some (.ldc 164, 2) := by decide +kernel
theorem c_140_75 : cd 140 75 = some (.ireturn, 1) := by decide +kernel
theorem c_140_76 : cd 140 76 = some (.aload_n 3, 1) := by decide +kernel
theorem c_140_77 : cd 140 77 = some (.getfield 245, 3) := by decide +kernel
theorem c_140_80 : cd 140 80 = some (.aload 4, 2) := by decide +kernel
theorem c_140_82 : cd 140 82 = some (.getfield 245, 3) := by decide +kernel
theorem c_140_85 : cd 140 85 = some (.if_icmp .ne (8), 3) := by decide +kernel
theorem c_140_88 : cd 140 88 = some (.ldc 248, 2) := by decide +kernel
theorem c_140_90 : cd 140 90 = some (.goto (13), 3) := by decide +kernel
theorem c_140_93 : cd 140 93 = some (.aload_n 0, 1) := by decide +kernel
theorem c_140_94 : cd 140 94 = some (.getfield 10, 3) := by decide +kernel
theorem c_140_97 : cd 140 97 = some (.aload_n 3, 1) := by decide +kernel
theorem c_140_98 : cd 140 98 = some (.aload 4, 2) := by decide +kernel
theorem c_140_100 : cd 140 100 = some (.invokevirtual 249, 3) := by decide +kernel
theorem c_140_103 : cd 140 103 = some (.ireturn, 1) := by decide +kernel
def f_Ct_quarrel_21 (σ : Mm) : Option Int32 := some (-1000000001 : Int32)
set_option maxRecDepth 100000 in
set_option maxHeartbeats 4000000 in
theorem t_Ct_quarrel_21 {X : Xt} {S : Sh} (hS : ShOK S) {d : Nat} (hd : 4 ≤ d + 1) (σ : Mm) (u0 : Value) (u1 : Value) (u2 : Value) (u3 : Value) (u4 : Value) : Rf X S (emI σ) (f_Ct_quarrel_21 σ) (d + 1) 140 21 [u0, u1, u2, u3, u4] [] σ := by
  unfold f_Ct_quarrel_21
  refine rf_ldc (Or.inl ⟨rfl, rfl⟩) c_140_21 rfl kl_11_72 ?_
  exact rf_ret c_140_23 rfl rfl rfl rfl
def f_Ct_quarrel_73 (σ : Mm) : Option Int32 := some (-1000000012 : Int32)
set_option maxRecDepth 100000 in
set_option maxHeartbeats 4000000 in
theorem t_Ct_quarrel_73 {X : Xt} {S : Sh} (hS : ShOK S) {d : Nat} (hd : 4 ≤ d + 1) (σ : Mm) (u0 : Value) (u1 : Value) (u2 : Value) (u3 : Value) (u4 : Value) : Rf X S (emI σ) (f_Ct_quarrel_73 σ) (d + 1) 140 73 [u0, u1, u2, u3, u4] [] σ := by
  unfold f_Ct_quarrel_73
  refine rf_ldc (Or.inl ⟨rfl, rfl⟩) c_140_73 rfl kl_11_164 ?_
  exact rf_ret c_140_75 rfl rfl rfl rfl
def f_Ct_quarrel_103 (σ : Mm) (y0 : Int32) : Option Int32 := some y0
set_option maxRecDepth 100000 in
set_option maxHeartbeats 4000000 in
theorem t_Ct_quarrel_103 {X : Xt} {S : Sh} (hS : ShOK S) {d : Nat} (hd : 4 ≤ d + 1) (σ : Mm) (y0 : Int32) (u0 : Value) (u1 : Value) (u2 : Value) (u3 : Value) (u4 : Value) : Rf X S (emI σ) (f_Ct_quarrel_103 σ y0) (d + 1) 140 103 [u0, u1, u2, u3, u4] [.int y0] σ := by
  unfold f_Ct_quarrel_103
  exact rf_ret c_140_103 rfl rfl rfl rfl
def f_Ct_quarrel (σ : Mm) (x0 : Nat) (x1 : Int32) (x2 : Int32) : Option Int32 := (f_Ct_isRule σ x0 x1).bind fun v2 => (if v2 = 0 then (f_Ct_quarrel_21 σ ) else ((f_Ct_isRule σ x0 x2).bind fun v10 => (if v10 = 0 then (f_Ct_quarrel_21 σ ) else (if ¬ x1 = x2 then (if inbB x1 16 = true then if inbB x2 16 = true then (if ¬ (σ (rfT (rfT (rfT x0 0) 3) (ix x1)) 0) = (σ (rfT (rfT (rfT x0 0) 3) (ix x2)) 0) then (f_Ct_quarrel_73 σ ) else (if (σ (rfT (rfT (rfT x0 0) 3) (ix x1)) 0) = (2 : Int32) then (f_Ct_quarrel_73 σ ) else (if ¬ (σ (rfT (rfT (rfT x0 0) 3) (ix x1)) 0) = (5 : Int32) then (if ¬ (σ (rfT (rfT (rfT x0 0) 3) (ix x1)) 2) = (σ (rfT (rfT (rfT x0 0) 3) (ix x2)) 2) then ((f_St_leastPaperOfBoth σ (rfT x0 0) (rfT (rfT (rfT x0 0) 3) (ix x1)) (rfT (rfT (rfT x0 0) 3) (ix x2))).bind fun v100 => f_Ct_quarrel_103 σ v100) else (f_Ct_quarrel_103 σ (-1000000005 : Int32))) else (f_Ct_quarrel_73 σ )))) else none else none) else (f_Ct_quarrel_21 σ )))))
set_option maxRecDepth 100000 in
set_option maxHeartbeats 4000000 in
theorem t_Ct_quarrel_e {X : Xt} {S : Sh} (hS : ShOK S) {d : Nat} (hd : 4 ≤ d + 1) (σ : Mm) (x0 : Nat) (x1 : Int32) (x2 : Int32) (h_x0 : tgT x0 = 11) : Rf X S (emI σ) (f_Ct_quarrel σ x0 x1 x2) (d + 1) 140 0 [.ref x0, .int x1, .int x2, unset0, unset0] [] σ := by
  unfold f_Ct_quarrel
  refine rf_ald (i := 0) (Or.inr ⟨0, rfl, rfl, rfl⟩) c_140_0 rfl ?_
  refine rf_ild (i := 1) (Or.inr ⟨1, rfl, rfl, rfl⟩) c_140_1 rfl ?_
  refine rf_callI (as := [.ref x0, .int x1]) (kd := 1) c_140_2 rfl (by decide) rfl ml_11_225 (by decide) rfl (rcv_1 hS rfl rfl h_x0 (by decide)) (Nat.zero_le _) rfl rfl (t_Ct_isRule hS (by omega) σ x0 x1 h_x0) (fun v2 => ?_)
  refine rf_ite (fun hc5 => ?_) (fun hc5 => ?_)
  · refine rf_b1t c_140_5 rfl (decide_eq_true hc5) ?_
    exact t_Ct_quarrel_21 hS hd σ  (.ref x0) (.int x1) (.int x2) (unset0) (unset0)
  · refine rf_b1f c_140_5 rfl (decide_eq_false hc5) ?_
    refine rf_ald (i := 0) (Or.inr ⟨0, rfl, rfl, rfl⟩) c_140_8 rfl ?_
    refine rf_ild (i := 2) (Or.inr ⟨2, rfl, rfl, rfl⟩) c_140_9 rfl ?_
    refine rf_callI (as := [.ref x0, .int x2]) (kd := 1) c_140_10 rfl (by decide) rfl ml_11_225 (by decide) rfl (rcv_1 hS rfl rfl h_x0 (by decide)) (Nat.zero_le _) rfl rfl (t_Ct_isRule hS (by omega) σ x0 x2 h_x0) (fun v10 => ?_)
    refine rf_ite (fun hc13 => ?_) (fun hc13 => ?_)
    · refine rf_b1t c_140_13 rfl (decide_eq_true hc13) ?_
      exact t_Ct_quarrel_21 hS hd σ  (.ref x0) (.int x1) (.int x2) (unset0) (unset0)
    · refine rf_b1f c_140_13 rfl (decide_eq_false hc13) ?_
      refine rf_ild (i := 1) (Or.inr ⟨1, rfl, rfl, rfl⟩) c_140_16 rfl ?_
      refine rf_ild (i := 2) (Or.inr ⟨2, rfl, rfl, rfl⟩) c_140_17 rfl ?_
      refine rf_ite (fun hc18 => ?_) (fun hc18 => ?_)
      · refine rf_b2t c_140_18 rfl (decide_eq_true hc18) ?_
        refine rf_ald (i := 0) (Or.inr ⟨0, rfl, rfl, rfl⟩) c_140_24 rfl ?_
        refine rf_getr hS c_140_25 rfl fl_11_10 rfl h_x0 ?_
        refine rf_getr hS c_140_28 rfl fl_11_214 rfl (tf_11_0 h_x0) ?_
        refine rf_ild (i := 1) (Or.inr ⟨1, rfl, rfl, rfl⟩) c_140_31 rfl ?_
        refine rf_ite (fun hb32 => ?_) (fun _ => rf_none)
        refine rf_aald hS c_140_32 (by rw [(tf_7_3 (tf_11_0 h_x0))]; decide) (by rw [(tf_7_3 (tf_11_0 h_x0))]; decide) (lf_7_3 (tf_11_0 h_x0)) hb32 ?_
        refine rf_ast (i := 3) (Or.inr ⟨3, rfl, rfl, rfl⟩) c_140_33 (Nat.le_of_ble_eq_true rfl) rfl ?_
        refine rf_ald (i := 0) (Or.inr ⟨0, rfl, rfl, rfl⟩) c_140_34 rfl ?_
        refine rf_getr hS c_140_35 rfl fl_11_10 rfl h_x0 ?_
        refine rf_getr hS c_140_38 rfl fl_11_214 rfl (tf_11_0 h_x0) ?_
        refine rf_ild (i := 2) (Or.inr ⟨2, rfl, rfl, rfl⟩) c_140_41 rfl ?_
        refine rf_ite (fun hb42 => ?_) (fun _ => rf_none)
        refine rf_aald hS c_140_42 (by rw [(tf_7_3 (tf_11_0 h_x0))]; decide) (by rw [(tf_7_3 (tf_11_0 h_x0))]; decide) (lf_7_3 (tf_11_0 h_x0)) hb42 ?_
        refine rf_ast (i := 4) (Or.inl ⟨rfl, rfl⟩) c_140_43 (Nat.le_of_ble_eq_true rfl) rfl ?_
        refine rf_ald (i := 3) (Or.inr ⟨3, rfl, rfl, rfl⟩) c_140_45 rfl ?_
        refine rf_geti hS c_140_46 rfl fl_11_242 rfl (te_35 (tf_7_3 (tf_11_0 h_x0)) hb32) ?_
        refine rf_ald (i := 4) (Or.inl ⟨rfl, rfl⟩) c_140_49 rfl ?_
        refine rf_geti hS c_140_51 rfl fl_11_242 rfl (te_35 (tf_7_3 (tf_11_0 h_x0)) hb42) ?_
        refine rf_ite (fun hc54 => ?_) (fun hc54 => ?_)
        · refine rf_b2t c_140_54 rfl (decide_eq_true hc54) ?_
          exact t_Ct_quarrel_73 hS hd σ  (.ref x0) (.int x1) (.int x2) (.ref (rfT (rfT (rfT x0 0) 3) (ix x1))) (.ref (rfT (rfT (rfT x0 0) 3) (ix x2)))
        · refine rf_b2f c_140_54 rfl (decide_eq_false hc54) ?_
          refine rf_ald (i := 3) (Or.inr ⟨3, rfl, rfl, rfl⟩) c_140_57 rfl ?_
          refine rf_geti hS c_140_58 rfl fl_11_242 rfl (te_35 (tf_7_3 (tf_11_0 h_x0)) hb32) ?_
          refine rf_iconst c_140_61 ki_2 ?_
          refine rf_ite (fun hc62 => ?_) (fun hc62 => ?_)
          · refine rf_b2t c_140_62 rfl (decide_eq_true hc62) ?_
            exact t_Ct_quarrel_73 hS hd σ  (.ref x0) (.int x1) (.int x2) (.ref (rfT (rfT (rfT x0 0) 3) (ix x1))) (.ref (rfT (rfT (rfT x0 0) 3) (ix x2)))
          · refine rf_b2f c_140_62 rfl (decide_eq_false hc62) ?_
            refine rf_ald (i := 3) (Or.inr ⟨3, rfl, rfl, rfl⟩) c_140_65 rfl ?_
            refine rf_geti hS c_140_66 rfl fl_11_242 rfl (te_35 (tf_7_3 (tf_11_0 h_x0)) hb32) ?_
            refine rf_iconst c_140_69 ki_5 ?_
            refine rf_ite (fun hc70 => ?_) (fun hc70 => ?_)
            · refine rf_b2t c_140_70 rfl (decide_eq_true hc70) ?_
              refine rf_ald (i := 3) (Or.inr ⟨3, rfl, rfl, rfl⟩) c_140_76 rfl ?_
              refine rf_geti hS c_140_77 rfl fl_11_245 rfl (te_35 (tf_7_3 (tf_11_0 h_x0)) hb32) ?_
              refine rf_ald (i := 4) (Or.inl ⟨rfl, rfl⟩) c_140_80 rfl ?_
              refine rf_geti hS c_140_82 rfl fl_11_245 rfl (te_35 (tf_7_3 (tf_11_0 h_x0)) hb42) ?_
              refine rf_ite (fun hc85 => ?_) (fun hc85 => ?_)
              · refine rf_b2t c_140_85 rfl (decide_eq_true hc85) ?_
                refine rf_ald (i := 0) (Or.inr ⟨0, rfl, rfl, rfl⟩) c_140_93 rfl ?_
                refine rf_getr hS c_140_94 rfl fl_11_10 rfl h_x0 ?_
                refine rf_ald (i := 3) (Or.inr ⟨3, rfl, rfl, rfl⟩) c_140_97 rfl ?_
                refine rf_ald (i := 4) (Or.inl ⟨rfl, rfl⟩) c_140_98 rfl ?_
                refine rf_callI (as := [.ref (rfT x0 0), .ref (rfT (rfT (rfT x0 0) 3) (ix x1)), .ref (rfT (rfT (rfT x0 0) 3) (ix x2))]) (kd := 1) c_140_100 rfl (by decide) rfl ml_11_249 (by decide) rfl (rcv_1 hS rfl rfl (tf_11_0 h_x0) (by decide)) (Nat.zero_le _) rfl rfl (t_St_leastPaperOfBoth hS (by omega) σ (rfT x0 0) (rfT (rfT (rfT x0 0) 3) (ix x1)) (rfT (rfT (rfT x0 0) 3) (ix x2)) (tf_11_0 h_x0) (te_35 (tf_7_3 (tf_11_0 h_x0)) hb32) (te_35 (tf_7_3 (tf_11_0 h_x0)) hb42)) (fun v100 => ?_)
                exact t_Ct_quarrel_103 hS hd σ  v100 (.ref x0) (.int x1) (.int x2) (.ref (rfT (rfT (rfT x0 0) 3) (ix x1))) (.ref (rfT (rfT (rfT x0 0) 3) (ix x2)))
              · refine rf_b2f c_140_85 rfl (decide_eq_false hc85) ?_
                refine rf_ldc (Or.inl ⟨rfl, rfl⟩) c_140_88 rfl kl_11_248 ?_
                refine rf_goto c_140_90 rfl ?_
                exact t_Ct_quarrel_103 hS hd σ  (-1000000005 : Int32) (.ref x0) (.int x1) (.int x2) (.ref (rfT (rfT (rfT x0 0) 3) (ix x1))) (.ref (rfT (rfT (rfT x0 0) 3) (ix x2)))
            · refine rf_b2f c_140_70 rfl (decide_eq_false hc70) ?_
              exact t_Ct_quarrel_73 hS hd σ  (.ref x0) (.int x1) (.int x2) (.ref (rfT (rfT (rfT x0 0) 3) (ix x1))) (.ref (rfT (rfT (rfT x0 0) 3) (ix x2)))
      · refine rf_b2f c_140_18 rfl (decide_eq_false hc18) ?_
        exact t_Ct_quarrel_21 hS hd σ  (.ref x0) (.int x1) (.int x2) (unset0) (unset0)
theorem t_Ct_quarrel {X : Xt} {S : Sh} (hS : ShOK S) {d : Nat} (hd : 4 ≤ d) (σ : Mm) (x0 : Nat) (x1 : Int32) (x2 : Int32) (h_x0 : tgT x0 = 11) : Rf X S (emI σ) (f_Ct_quarrel σ x0 x1 x2) d 140 0 [.ref x0, .int x1, .int x2, unset0, unset0] [] σ := by
  obtain ⟨d1, rfl⟩ : ∃ d1, d = d1 + 1 := ⟨d - 1, by omega⟩
  exact t_Ct_quarrel_e hS hd σ x0 x1 x2 h_x0
theorem c_141_0 : cd 141 0 = some (.aload_n 0, 1) := by decide +kernel
theorem c_141_1 : cd 141 1 = some (.iload_n 1, 1) := by decide +kernel
theorem c_141_2 : cd 141 2 = some (.invokevirtual 149, 3) := by decide +kernel
theorem c_141_5 : cd 141 5 = some (.ifCond .eq (11), 3) := by decide +kernel
theorem c_141_8 : cd 141 8 = some (.aload_n 0, 1) := by decide +kernel
theorem c_141_9 : cd 141 9 = some (.iload_n 2, 1) := by decide +kernel
theorem c_141_10 : cd 141 10 = some (.invokevirtual 105, 3) := by decide +kernel
theorem c_141_13 : cd 141 13 = some (.ifCond .ne (6), 3) := by decide +kernel
theorem c_141_16 : cd 141 16 = some (.ldc 72, 2) := by decide +kernel
theorem c_141_18 : cd 141 18 = some (.ireturn, 1) := by decide +kernel
theorem c_141_19 : cd 141 19 = some (.aload_n 0, 1) := by decide +kernel
theorem c_141_20 : cd 141 20 = some (.getfield 10, 3) := by decide +kernel
theorem c_141_23 : cd 141 23 = some (.aload_n 0, 1) := by decide +kernel
theorem c_141_24 : cd 141 24 = some (.getfield 10, 3) := by decide +kernel
theorem c_141_27 : cd 141 27 = some (.getfield 139, 3) := by decide +kernel
theorem c_141_30 : cd 141 30 = some (.iload_n 1, 1) := by decide +kernel
theorem c_141_31 : cd 141 31 = some (.aaload, 1) := by decide +kernel
theorem c_141_32 : cd 141 32 = some (.iload_n 2, 1) := by decide +kernel
theorem c_141_33 : cd 141 33 = some (.invokevirtual 253, 3) := by decide +kernel
theorem c_141_36 : cd 141 36 = some (.ireturn, 1) := by decide +kernel
def f_Ct_lacks_16 (σ : Mm) : Option Int32 := some (-1000000001 : Int32)
set_option maxRecDepth 100000 in
set_option maxHeartbeats 4000000 in
theorem t_Ct_lacks_16 {X : Xt} {S : Sh} (hS : ShOK S) {d : Nat} (hd : 10 ≤ d + 1) (σ : Mm) (u0 : Value) (u1 : Value) (u2 : Value) : Rf X S (emI σ) (f_Ct_lacks_16 σ) (d + 1) 141 16 [u0, u1, u2] [] σ := by
  unfold f_Ct_lacks_16
  refine rf_ldc (Or.inl ⟨rfl, rfl⟩) c_141_16 rfl kl_11_72 ?_
  exact rf_ret c_141_18 rfl rfl rfl rfl
def f_Ct_lacks (σ : Mm) (x0 : Nat) (x1 : Int32) (x2 : Int32) : Option Int32 := (f_Ct_isPaper σ x0 x1).bind fun v2 => (if v2 = 0 then (f_Ct_lacks_16 σ ) else ((f_Ct_isTable σ x0 x2).bind fun v10 => (if ¬ v10 = 0 then (if inbB x1 24 = true then (f_St_whatLacks σ (rfT x0 0) (rfT (rfT (rfT x0 0) 2) (ix x1)) x2).bind fun v33 => some v33 else none) else (f_Ct_lacks_16 σ ))))
set_option maxRecDepth 100000 in
set_option maxHeartbeats 4000000 in
theorem t_Ct_lacks_e {X : Xt} {S : Sh} (hS : ShOK S) {d : Nat} (hd : 10 ≤ d + 1) (σ : Mm) (x0 : Nat) (x1 : Int32) (x2 : Int32) (h_x0 : tgT x0 = 11) : Rf X S (emI σ) (f_Ct_lacks σ x0 x1 x2) (d + 1) 141 0 [.ref x0, .int x1, .int x2] [] σ := by
  unfold f_Ct_lacks
  refine rf_ald (i := 0) (Or.inr ⟨0, rfl, rfl, rfl⟩) c_141_0 rfl ?_
  refine rf_ild (i := 1) (Or.inr ⟨1, rfl, rfl, rfl⟩) c_141_1 rfl ?_
  refine rf_callI (as := [.ref x0, .int x1]) (kd := 1) c_141_2 rfl (by decide) rfl ml_11_149 (by decide) rfl (rcv_1 hS rfl rfl h_x0 (by decide)) (Nat.zero_le _) rfl rfl (t_Ct_isPaper hS (by omega) σ x0 x1 h_x0) (fun v2 => ?_)
  refine rf_ite (fun hc5 => ?_) (fun hc5 => ?_)
  · refine rf_b1t c_141_5 rfl (decide_eq_true hc5) ?_
    exact t_Ct_lacks_16 hS hd σ  (.ref x0) (.int x1) (.int x2)
  · refine rf_b1f c_141_5 rfl (decide_eq_false hc5) ?_
    refine rf_ald (i := 0) (Or.inr ⟨0, rfl, rfl, rfl⟩) c_141_8 rfl ?_
    refine rf_ild (i := 2) (Or.inr ⟨2, rfl, rfl, rfl⟩) c_141_9 rfl ?_
    refine rf_callI (as := [.ref x0, .int x2]) (kd := 1) c_141_10 rfl (by decide) rfl ml_11_105 (by decide) rfl (rcv_1 hS rfl rfl h_x0 (by decide)) (Nat.zero_le _) rfl rfl (t_Ct_isTable hS (by omega) σ x0 x2 h_x0) (fun v10 => ?_)
    refine rf_ite (fun hc13 => ?_) (fun hc13 => ?_)
    · refine rf_b1t c_141_13 rfl (decide_eq_true hc13) ?_
      refine rf_ald (i := 0) (Or.inr ⟨0, rfl, rfl, rfl⟩) c_141_19 rfl ?_
      refine rf_getr hS c_141_20 rfl fl_11_10 rfl h_x0 ?_
      refine rf_ald (i := 0) (Or.inr ⟨0, rfl, rfl, rfl⟩) c_141_23 rfl ?_
      refine rf_getr hS c_141_24 rfl fl_11_10 rfl h_x0 ?_
      refine rf_getr hS c_141_27 rfl fl_11_139 rfl (tf_11_0 h_x0) ?_
      refine rf_ild (i := 1) (Or.inr ⟨1, rfl, rfl, rfl⟩) c_141_30 rfl ?_
      refine rf_ite (fun hb31 => ?_) (fun _ => rf_none)
      refine rf_aald hS c_141_31 (by rw [(tf_7_2 (tf_11_0 h_x0))]; decide) (by rw [(tf_7_2 (tf_11_0 h_x0))]; decide) (lf_7_2 (tf_11_0 h_x0)) hb31 ?_
      refine rf_ild (i := 2) (Or.inr ⟨2, rfl, rfl, rfl⟩) c_141_32 rfl ?_
      refine rf_callI (as := [.ref (rfT x0 0), .ref (rfT (rfT (rfT x0 0) 2) (ix x1)), .int x2]) (kd := 1) c_141_33 rfl (by decide) rfl ml_11_253 (by decide) rfl (rcv_1 hS rfl rfl (tf_11_0 h_x0) (by decide)) (Nat.zero_le _) rfl rfl (t_St_whatLacks hS (by omega) σ (rfT x0 0) (rfT (rfT (rfT x0 0) 2) (ix x1)) x2 (tf_11_0 h_x0) (te_33 (tf_7_2 (tf_11_0 h_x0)) hb31)) (fun v33 => ?_)
      exact rf_ret c_141_36 rfl rfl rfl rfl
    · refine rf_b1f c_141_13 rfl (decide_eq_false hc13) ?_
      exact t_Ct_lacks_16 hS hd σ  (.ref x0) (.int x1) (.int x2)
theorem t_Ct_lacks {X : Xt} {S : Sh} (hS : ShOK S) {d : Nat} (hd : 10 ≤ d) (σ : Mm) (x0 : Nat) (x1 : Int32) (x2 : Int32) (h_x0 : tgT x0 = 11) : Rf X S (emI σ) (f_Ct_lacks σ x0 x1 x2) d 141 0 [.ref x0, .int x1, .int x2] [] σ := by
  obtain ⟨d1, rfl⟩ : ∃ d1, d = d1 + 1 := ⟨d - 1, by omega⟩
  exact t_Ct_lacks_e hS hd σ x0 x1 x2 h_x0
theorem c_142_0 : cd 142 0 = some (.aload_n 0, 1) := by decide +kernel
theorem c_142_1 : cd 142 1 = some (.iload_n 1, 1) := by decide +kernel
theorem c_142_2 : cd 142 2 = some (.invokevirtual 149, 3) := by decide +kernel
theorem c_142_5 : cd 142 5 = some (.ifCond .eq (25), 3) := by decide +kernel
theorem c_142_8 : cd 142 8 = some (.aload_n 0, 1) := by decide +kernel
theorem c_142_9 : cd 142 9 = some (.iload_n 2, 1) := by decide +kernel
theorem c_142_10 : cd 142 10 = some (.invokevirtual 105, 3) := by decide +kernel
theorem c_142_13 : cd 142 13 = some (.ifCond .eq (17), 3) := by decide +kernel
theorem c_142_16 : cd 142 16 = some (.iload_n 3, 1) := by decide +kernel
theorem c_142_17 : cd 142 17 = some (.ldc 248, 2) := by decide +kernel
theorem c_142_19 : cd 142 19 = some (.if_icmp .eq (14), 3) := by decide +kernel
theorem c_142_22 : cd 142 22 = some (.aload_n 0, 1) := by decide +kernel
theorem c_142_23 : cd 142 23 = some (.iload_n 3, 1) := by decide +kernel
theorem c_142_24 : cd 142 24 = some (.invokevirtual 64, 3) := by decide +kernel
theorem c_142_27 : cd 142 27 = some (.ifCond .ne (6), 3) := by decide +kernel
theorem c_142_30 : cd 142 30 = some (.ldc 72, 2) := by decide +kernel
theorem c_142_32 : cd 142 32 = some (.ireturn, 1) := by decide +kernel
theorem c_142_33 : cd 142 33 = some (.aload_n 0, 1) := by decide +kernel
theorem c_142_34 : cd 142 34 = some (.getfield 10, 3) := by decide +kernel
theorem c_142_37 : cd 142 37 = some (.getfield 139, 3) := by decide +kernel
theorem c_142_40 : cd 142 40 = some (.iload_n 1, 1) := by decide +kernel
theorem c_142_41 : cd 142 41 = some (.aaload, 1) := by decide +kernel
theorem c_142_42 : cd 142 42 = some (.astore 4, 2) := by decide +kernel
theorem c_142_44 : cd 142 44 = some (.aload_n 0, 1) := by decide +kernel
theorem c_142_45 : cd 142 45 = some (.getfield 10, 3) := by decide +kernel
theorem c_142_48 : cd 142 48 = some (.aload 4, 2) := by decide +kernel
theorem c_142_50 : cd 142 50 = some (.iload_n 2, 1) := by decide +kernel
theorem c_142_51 : cd 142 51 = some (.invokevirtual 253, 3) := by decide +kernel
theorem c_142_54 : cd 142 54 = some (.istore 5, 2) := by decide +kernel
theorem c_142_56 : cd 142 56 = some (.iload 5, 2) := by decide +kernel
theorem c_142_58 : cd 142 58 = some (.iconst (1), 1) := by decide +kernel
theorem c_142_59 : cd 142 59 = some (.if_icmp .eq (23), 3) := by decide +kernel
theorem c_142_62 : cd 142 62 = some (.iload 5, 2) := by decide +kernel
theorem c_142_64 : cd 142 64 = some (.ifCond .eq (21), 3) := by decide +kernel
theorem c_142_67 : cd 142 67 = some (.aload_n 0, 1) := by decide +kernel
theorem c_142_68 : cd 142 68 = some (.getfield 10, 3) := by decide +kernel
theorem c_142_71 : cd 142 71 = some (.getfield 96, 3) := by decide +kernel
theorem c_142_74 : cd 142 74 = some (.iload_n 2, 1) := by decide +kernel
theorem c_142_75 : cd 142 75 = some (.iload_n 3, 1) := by decide +kernel
theorem c_142_76 : cd 142 76 = some (.invokevirtual 256, 3) := by decide +kernel
theorem c_142_79 : cd 142 79 = some (.ifCond .ne (6), 3) := by decide +kernel
theorem c_142_82 : cd 142 82 = some (.ldc 169, 2) := by decide +kernel
theorem c_142_84 : cd 142 84 = some (.ireturn, 1) := by decide +kernel
theorem c_142_85 : cd 142 85 = some (.aload 4, 2) := by decide +kernel
theorem c_142_87 : cd 142 87 = some (.aload_n 0, 1) := by decide +kernel
theorem c_142_88 : cd 142 88 = some (.getfield 10, 3) := by decide +kernel
theorem c_142_91 : cd 142 91 = some (.getfield 73, 3) := by decide +kernel
theorem c_142_94 : cd 142 94 = some (.aload 4, 2) := by decide +kernel
theorem c_142_96 : cd 142 96 = some (.getfield 170, 3) := by decide +kernel
theorem c_142_99 : cd 142 99 = some (.isub, 1) := by decide +kernel
theorem c_142_100 : cd 142 100 = some (.aload_n 0, 1) := by decide +kernel
theorem c_142_101 : cd 142 101 = some (.getfield 10, 3) := by decide +kernel
theorem c_142_104 : cd 142 104 = some (.aload 4, 2) := by decide +kernel
theorem c_142_106 : cd 142 106 = some (.iconst (1), 1) := by decide +kernel
theorem c_142_107 : cd 142 107 = some (.invokevirtual 235, 3) := by decide +kernel
theorem c_142_110 : cd 142 110 = some (.isub, 1) := by decide +kernel
theorem c_142_111 : cd 142 111 = some (.putfield 259, 3) := by decide +kernel
theorem c_142_114 : cd 142 114 = some (.aload 4, 2) := by decide +kernel
theorem c_142_116 : cd 142 116 = some (.iload 5, 2) := by decide +kernel
theorem c_142_118 : cd 142 118 = some (.ifCond .ne (8), 3) := by decide +kernel
theorem c_142_121 : cd 142 121 = some (.ldc 248, 2) := by decide +kernel
theorem c_142_123 : cd 142 123 = some (.goto (4), 3) := by decide +kernel
theorem c_142_126 : cd 142 126 = some (.iload_n 3, 1) := by decide +kernel
theorem c_142_127 : cd 142 127 = some (.putfield 262, 3) := by decide +kernel
theorem c_142_130 : cd 142 130 = some (.aload 4, 2) := by decide +kernel
theorem c_142_132 : cd 142 132 = some (.iload_n 2, 1) := by decide +kernel
theorem c_142_133 : cd 142 133 = some (.aload_n 0, 1) := by decide +kernel
theorem c_142_134 : cd 142 134 = some (.getfield 10, 3) := by decide +kernel
theorem c_142_137 : cd 142 137 = some (.getfield 73, 3) := by decide +kernel
theorem c_142_140 : cd 142 140 = some (.invokevirtual 265, 3) := by decide +kernel
theorem c_142_143 : cd 142 143 = some (.iload 5, 2) := by decide +kernel
theorem c_142_145 : cd 142 145 = some (.ireturn, 1) := by decide +kernel
def f_Ct_come_30 (σ : Mm) : Option (Int32 × Mm) := some ((-1000000001 : Int32), σ)
set_option maxRecDepth 100000 in
set_option maxHeartbeats 4000000 in
theorem t_Ct_come_30 {X : Xt} {S : Sh} (hS : ShOK S) {d : Nat} (hd : 10 ≤ d + 1) (u0 : Value) (u1 : Value) (u2 : Value) (u3 : Value) (u4 : Value) (u5 : Value) (σ : Mm) : Rf X S emM (f_Ct_come_30 σ) (d + 1) 142 30 [u0, u1, u2, u3, u4, u5] [] σ := by
  unfold f_Ct_come_30
  refine rf_ldc (Or.inl ⟨rfl, rfl⟩) c_142_30 rfl kl_11_72 ?_
  exact rf_ret c_142_32 rfl rfl rfl rfl
def f_Ct_come_82 (σ : Mm) : Option (Int32 × Mm) := some ((-1000000002 : Int32), σ)
set_option maxRecDepth 100000 in
set_option maxHeartbeats 4000000 in
theorem t_Ct_come_82 {X : Xt} {S : Sh} (hS : ShOK S) {d : Nat} (hd : 10 ≤ d + 1) (u0 : Value) (u1 : Value) (u2 : Value) (u3 : Value) (u4 : Value) (u5 : Value) (σ : Mm) : Rf X S emM (f_Ct_come_82 σ) (d + 1) 142 82 [u0, u1, u2, u3, u4, u5] [] σ := by
  unfold f_Ct_come_82
  refine rf_ldc (Or.inl ⟨rfl, rfl⟩) c_142_82 rfl kl_11_169 ?_
  exact rf_ret c_142_84 rfl rfl rfl rfl
def f_Ct_come_127 (x0 : Nat) (x2 : Int32) (x4 : Nat) (x5 : Int32) (y0 : Nat) (y1 : Int32) (σ : Mm) : Option (Int32 × Mm) := nmM (up2 σ y0 11 y1) fun σ127 => (f_Pa_arrive x4 x2 (σ127 (rfT x0 0) 8) σ127).bind fun v140 => some (x5, v140)
set_option maxRecDepth 100000 in
set_option maxHeartbeats 4000000 in
theorem t_Ct_come_127 {X : Xt} {S : Sh} (hS : ShOK S) {d : Nat} (hd : 10 ≤ d + 1) (x0 : Nat) (x2 : Int32) (x4 : Nat) (x5 : Int32) (y0 : Nat) (y1 : Int32) (u1 : Value) (u3 : Value) (σ : Mm) (h_x0 : tgT x0 = 11) (h_x4 : tgT x4 = 3) (h_y0 : tgT y0 = 3) : Rf X S emM (f_Ct_come_127 x0 x2 x4 x5 y0 y1 σ) (d + 1) 142 127 [.ref x0, u1, .int x2, u3, .ref x4, .int x5] [.int y1, .ref y0] σ := by
  unfold f_Ct_come_127
  refine rf_puti hS c_142_127 rfl fl_11_262 rfl rfl rfl rfl h_y0 ?_
  refine rf_nm (fun σ127 => ?_)
  refine rf_ald (i := 4) (Or.inl ⟨rfl, rfl⟩) c_142_130 rfl ?_
  refine rf_ild (i := 2) (Or.inr ⟨2, rfl, rfl, rfl⟩) c_142_132 rfl ?_
  refine rf_ald (i := 0) (Or.inr ⟨0, rfl, rfl, rfl⟩) c_142_133 rfl ?_
  refine rf_getr hS c_142_134 rfl fl_11_10 rfl h_x0 ?_
  refine rf_geti hS c_142_137 rfl fl_11_73 rfl (tf_11_0 h_x0) ?_
  refine rf_callV (as := [.ref x4, .int x2, .int (σ127 (rfT x0 0) 8)]) (kd := 1) c_142_140 rfl (by decide) rfl ml_11_265 (by decide) rfl (rcv_1 hS rfl rfl h_x4 (by decide)) (Nat.zero_le _) rfl rfl (t_Pa_arrive hS (by omega) x4 x2 (σ127 (rfT x0 0) 8) σ127 h_x4) (fun v140 => ?_)
  refine rf_ild (i := 5) (Or.inl ⟨rfl, rfl⟩) c_142_143 rfl ?_
  exact rf_ret c_142_145 rfl rfl rfl rfl
def f_Ct_come_85 (x0 : Nat) (x2 : Int32) (x3 : Int32) (x4 : Nat) (x5 : Int32) (σ : Mm) : Option (Int32 × Mm) := (f_St_dueOf σ (rfT x0 0) x4 (1 : Int32)).bind fun v107 => nmM (up2 σ x4 13 (((σ (rfT x0 0) 8) - (σ x4 5)) - v107)) fun σ111 => (if ¬ x5 = 0 then (f_Ct_come_127  x0 x2 x4 x5 x4 x3 σ111) else (f_Ct_come_127  x0 x2 x4 x5 x4 (-1000000005 : Int32) σ111))
set_option maxRecDepth 100000 in
set_option maxHeartbeats 4000000 in
theorem t_Ct_come_85 {X : Xt} {S : Sh} (hS : ShOK S) {d : Nat} (hd : 10 ≤ d + 1) (x0 : Nat) (x2 : Int32) (x3 : Int32) (x4 : Nat) (x5 : Int32) (u1 : Value) (σ : Mm) (h_x0 : tgT x0 = 11) (h_x4 : tgT x4 = 3) : Rf X S emM (f_Ct_come_85 x0 x2 x3 x4 x5 σ) (d + 1) 142 85 [.ref x0, u1, .int x2, .int x3, .ref x4, .int x5] [] σ := by
  unfold f_Ct_come_85
  refine rf_ald (i := 4) (Or.inl ⟨rfl, rfl⟩) c_142_85 rfl ?_
  refine rf_ald (i := 0) (Or.inr ⟨0, rfl, rfl, rfl⟩) c_142_87 rfl ?_
  refine rf_getr hS c_142_88 rfl fl_11_10 rfl h_x0 ?_
  refine rf_geti hS c_142_91 rfl fl_11_73 rfl (tf_11_0 h_x0) ?_
  refine rf_ald (i := 4) (Or.inl ⟨rfl, rfl⟩) c_142_94 rfl ?_
  refine rf_geti hS c_142_96 rfl fl_11_170 rfl h_x4 ?_
  refine rf_isub c_142_99 ?_
  refine rf_ald (i := 0) (Or.inr ⟨0, rfl, rfl, rfl⟩) c_142_100 rfl ?_
  refine rf_getr hS c_142_101 rfl fl_11_10 rfl h_x0 ?_
  refine rf_ald (i := 4) (Or.inl ⟨rfl, rfl⟩) c_142_104 rfl ?_
  refine rf_iconst c_142_106 ki_1 ?_
  refine rf_callI (as := [.ref (rfT x0 0), .ref x4, .int (1 : Int32)]) (kd := 1) c_142_107 rfl (by decide) rfl ml_11_235 (by decide) rfl (rcv_1 hS rfl rfl (tf_11_0 h_x0) (by decide)) (by simp [Value.category]) rfl rfl (t_St_dueOf hS (by omega) σ (rfT x0 0) x4 (1 : Int32) (tf_11_0 h_x0) h_x4) (fun v107 => ?_)
  refine rf_isub c_142_110 ?_
  refine rf_puti hS c_142_111 rfl fl_11_259 rfl rfl rfl rfl h_x4 ?_
  refine rf_nm (fun σ111 => ?_)
  refine rf_ald (i := 4) (Or.inl ⟨rfl, rfl⟩) c_142_114 rfl ?_
  refine rf_ild (i := 5) (Or.inl ⟨rfl, rfl⟩) c_142_116 rfl ?_
  refine rf_ite (fun hc118 => ?_) (fun hc118 => ?_)
  · refine rf_b1t c_142_118 rfl (decide_eq_true hc118) ?_
    refine rf_ild (i := 3) (Or.inr ⟨3, rfl, rfl, rfl⟩) c_142_126 rfl ?_
    exact t_Ct_come_127 hS hd  x0 x2 x4 x5 x4 x3 (u1) (.int x3) σ111 h_x0 h_x4 h_x4
  · refine rf_b1f c_142_118 rfl (decide_eq_false hc118) ?_
    refine rf_ldc (Or.inl ⟨rfl, rfl⟩) c_142_121 rfl kl_11_248 ?_
    refine rf_goto c_142_123 rfl ?_
    exact t_Ct_come_127 hS hd  x0 x2 x4 x5 x4 (-1000000005 : Int32) (u1) (.int x3) σ111 h_x0 h_x4 h_x4
def f_Ct_come_33 (x0 : Nat) (x1 : Int32) (x2 : Int32) (x3 : Int32) (σ : Mm) : Option (Int32 × Mm) := if inbB x1 24 = true then (f_St_whatLacks σ (rfT x0 0) (rfT (rfT (rfT x0 0) 2) (ix x1)) x2).bind fun v51 => (if v51 = (1 : Int32) then (f_Ct_come_82  σ) else (if v51 = 0 then (f_Ct_come_85  x0 x2 x3 (rfT (rfT (rfT x0 0) 2) (ix x1)) v51 σ) else ((f_Tb_hasSeat σ (rfT (rfT x0 0) 1) x2 x3).bind fun v76 => (if ¬ v76 = 0 then (f_Ct_come_85  x0 x2 x3 (rfT (rfT (rfT x0 0) 2) (ix x1)) v51 σ) else (f_Ct_come_82  σ))))) else none
set_option maxRecDepth 100000 in
set_option maxHeartbeats 4000000 in
theorem t_Ct_come_33 {X : Xt} {S : Sh} (hS : ShOK S) {d : Nat} (hd : 10 ≤ d + 1) (x0 : Nat) (x1 : Int32) (x2 : Int32) (x3 : Int32) (u4 : Value) (u5 : Value) (σ : Mm) (h_x0 : tgT x0 = 11) : Rf X S emM (f_Ct_come_33 x0 x1 x2 x3 σ) (d + 1) 142 33 [.ref x0, .int x1, .int x2, .int x3, u4, u5] [] σ := by
  unfold f_Ct_come_33
  refine rf_ald (i := 0) (Or.inr ⟨0, rfl, rfl, rfl⟩) c_142_33 rfl ?_
  refine rf_getr hS c_142_34 rfl fl_11_10 rfl h_x0 ?_
  refine rf_getr hS c_142_37 rfl fl_11_139 rfl (tf_11_0 h_x0) ?_
  refine rf_ild (i := 1) (Or.inr ⟨1, rfl, rfl, rfl⟩) c_142_40 rfl ?_
  refine rf_ite (fun hb41 => ?_) (fun _ => rf_none)
  refine rf_aald hS c_142_41 (by rw [(tf_7_2 (tf_11_0 h_x0))]; decide) (by rw [(tf_7_2 (tf_11_0 h_x0))]; decide) (lf_7_2 (tf_11_0 h_x0)) hb41 ?_
  refine rf_ast (i := 4) (Or.inl ⟨rfl, rfl⟩) c_142_42 (Nat.le_of_ble_eq_true rfl) rfl ?_
  refine rf_ald (i := 0) (Or.inr ⟨0, rfl, rfl, rfl⟩) c_142_44 rfl ?_
  refine rf_getr hS c_142_45 rfl fl_11_10 rfl h_x0 ?_
  refine rf_ald (i := 4) (Or.inl ⟨rfl, rfl⟩) c_142_48 rfl ?_
  refine rf_ild (i := 2) (Or.inr ⟨2, rfl, rfl, rfl⟩) c_142_50 rfl ?_
  refine rf_callI (as := [.ref (rfT x0 0), .ref (rfT (rfT (rfT x0 0) 2) (ix x1)), .int x2]) (kd := 1) c_142_51 rfl (by decide) rfl ml_11_253 (by decide) rfl (rcv_1 hS rfl rfl (tf_11_0 h_x0) (by decide)) (Nat.zero_le _) rfl rfl (t_St_whatLacks hS (by omega) σ (rfT x0 0) (rfT (rfT (rfT x0 0) 2) (ix x1)) x2 (tf_11_0 h_x0) (te_33 (tf_7_2 (tf_11_0 h_x0)) hb41)) (fun v51 => ?_)
  refine rf_ist (i := 5) (Or.inl ⟨rfl, rfl⟩) c_142_54 (Nat.le_of_ble_eq_true rfl) rfl ?_
  refine rf_ild (i := 5) (Or.inl ⟨rfl, rfl⟩) c_142_56 rfl ?_
  refine rf_iconst c_142_58 ki_1 ?_
  refine rf_ite (fun hc59 => ?_) (fun hc59 => ?_)
  · refine rf_b2t c_142_59 rfl (decide_eq_true hc59) ?_
    exact t_Ct_come_82 hS hd  (.ref x0) (.int x1) (.int x2) (.int x3) (.ref (rfT (rfT (rfT x0 0) 2) (ix x1))) (.int v51) σ
  · refine rf_b2f c_142_59 rfl (decide_eq_false hc59) ?_
    refine rf_ild (i := 5) (Or.inl ⟨rfl, rfl⟩) c_142_62 rfl ?_
    refine rf_ite (fun hc64 => ?_) (fun hc64 => ?_)
    · refine rf_b1t c_142_64 rfl (decide_eq_true hc64) ?_
      exact t_Ct_come_85 hS hd  x0 x2 x3 (rfT (rfT (rfT x0 0) 2) (ix x1)) v51 (.int x1) σ h_x0 (te_33 (tf_7_2 (tf_11_0 h_x0)) hb41)
    · refine rf_b1f c_142_64 rfl (decide_eq_false hc64) ?_
      refine rf_ald (i := 0) (Or.inr ⟨0, rfl, rfl, rfl⟩) c_142_67 rfl ?_
      refine rf_getr hS c_142_68 rfl fl_11_10 rfl h_x0 ?_
      refine rf_getr hS c_142_71 rfl fl_11_96 rfl (tf_11_0 h_x0) ?_
      refine rf_ild (i := 2) (Or.inr ⟨2, rfl, rfl, rfl⟩) c_142_74 rfl ?_
      refine rf_ild (i := 3) (Or.inr ⟨3, rfl, rfl, rfl⟩) c_142_75 rfl ?_
      refine rf_callI (as := [.ref (rfT (rfT x0 0) 1), .int x2, .int x3]) (kd := 1) c_142_76 rfl (by decide) rfl ml_11_256 (by decide) rfl (rcv_1 hS rfl rfl (tf_7_1 (tf_11_0 h_x0)) (by decide)) (Nat.zero_le _) rfl rfl (t_Tb_hasSeat hS (by omega) σ (rfT (rfT x0 0) 1) x2 x3 (tf_7_1 (tf_11_0 h_x0))) (fun v76 => ?_)
      refine rf_ite (fun hc79 => ?_) (fun hc79 => ?_)
      · refine rf_b1t c_142_79 rfl (decide_eq_true hc79) ?_
        exact t_Ct_come_85 hS hd  x0 x2 x3 (rfT (rfT (rfT x0 0) 2) (ix x1)) v51 (.int x1) σ h_x0 (te_33 (tf_7_2 (tf_11_0 h_x0)) hb41)
      · refine rf_b1f c_142_79 rfl (decide_eq_false hc79) ?_
        exact t_Ct_come_82 hS hd  (.ref x0) (.int x1) (.int x2) (.int x3) (.ref (rfT (rfT (rfT x0 0) 2) (ix x1))) (.int v51) σ
def f_Ct_come (x0 : Nat) (x1 : Int32) (x2 : Int32) (x3 : Int32) (σ : Mm) : Option (Int32 × Mm) := (f_Ct_isPaper σ x0 x1).bind fun v2 => (if v2 = 0 then (f_Ct_come_30  σ) else ((f_Ct_isTable σ x0 x2).bind fun v10 => (if v10 = 0 then (f_Ct_come_30  σ) else (if x3 = (-1000000005 : Int32) then (f_Ct_come_33  x0 x1 x2 x3 σ) else ((f_Ct_isOffice σ x0 x3).bind fun v24 => (if ¬ v24 = 0 then (f_Ct_come_33  x0 x1 x2 x3 σ) else (f_Ct_come_30  σ)))))))
set_option maxRecDepth 100000 in
set_option maxHeartbeats 4000000 in
theorem t_Ct_come_e {X : Xt} {S : Sh} (hS : ShOK S) {d : Nat} (hd : 10 ≤ d + 1) (x0 : Nat) (x1 : Int32) (x2 : Int32) (x3 : Int32) (σ : Mm) (h_x0 : tgT x0 = 11) : Rf X S emM (f_Ct_come x0 x1 x2 x3 σ) (d + 1) 142 0 [.ref x0, .int x1, .int x2, .int x3, unset0, unset0] [] σ := by
  unfold f_Ct_come
  refine rf_ald (i := 0) (Or.inr ⟨0, rfl, rfl, rfl⟩) c_142_0 rfl ?_
  refine rf_ild (i := 1) (Or.inr ⟨1, rfl, rfl, rfl⟩) c_142_1 rfl ?_
  refine rf_callI (as := [.ref x0, .int x1]) (kd := 1) c_142_2 rfl (by decide) rfl ml_11_149 (by decide) rfl (rcv_1 hS rfl rfl h_x0 (by decide)) (Nat.zero_le _) rfl rfl (t_Ct_isPaper hS (by omega) σ x0 x1 h_x0) (fun v2 => ?_)
  refine rf_ite (fun hc5 => ?_) (fun hc5 => ?_)
  · refine rf_b1t c_142_5 rfl (decide_eq_true hc5) ?_
    exact t_Ct_come_30 hS hd  (.ref x0) (.int x1) (.int x2) (.int x3) (unset0) (unset0) σ
  · refine rf_b1f c_142_5 rfl (decide_eq_false hc5) ?_
    refine rf_ald (i := 0) (Or.inr ⟨0, rfl, rfl, rfl⟩) c_142_8 rfl ?_
    refine rf_ild (i := 2) (Or.inr ⟨2, rfl, rfl, rfl⟩) c_142_9 rfl ?_
    refine rf_callI (as := [.ref x0, .int x2]) (kd := 1) c_142_10 rfl (by decide) rfl ml_11_105 (by decide) rfl (rcv_1 hS rfl rfl h_x0 (by decide)) (Nat.zero_le _) rfl rfl (t_Ct_isTable hS (by omega) σ x0 x2 h_x0) (fun v10 => ?_)
    refine rf_ite (fun hc13 => ?_) (fun hc13 => ?_)
    · refine rf_b1t c_142_13 rfl (decide_eq_true hc13) ?_
      exact t_Ct_come_30 hS hd  (.ref x0) (.int x1) (.int x2) (.int x3) (unset0) (unset0) σ
    · refine rf_b1f c_142_13 rfl (decide_eq_false hc13) ?_
      refine rf_ild (i := 3) (Or.inr ⟨3, rfl, rfl, rfl⟩) c_142_16 rfl ?_
      refine rf_ldc (Or.inl ⟨rfl, rfl⟩) c_142_17 rfl kl_11_248 ?_
      refine rf_ite (fun hc19 => ?_) (fun hc19 => ?_)
      · refine rf_b2t c_142_19 rfl (decide_eq_true hc19) ?_
        exact t_Ct_come_33 hS hd  x0 x1 x2 x3 (unset0) (unset0) σ h_x0
      · refine rf_b2f c_142_19 rfl (decide_eq_false hc19) ?_
        refine rf_ald (i := 0) (Or.inr ⟨0, rfl, rfl, rfl⟩) c_142_22 rfl ?_
        refine rf_ild (i := 3) (Or.inr ⟨3, rfl, rfl, rfl⟩) c_142_23 rfl ?_
        refine rf_callI (as := [.ref x0, .int x3]) (kd := 1) c_142_24 rfl (by decide) rfl ml_11_64 (by decide) rfl (rcv_1 hS rfl rfl h_x0 (by decide)) (Nat.zero_le _) rfl rfl (t_Ct_isOffice hS (by omega) σ x0 x3 h_x0) (fun v24 => ?_)
        refine rf_ite (fun hc27 => ?_) (fun hc27 => ?_)
        · refine rf_b1t c_142_27 rfl (decide_eq_true hc27) ?_
          exact t_Ct_come_33 hS hd  x0 x1 x2 x3 (unset0) (unset0) σ h_x0
        · refine rf_b1f c_142_27 rfl (decide_eq_false hc27) ?_
          exact t_Ct_come_30 hS hd  (.ref x0) (.int x1) (.int x2) (.int x3) (unset0) (unset0) σ
theorem t_Ct_come {X : Xt} {S : Sh} (hS : ShOK S) {d : Nat} (hd : 10 ≤ d) (x0 : Nat) (x1 : Int32) (x2 : Int32) (x3 : Int32) (σ : Mm) (h_x0 : tgT x0 = 11) : Rf X S emM (f_Ct_come x0 x1 x2 x3 σ) d 142 0 [.ref x0, .int x1, .int x2, .int x3, unset0, unset0] [] σ := by
  obtain ⟨d1, rfl⟩ : ∃ d1, d = d1 + 1 := ⟨d - 1, by omega⟩
  exact t_Ct_come_e hS hd x0 x1 x2 x3 σ h_x0
theorem c_143_0 : cd 143 0 = some (.aload_n 0, 1) := by decide +kernel
theorem c_143_1 : cd 143 1 = some (.iload_n 1, 1) := by decide +kernel
theorem c_143_2 : cd 143 2 = some (.invokevirtual 149, 3) := by decide +kernel
theorem c_143_5 : cd 143 5 = some (.ifCond .eq (27), 3) := by decide +kernel
theorem c_143_8 : cd 143 8 = some (.iload_n 2, 1) := by decide +kernel
theorem c_143_9 : cd 143 9 = some (.iconst (0), 1) := by decide +kernel
theorem c_143_10 : cd 143 10 = some (.bipush (99), 2) := by decide +kernel
theorem c_143_12 : cd 143 12 = some (.invokestatic 92, 3) := by decide +kernel
theorem c_143_15 : cd 143 15 = some (.ifCond .eq (17), 3) := by decide +kernel
theorem c_143_18 : cd 143 18 = some (.aload_n 0, 1) := by decide +kernel
theorem c_143_19 : cd 143 19 = some (.getfield 10, 3) := by decide +kernel
theorem c_143_22 : cd 143 22 = some (.getfield 269, 3) := by decide +kernel
theorem c_143_25 : cd 143 25 = some (.iload_n 3, 1) := by decide +kernel
theorem c_143_26 : cd 143 26 = some (.invokevirtual 273, 3) := by decide +kernel
theorem c_143_29 : cd 143 29 = some (.ifCond .ne (6), 3) := by decide +kernel
theorem c_143_32 : cd 143 32 = some (.ldc 72, 2) := by decide +kernel
theorem c_143_34 : cd 143 34 = some (.ireturn, 1) := by decide +kernel
theorem c_143_35 : cd 143 35 = some (.aload_n 0, 1) := by decide +kernel
theorem c_143_36 : cd 143 36 = some (.getfield 10, 3) := by decide +kernel
theorem c_143_39 : cd 143 39 = some (.getfield 139, 3) := by decide +kernel
theorem c_143_42 : cd 143 42 = some (.iload_n 1, 1) := by decide +kernel
theorem c_143_43 : cd 143 43 = some (.aaload, 1) := by decide +kernel
theorem c_143_44 : cd 143 44 = some (.astore 4, 2) := by decide +kernel
theorem c_143_46 : cd 143 46 = some (.aload 4, 2) := by decide +kernel
theorem c_143_48 : cd 143 48 = some (.invokevirtual 278, 3) := by decide +kernel
theorem c_143_51 : cd 143 51 = some (.ifCond .ne (6), 3) := by decide +kernel
theorem c_143_54 : cd 143 54 = some (.ldc 164, 2) := by decide +kernel
theorem c_143_56 : cd 143 56 = some (.ireturn, 1) := by decide +kernel
theorem c_143_57 : cd 143 57 = some (.aload 4, 2) := by decide +kernel
theorem c_143_59 : cd 143 59 = some (.invokevirtual 281, 3) := by decide +kernel
theorem c_143_62 : cd 143 62 = some (.ifCond .eq (32), 3) := by decide +kernel
theorem c_143_65 : cd 143 65 = some (.aload 4, 2) := by decide +kernel
theorem c_143_67 : cd 143 67 = some (.getfield 284, 3) := by decide +kernel
theorem c_143_70 : cd 143 70 = some (.aload_n 0, 1) := by decide +kernel
theorem c_143_71 : cd 143 71 = some (.getfield 10, 3) := by decide +kernel
theorem c_143_74 : cd 143 74 = some (.getfield 73, 3) := by decide +kernel
theorem c_143_77 : cd 143 77 = some (.if_icmp .ne (17), 3) := by decide +kernel
theorem c_143_80 : cd 143 80 = some (.aload_n 0, 1) := by decide +kernel
theorem c_143_81 : cd 143 81 = some (.getfield 10, 3) := by decide +kernel
theorem c_143_84 : cd 143 84 = some (.getfield 269, 3) := by decide +kernel
theorem c_143_87 : cd 143 87 = some (.iload_n 1, 1) := by decide +kernel
theorem c_143_88 : cd 143 88 = some (.invokevirtual 287, 3) := by decide +kernel
theorem c_143_91 : cd 143 91 = some (.ifCond .eq (6), 3) := by decide +kernel
theorem c_143_94 : cd 143 94 = some (.ldc 169, 2) := by decide +kernel
theorem c_143_96 : cd 143 96 = some (.ireturn, 1) := by decide +kernel
theorem c_143_97 : cd 143 97 = some (.aload_n 0, 1) := by decide +kernel
theorem c_143_98 : cd 143 98 = some (.getfield 10, 3) := by decide +kernel
theorem c_143_101 : cd 143 101 = some (.getfield 269, 3) := by decide +kernel
theorem c_143_104 : cd 143 104 = some (.invokevirtual 290, 3) := by decide +kernel
theorem c_143_107 : cd 143 107 = some (.ifCond .eq (6), 3) := by decide +kernel
theorem c_143_110 : cd 143 110 = some (.ldc 91, 2) := by decide +kernel
theorem c_143_112 : cd 143 112 = some (.ireturn, 1) := by decide +kernel
theorem c_143_113 : cd 143 113 = some (.aload_n 0, 1) := by decide +kernel
theorem c_143_114 : cd 143 114 = some (.getfield 10, 3) := by decide +kernel
theorem c_143_117 : cd 143 117 = some (.iload_n 1, 1) := by decide +kernel
theorem c_143_118 : cd 143 118 = some (.iload_n 2, 1) := by decide +kernel
theorem c_143_119 : cd 143 119 = some (.iload_n 3, 1) := by decide +kernel
theorem c_143_120 : cd 143 120 = some (.invokevirtual 293, 3) := by decide +kernel
theorem c_143_123 : cd 143 123 = some (.ireturn, 1) := by decide +kernel
def f_Ct_decide_32 (σ : Mm) : Option (Int32 × Mm) := some ((-1000000001 : Int32), σ)
set_option maxRecDepth 100000 in
set_option maxHeartbeats 4000000 in
theorem t_Ct_decide_32 {X : Xt} {S : Sh} (hS : ShOK S) {d : Nat} (hd : 3 ≤ d + 1) (u0 : Value) (u1 : Value) (u2 : Value) (u3 : Value) (u4 : Value) (σ : Mm) : Rf X S emM (f_Ct_decide_32 σ) (d + 1) 143 32 [u0, u1, u2, u3, u4] [] σ := by
  unfold f_Ct_decide_32
  refine rf_ldc (Or.inl ⟨rfl, rfl⟩) c_143_32 rfl kl_11_72 ?_
  exact rf_ret c_143_34 rfl rfl rfl rfl
def f_Ct_decide_94 (σ : Mm) : Option (Int32 × Mm) := some ((-1000000002 : Int32), σ)
set_option maxRecDepth 100000 in
set_option maxHeartbeats 4000000 in
theorem t_Ct_decide_94 {X : Xt} {S : Sh} (hS : ShOK S) {d : Nat} (hd : 3 ≤ d + 1) (u0 : Value) (u1 : Value) (u2 : Value) (u3 : Value) (u4 : Value) (σ : Mm) : Rf X S emM (f_Ct_decide_94 σ) (d + 1) 143 94 [u0, u1, u2, u3, u4] [] σ := by
  unfold f_Ct_decide_94
  refine rf_ldc (Or.inl ⟨rfl, rfl⟩) c_143_94 rfl kl_11_169 ?_
  exact rf_ret c_143_96 rfl rfl rfl rfl
def f_Ct_decide (x0 : Nat) (x1 : Int32) (x2 : Int32) (x3 : Int32) (σ : Mm) : Option (Int32 × Mm) := (f_Ct_isPaper σ x0 x1).bind fun v2 => (if v2 = 0 then (f_Ct_decide_32  σ) else ((f_Ct_isWithin σ x2 (0 : Int32) (99 : Int32)).bind fun v12 => (if v12 = 0 then (f_Ct_decide_32  σ) else ((f_Dk_hasAll σ (rfT (rfT x0 0) 4) x3).bind fun v26 => (if ¬ v26 = 0 then (if inbB x1 24 = true then (f_Pa_binds σ (rfT (rfT (rfT x0 0) 2) (ix x1))).bind fun v48 => (if ¬ v48 = 0 then ((f_Pa_hasCome σ (rfT (rfT (rfT x0 0) 2) (ix x1))).bind fun v59 => (if v59 = 0 then (f_Ct_decide_94  σ) else (if ¬ (σ (rfT (rfT (rfT x0 0) 2) (ix x1)) 10) = (σ (rfT x0 0) 8) then (f_Ct_decide_94  σ) else ((f_Dk_hasOneBy σ (rfT (rfT x0 0) 4) x1).bind fun v88 => (if v88 = 0 then ((f_Dk_isFull σ (rfT (rfT x0 0) 4)).bind fun v104 => (if v104 = 0 then ((f_St_addDecision (rfT x0 0) x1 x2 x3 σ).bind fun v120 => some (v120.1, v120.2)) else (some ((-1000000003 : Int32), σ)))) else (f_Ct_decide_94  σ)))))) else (some ((-1000000012 : Int32), σ))) else none) else (f_Ct_decide_32  σ))))))
set_option maxRecDepth 100000 in
set_option maxHeartbeats 4000000 in
theorem t_Ct_decide_e {X : Xt} {S : Sh} (hS : ShOK S) {d : Nat} (hd : 3 ≤ d + 1) (x0 : Nat) (x1 : Int32) (x2 : Int32) (x3 : Int32) (σ : Mm) (h_x0 : tgT x0 = 11) : Rf X S emM (f_Ct_decide x0 x1 x2 x3 σ) (d + 1) 143 0 [.ref x0, .int x1, .int x2, .int x3, unset0] [] σ := by
  unfold f_Ct_decide
  refine rf_ald (i := 0) (Or.inr ⟨0, rfl, rfl, rfl⟩) c_143_0 rfl ?_
  refine rf_ild (i := 1) (Or.inr ⟨1, rfl, rfl, rfl⟩) c_143_1 rfl ?_
  refine rf_callI (as := [.ref x0, .int x1]) (kd := 1) c_143_2 rfl (by decide) rfl ml_11_149 (by decide) rfl (rcv_1 hS rfl rfl h_x0 (by decide)) (Nat.zero_le _) rfl rfl (t_Ct_isPaper hS (by omega) σ x0 x1 h_x0) (fun v2 => ?_)
  refine rf_ite (fun hc5 => ?_) (fun hc5 => ?_)
  · refine rf_b1t c_143_5 rfl (decide_eq_true hc5) ?_
    exact t_Ct_decide_32 hS hd  (.ref x0) (.int x1) (.int x2) (.int x3) (unset0) σ
  · refine rf_b1f c_143_5 rfl (decide_eq_false hc5) ?_
    refine rf_ild (i := 2) (Or.inr ⟨2, rfl, rfl, rfl⟩) c_143_8 rfl ?_
    refine rf_iconst c_143_9 ki_0 ?_
    refine rf_bipush c_143_10 kb_99 ?_
    refine rf_callI (as := [.int x2, .int (0 : Int32), .int (99 : Int32)]) (kd := 0) c_143_12 rfl (by decide) rfl ml_11_92 (by decide) rfl (rcv_0 rfl) (Nat.zero_le _) rfl rfl (t_Ct_isWithin hS (by omega) σ x2 (0 : Int32) (99 : Int32)) (fun v12 => ?_)
    refine rf_ite (fun hc15 => ?_) (fun hc15 => ?_)
    · refine rf_b1t c_143_15 rfl (decide_eq_true hc15) ?_
      exact t_Ct_decide_32 hS hd  (.ref x0) (.int x1) (.int x2) (.int x3) (unset0) σ
    · refine rf_b1f c_143_15 rfl (decide_eq_false hc15) ?_
      refine rf_ald (i := 0) (Or.inr ⟨0, rfl, rfl, rfl⟩) c_143_18 rfl ?_
      refine rf_getr hS c_143_19 rfl fl_11_10 rfl h_x0 ?_
      refine rf_getr hS c_143_22 rfl fl_11_269 rfl (tf_11_0 h_x0) ?_
      refine rf_ild (i := 3) (Or.inr ⟨3, rfl, rfl, rfl⟩) c_143_25 rfl ?_
      refine rf_callI (as := [.ref (rfT (rfT x0 0) 4), .int x3]) (kd := 1) c_143_26 rfl (by decide) rfl ml_11_273 (by decide) rfl (rcv_1 hS rfl rfl (tf_7_4 (tf_11_0 h_x0)) (by decide)) (Nat.zero_le _) rfl rfl (t_Dk_hasAll hS (by omega) σ (rfT (rfT x0 0) 4) x3 (tf_7_4 (tf_11_0 h_x0))) (fun v26 => ?_)
      refine rf_ite (fun hc29 => ?_) (fun hc29 => ?_)
      · refine rf_b1t c_143_29 rfl (decide_eq_true hc29) ?_
        refine rf_ald (i := 0) (Or.inr ⟨0, rfl, rfl, rfl⟩) c_143_35 rfl ?_
        refine rf_getr hS c_143_36 rfl fl_11_10 rfl h_x0 ?_
        refine rf_getr hS c_143_39 rfl fl_11_139 rfl (tf_11_0 h_x0) ?_
        refine rf_ild (i := 1) (Or.inr ⟨1, rfl, rfl, rfl⟩) c_143_42 rfl ?_
        refine rf_ite (fun hb43 => ?_) (fun _ => rf_none)
        refine rf_aald hS c_143_43 (by rw [(tf_7_2 (tf_11_0 h_x0))]; decide) (by rw [(tf_7_2 (tf_11_0 h_x0))]; decide) (lf_7_2 (tf_11_0 h_x0)) hb43 ?_
        refine rf_ast (i := 4) (Or.inl ⟨rfl, rfl⟩) c_143_44 (Nat.le_of_ble_eq_true rfl) rfl ?_
        refine rf_ald (i := 4) (Or.inl ⟨rfl, rfl⟩) c_143_46 rfl ?_
        refine rf_callI (as := [.ref (rfT (rfT (rfT x0 0) 2) (ix x1))]) (kd := 1) c_143_48 rfl (by decide) rfl ml_11_278 (by decide) rfl (rcv_1 hS rfl rfl (te_33 (tf_7_2 (tf_11_0 h_x0)) hb43) (by decide)) (Nat.zero_le _) rfl rfl (t_Pa_binds hS (by omega) σ (rfT (rfT (rfT x0 0) 2) (ix x1)) (te_33 (tf_7_2 (tf_11_0 h_x0)) hb43)) (fun v48 => ?_)
        refine rf_ite (fun hc51 => ?_) (fun hc51 => ?_)
        · refine rf_b1t c_143_51 rfl (decide_eq_true hc51) ?_
          refine rf_ald (i := 4) (Or.inl ⟨rfl, rfl⟩) c_143_57 rfl ?_
          refine rf_callI (as := [.ref (rfT (rfT (rfT x0 0) 2) (ix x1))]) (kd := 1) c_143_59 rfl (by decide) rfl ml_11_281 (by decide) rfl (rcv_1 hS rfl rfl (te_33 (tf_7_2 (tf_11_0 h_x0)) hb43) (by decide)) (Nat.zero_le _) rfl rfl (t_Pa_hasCome hS (by omega) σ (rfT (rfT (rfT x0 0) 2) (ix x1)) (te_33 (tf_7_2 (tf_11_0 h_x0)) hb43)) (fun v59 => ?_)
          refine rf_ite (fun hc62 => ?_) (fun hc62 => ?_)
          · refine rf_b1t c_143_62 rfl (decide_eq_true hc62) ?_
            exact t_Ct_decide_94 hS hd  (.ref x0) (.int x1) (.int x2) (.int x3) (.ref (rfT (rfT (rfT x0 0) 2) (ix x1))) σ
          · refine rf_b1f c_143_62 rfl (decide_eq_false hc62) ?_
            refine rf_ald (i := 4) (Or.inl ⟨rfl, rfl⟩) c_143_65 rfl ?_
            refine rf_geti hS c_143_67 rfl fl_11_284 rfl (te_33 (tf_7_2 (tf_11_0 h_x0)) hb43) ?_
            refine rf_ald (i := 0) (Or.inr ⟨0, rfl, rfl, rfl⟩) c_143_70 rfl ?_
            refine rf_getr hS c_143_71 rfl fl_11_10 rfl h_x0 ?_
            refine rf_geti hS c_143_74 rfl fl_11_73 rfl (tf_11_0 h_x0) ?_
            refine rf_ite (fun hc77 => ?_) (fun hc77 => ?_)
            · refine rf_b2t c_143_77 rfl (decide_eq_true hc77) ?_
              exact t_Ct_decide_94 hS hd  (.ref x0) (.int x1) (.int x2) (.int x3) (.ref (rfT (rfT (rfT x0 0) 2) (ix x1))) σ
            · refine rf_b2f c_143_77 rfl (decide_eq_false hc77) ?_
              refine rf_ald (i := 0) (Or.inr ⟨0, rfl, rfl, rfl⟩) c_143_80 rfl ?_
              refine rf_getr hS c_143_81 rfl fl_11_10 rfl h_x0 ?_
              refine rf_getr hS c_143_84 rfl fl_11_269 rfl (tf_11_0 h_x0) ?_
              refine rf_ild (i := 1) (Or.inr ⟨1, rfl, rfl, rfl⟩) c_143_87 rfl ?_
              refine rf_callI (as := [.ref (rfT (rfT x0 0) 4), .int x1]) (kd := 1) c_143_88 rfl (by decide) rfl ml_11_287 (by decide) rfl (rcv_1 hS rfl rfl (tf_7_4 (tf_11_0 h_x0)) (by decide)) (Nat.zero_le _) rfl rfl (t_Dk_hasOneBy hS (by omega) σ (rfT (rfT x0 0) 4) x1 (tf_7_4 (tf_11_0 h_x0))) (fun v88 => ?_)
              refine rf_ite (fun hc91 => ?_) (fun hc91 => ?_)
              · refine rf_b1t c_143_91 rfl (decide_eq_true hc91) ?_
                refine rf_ald (i := 0) (Or.inr ⟨0, rfl, rfl, rfl⟩) c_143_97 rfl ?_
                refine rf_getr hS c_143_98 rfl fl_11_10 rfl h_x0 ?_
                refine rf_getr hS c_143_101 rfl fl_11_269 rfl (tf_11_0 h_x0) ?_
                refine rf_callI (as := [.ref (rfT (rfT x0 0) 4)]) (kd := 1) c_143_104 rfl (by decide) rfl ml_11_290 (by decide) rfl (rcv_1 hS rfl rfl (tf_7_4 (tf_11_0 h_x0)) (by decide)) (Nat.zero_le _) rfl rfl (t_Dk_isFull hS (by omega) σ (rfT (rfT x0 0) 4) (tf_7_4 (tf_11_0 h_x0))) (fun v104 => ?_)
                refine rf_ite (fun hc107 => ?_) (fun hc107 => ?_)
                · refine rf_b1t c_143_107 rfl (decide_eq_true hc107) ?_
                  refine rf_ald (i := 0) (Or.inr ⟨0, rfl, rfl, rfl⟩) c_143_113 rfl ?_
                  refine rf_getr hS c_143_114 rfl fl_11_10 rfl h_x0 ?_
                  refine rf_ild (i := 1) (Or.inr ⟨1, rfl, rfl, rfl⟩) c_143_117 rfl ?_
                  refine rf_ild (i := 2) (Or.inr ⟨2, rfl, rfl, rfl⟩) c_143_118 rfl ?_
                  refine rf_ild (i := 3) (Or.inr ⟨3, rfl, rfl, rfl⟩) c_143_119 rfl ?_
                  refine rf_callM (as := [.ref (rfT x0 0), .int x1, .int x2, .int x3]) (kd := 1) c_143_120 rfl (by decide) rfl ml_11_293 (by decide) rfl (rcv_1 hS rfl rfl (tf_11_0 h_x0) (by decide)) (Nat.zero_le _) rfl rfl (t_St_addDecision hS (by omega) (rfT x0 0) x1 x2 x3 σ (tf_11_0 h_x0)) (fun v120 => ?_)
                  exact rf_ret c_143_123 rfl rfl rfl rfl
                · refine rf_b1f c_143_107 rfl (decide_eq_false hc107) ?_
                  refine rf_ldc (Or.inl ⟨rfl, rfl⟩) c_143_110 rfl kl_11_91 ?_
                  exact rf_ret c_143_112 rfl rfl rfl rfl
              · refine rf_b1f c_143_91 rfl (decide_eq_false hc91) ?_
                exact t_Ct_decide_94 hS hd  (.ref x0) (.int x1) (.int x2) (.int x3) (.ref (rfT (rfT (rfT x0 0) 2) (ix x1))) σ
        · refine rf_b1f c_143_51 rfl (decide_eq_false hc51) ?_
          refine rf_ldc (Or.inl ⟨rfl, rfl⟩) c_143_54 rfl kl_11_164 ?_
          exact rf_ret c_143_56 rfl rfl rfl rfl
      · refine rf_b1f c_143_29 rfl (decide_eq_false hc29) ?_
        exact t_Ct_decide_32 hS hd  (.ref x0) (.int x1) (.int x2) (.int x3) (unset0) σ
theorem t_Ct_decide {X : Xt} {S : Sh} (hS : ShOK S) {d : Nat} (hd : 3 ≤ d) (x0 : Nat) (x1 : Int32) (x2 : Int32) (x3 : Int32) (σ : Mm) (h_x0 : tgT x0 = 11) : Rf X S emM (f_Ct_decide x0 x1 x2 x3 σ) d 143 0 [.ref x0, .int x1, .int x2, .int x3, unset0] [] σ := by
  obtain ⟨d1, rfl⟩ : ∃ d1, d = d1 + 1 := ⟨d - 1, by omega⟩
  exact t_Ct_decide_e hS hd x0 x1 x2 x3 σ h_x0
theorem c_186_0 : cd 186 0 = some (.iload_n 1, 1) := by decide +kernel
theorem c_186_1 : cd 186 1 = some (.iconst (0), 1) := by decide +kernel
theorem c_186_2 : cd 186 2 = some (.aload_n 0, 1) := by decide +kernel
theorem c_186_3 : cd 186 3 = some (.getfield 10, 3) := by decide +kernel
theorem c_186_6 : cd 186 6 = some (.getfield 269, 3) := by decide +kernel
theorem c_186_9 : cd 186 9 = some (.getfield 445, 3) := by decide +kernel
theorem c_186_12 : cd 186 12 = some (.iconst (1), 1) := by decide +kernel
theorem c_186_13 : cd 186 13 = some (.isub, 1) := by decide +kernel
theorem c_186_14 : cd 186 14 = some (.invokestatic 92, 3) := by decide +kernel
theorem c_186_17 : cd 186 17 = some (.ireturn, 1) := by decide +kernel
def f_Ct_isDecision (σ : Mm) (x0 : Nat) (x1 : Int32) : Option Int32 := (f_Ct_isWithin σ x1 (0 : Int32) ((σ (rfT (rfT x0 0) 4) 8) - (1 : Int32))).bind fun v14 => if zB v14 = true then some v14 else none
set_option maxRecDepth 100000 in
set_option maxHeartbeats 4000000 in
theorem t_Ct_isDecision_e {X : Xt} {S : Sh} (hS : ShOK S) {d : Nat} (hd : 1 ≤ d + 1) (σ : Mm) (x0 : Nat) (x1 : Int32) (h_x0 : tgT x0 = 11) : Rf X S (emI σ) (f_Ct_isDecision σ x0 x1) (d + 1) 186 0 [.ref x0, .int x1] [] σ := by
  unfold f_Ct_isDecision
  refine rf_ild (i := 1) (Or.inr ⟨1, rfl, rfl, rfl⟩) c_186_0 rfl ?_
  refine rf_iconst c_186_1 ki_0 ?_
  refine rf_ald (i := 0) (Or.inr ⟨0, rfl, rfl, rfl⟩) c_186_2 rfl ?_
  refine rf_getr hS c_186_3 rfl fl_11_10 rfl h_x0 ?_
  refine rf_getr hS c_186_6 rfl fl_11_269 rfl (tf_11_0 h_x0) ?_
  refine rf_geti hS c_186_9 rfl fl_11_445 rfl (tf_7_4 (tf_11_0 h_x0)) ?_
  refine rf_iconst c_186_12 ki_1 ?_
  refine rf_isub c_186_13 ?_
  refine rf_callI (as := [.int x1, .int (0 : Int32), .int ((σ (rfT (rfT x0 0) 4) 8) - (1 : Int32))]) (kd := 0) c_186_14 rfl (by decide) rfl ml_11_92 (by decide) rfl (rcv_0 rfl) (Nat.zero_le _) rfl rfl (t_Ct_isWithin hS (by omega) σ x1 (0 : Int32) ((σ (rfT (rfT x0 0) 4) 8) - (1 : Int32))) (fun v14 => ?_)
  refine rf_ite (fun hq17 => ?_) (fun _ => rf_none)
  exact rf_ret c_186_17 rfl (zB_n hq17) rfl rfl
theorem t_Ct_isDecision {X : Xt} {S : Sh} (hS : ShOK S) {d : Nat} (hd : 1 ≤ d) (σ : Mm) (x0 : Nat) (x1 : Int32) (h_x0 : tgT x0 = 11) : Rf X S (emI σ) (f_Ct_isDecision σ x0 x1) d 186 0 [.ref x0, .int x1] [] σ := by
  obtain ⟨d1, rfl⟩ : ∃ d1, d = d1 + 1 := ⟨d - 1, by omega⟩
  exact t_Ct_isDecision_e hS hd σ x0 x1 h_x0
theorem c_144_0 : cd 144 0 = some (.aload_n 0, 1) := by decide +kernel
theorem c_144_1 : cd 144 1 = some (.iload_n 1, 1) := by decide +kernel
theorem c_144_2 : cd 144 2 = some (.invokevirtual 296, 3) := by decide +kernel
theorem c_144_5 : cd 144 5 = some (.ifCond .eq (13), 3) := by decide +kernel
theorem c_144_8 : cd 144 8 = some (.iload_n 2, 1) := by decide +kernel
theorem c_144_9 : cd 144 9 = some (.iconst (0), 1) := by decide +kernel
theorem c_144_10 : cd 144 10 = some (.bipush (8), 2) := by decide +kernel
theorem c_144_12 : cd 144 12 = some (.invokestatic 92, 3) := by decide +kernel
theorem c_144_15 : cd 144 15 = some (.ifCond .ne (6), 3) := by decide +kernel
theorem c_144_18 : cd 144 18 = some (.ldc 72, 2) := by decide +kernel
theorem c_144_20 : cd 144 20 = some (.ireturn, 1) := by decide +kernel
theorem c_144_21 : cd 144 21 = some (.iload_n 2, 1) := by decide +kernel
theorem c_144_22 : cd 144 22 = some (.bipush (8), 2) := by decide +kernel
theorem c_144_24 : cd 144 24 = some (.if_icmp .ne (25), 3) := by decide +kernel
theorem c_144_27 : cd 144 27 = some (.aload_n 0, 1) := by decide +kernel
theorem c_144_28 : cd 144 28 = some (.getfield 10, 3) := by decide +kernel
theorem c_144_31 : cd 144 31 = some (.getfield 269, 3) := by decide +kernel
theorem c_144_34 : cd 144 34 = some (.iload_n 1, 1) := by decide +kernel
theorem c_144_35 : cd 144 35 = some (.aload_n 0, 1) := by decide +kernel
theorem c_144_36 : cd 144 36 = some (.getfield 10, 3) := by decide +kernel
theorem c_144_39 : cd 144 39 = some (.getfield 73, 3) := by decide +kernel
theorem c_144_42 : cd 144 42 = some (.invokevirtual 299, 3) := by decide +kernel
theorem c_144_45 : cd 144 45 = some (.invokestatic 114, 3) := by decide +kernel
theorem c_144_48 : cd 144 48 = some (.ireturn, 1) := by decide +kernel
theorem c_144_49 : cd 144 49 = some (.aload_n 0, 1) := by decide +kernel
theorem c_144_50 : cd 144 50 = some (.getfield 10, 3) := by decide +kernel
theorem c_144_53 : cd 144 53 = some (.getfield 269, 3) := by decide +kernel
theorem c_144_56 : cd 144 56 = some (.iload_n 1, 1) := by decide +kernel
theorem c_144_57 : cd 144 57 = some (.iload_n 2, 1) := by decide +kernel
theorem c_144_58 : cd 144 58 = some (.invokevirtual 302, 3) := by decide +kernel
theorem c_144_61 : cd 144 61 = some (.ireturn, 1) := by decide +kernel
def f_Ct_is_18 (σ : Mm) : Option Int32 := some (-1000000001 : Int32)
set_option maxRecDepth 100000 in
set_option maxHeartbeats 4000000 in
theorem t_Ct_is_18 {X : Xt} {S : Sh} (hS : ShOK S) {d : Nat} (hd : 3 ≤ d + 1) (σ : Mm) (u0 : Value) (u1 : Value) (u2 : Value) : Rf X S (emI σ) (f_Ct_is_18 σ) (d + 1) 144 18 [u0, u1, u2] [] σ := by
  unfold f_Ct_is_18
  refine rf_ldc (Or.inl ⟨rfl, rfl⟩) c_144_18 rfl kl_11_72 ?_
  exact rf_ret c_144_20 rfl rfl rfl rfl
def f_Ct_is (σ : Mm) (x0 : Nat) (x1 : Int32) (x2 : Int32) : Option Int32 := (f_Ct_isDecision σ x0 x1).bind fun v2 => (if v2 = 0 then (f_Ct_is_18 σ ) else ((f_Ct_isWithin σ x2 (0 : Int32) (8 : Int32)).bind fun v12 => (if ¬ v12 = 0 then (if ¬ x2 = (8 : Int32) then ((f_Dk_part σ (rfT (rfT x0 0) 4) x1 x2).bind fun v58 => some v58) else ((f_Dk_standsOn σ (rfT (rfT x0 0) 4) x1 (σ (rfT x0 0) 8)).bind fun v42 => (f_Ct_bit σ v42).bind fun v45 => some v45)) else (f_Ct_is_18 σ ))))
set_option maxRecDepth 100000 in
set_option maxHeartbeats 4000000 in
theorem t_Ct_is_e {X : Xt} {S : Sh} (hS : ShOK S) {d : Nat} (hd : 3 ≤ d + 1) (σ : Mm) (x0 : Nat) (x1 : Int32) (x2 : Int32) (h_x0 : tgT x0 = 11) : Rf X S (emI σ) (f_Ct_is σ x0 x1 x2) (d + 1) 144 0 [.ref x0, .int x1, .int x2] [] σ := by
  unfold f_Ct_is
  refine rf_ald (i := 0) (Or.inr ⟨0, rfl, rfl, rfl⟩) c_144_0 rfl ?_
  refine rf_ild (i := 1) (Or.inr ⟨1, rfl, rfl, rfl⟩) c_144_1 rfl ?_
  refine rf_callI (as := [.ref x0, .int x1]) (kd := 1) c_144_2 rfl (by decide) rfl ml_11_296 (by decide) rfl (rcv_1 hS rfl rfl h_x0 (by decide)) (Nat.zero_le _) rfl rfl (t_Ct_isDecision hS (by omega) σ x0 x1 h_x0) (fun v2 => ?_)
  refine rf_ite (fun hc5 => ?_) (fun hc5 => ?_)
  · refine rf_b1t c_144_5 rfl (decide_eq_true hc5) ?_
    exact t_Ct_is_18 hS hd σ  (.ref x0) (.int x1) (.int x2)
  · refine rf_b1f c_144_5 rfl (decide_eq_false hc5) ?_
    refine rf_ild (i := 2) (Or.inr ⟨2, rfl, rfl, rfl⟩) c_144_8 rfl ?_
    refine rf_iconst c_144_9 ki_0 ?_
    refine rf_bipush c_144_10 kb_8 ?_
    refine rf_callI (as := [.int x2, .int (0 : Int32), .int (8 : Int32)]) (kd := 0) c_144_12 rfl (by decide) rfl ml_11_92 (by decide) rfl (rcv_0 rfl) (Nat.zero_le _) rfl rfl (t_Ct_isWithin hS (by omega) σ x2 (0 : Int32) (8 : Int32)) (fun v12 => ?_)
    refine rf_ite (fun hc15 => ?_) (fun hc15 => ?_)
    · refine rf_b1t c_144_15 rfl (decide_eq_true hc15) ?_
      refine rf_ild (i := 2) (Or.inr ⟨2, rfl, rfl, rfl⟩) c_144_21 rfl ?_
      refine rf_bipush c_144_22 kb_8 ?_
      refine rf_ite (fun hc24 => ?_) (fun hc24 => ?_)
      · refine rf_b2t c_144_24 rfl (decide_eq_true hc24) ?_
        refine rf_ald (i := 0) (Or.inr ⟨0, rfl, rfl, rfl⟩) c_144_49 rfl ?_
        refine rf_getr hS c_144_50 rfl fl_11_10 rfl h_x0 ?_
        refine rf_getr hS c_144_53 rfl fl_11_269 rfl (tf_11_0 h_x0) ?_
        refine rf_ild (i := 1) (Or.inr ⟨1, rfl, rfl, rfl⟩) c_144_56 rfl ?_
        refine rf_ild (i := 2) (Or.inr ⟨2, rfl, rfl, rfl⟩) c_144_57 rfl ?_
        refine rf_callI (as := [.ref (rfT (rfT x0 0) 4), .int x1, .int x2]) (kd := 1) c_144_58 rfl (by decide) rfl ml_11_302 (by decide) rfl (rcv_1 hS rfl rfl (tf_7_4 (tf_11_0 h_x0)) (by decide)) (Nat.zero_le _) rfl rfl (t_Dk_part hS (by omega) σ (rfT (rfT x0 0) 4) x1 x2 (tf_7_4 (tf_11_0 h_x0))) (fun v58 => ?_)
        exact rf_ret c_144_61 rfl rfl rfl rfl
      · refine rf_b2f c_144_24 rfl (decide_eq_false hc24) ?_
        refine rf_ald (i := 0) (Or.inr ⟨0, rfl, rfl, rfl⟩) c_144_27 rfl ?_
        refine rf_getr hS c_144_28 rfl fl_11_10 rfl h_x0 ?_
        refine rf_getr hS c_144_31 rfl fl_11_269 rfl (tf_11_0 h_x0) ?_
        refine rf_ild (i := 1) (Or.inr ⟨1, rfl, rfl, rfl⟩) c_144_34 rfl ?_
        refine rf_ald (i := 0) (Or.inr ⟨0, rfl, rfl, rfl⟩) c_144_35 rfl ?_
        refine rf_getr hS c_144_36 rfl fl_11_10 rfl h_x0 ?_
        refine rf_geti hS c_144_39 rfl fl_11_73 rfl (tf_11_0 h_x0) ?_
        refine rf_callI (as := [.ref (rfT (rfT x0 0) 4), .int x1, .int (σ (rfT x0 0) 8)]) (kd := 1) c_144_42 rfl (by decide) rfl ml_11_299 (by decide) rfl (rcv_1 hS rfl rfl (tf_7_4 (tf_11_0 h_x0)) (by decide)) (Nat.zero_le _) rfl rfl (t_Dk_standsOn hS (by omega) σ (rfT (rfT x0 0) 4) x1 (σ (rfT x0 0) 8) (tf_7_4 (tf_11_0 h_x0))) (fun v42 => ?_)
        refine rf_callI (as := [.int v42]) (kd := 0) c_144_45 rfl (by decide) rfl ml_11_114 (by decide) rfl (rcv_0 rfl) (Nat.zero_le _) rfl rfl (t_Ct_bit hS (by omega) σ v42) (fun v45 => ?_)
        exact rf_ret c_144_48 rfl rfl rfl rfl
    · refine rf_b1f c_144_15 rfl (decide_eq_false hc15) ?_
      exact t_Ct_is_18 hS hd σ  (.ref x0) (.int x1) (.int x2)
theorem t_Ct_is {X : Xt} {S : Sh} (hS : ShOK S) {d : Nat} (hd : 3 ≤ d) (σ : Mm) (x0 : Nat) (x1 : Int32) (x2 : Int32) (h_x0 : tgT x0 = 11) : Rf X S (emI σ) (f_Ct_is σ x0 x1 x2) d 144 0 [.ref x0, .int x1, .int x2] [] σ := by
  obtain ⟨d1, rfl⟩ : ∃ d1, d = d1 + 1 := ⟨d - 1, by omega⟩
  exact t_Ct_is_e hS hd σ x0 x1 x2 h_x0
theorem c_146_0 : cd 146 0 = some (.aload_n 0, 1) := by decide +kernel
theorem c_146_1 : cd 146 1 = some (.iload_n 1, 1) := by decide +kernel
theorem c_146_2 : cd 146 2 = some (.invokevirtual 296, 3) := by decide +kernel
theorem c_146_5 : cd 146 5 = some (.ifCond .ne (6), 3) := by decide +kernel
theorem c_146_8 : cd 146 8 = some (.ldc 72, 2) := by decide +kernel
theorem c_146_10 : cd 146 10 = some (.ireturn, 1) := by decide +kernel
theorem c_146_11 : cd 146 11 = some (.aload_n 0, 1) := by decide +kernel
theorem c_146_12 : cd 146 12 = some (.getfield 10, 3) := by decide +kernel
theorem c_146_15 : cd 146 15 = some (.getfield 269, 3) := by decide +kernel
theorem c_146_18 : cd 146 18 = some (.iload_n 1, 1) := by decide +kernel
theorem c_146_19 : cd 146 19 = some (.aload_n 0, 1) := by decide +kernel
theorem c_146_20 : cd 146 20 = some (.getfield 10, 3) := by decide +kernel
theorem c_146_23 : cd 146 23 = some (.getfield 73, 3) := by decide +kernel
theorem c_146_26 : cd 146 26 = some (.invokevirtual 299, 3) := by decide +kernel
theorem c_146_29 : cd 146 29 = some (.ifCond .ne (6), 3) := by decide +kernel
theorem c_146_32 : cd 146 32 = some (.ldc 169, 2) := by decide +kernel
theorem c_146_34 : cd 146 34 = some (.ireturn, 1) := by decide +kernel
theorem c_146_35 : cd 146 35 = some (.aload_n 0, 1) := by decide +kernel
theorem c_146_36 : cd 146 36 = some (.getfield 10, 3) := by decide +kernel
theorem c_146_39 : cd 146 39 = some (.getfield 269, 3) := by decide +kernel
theorem c_146_42 : cd 146 42 = some (.iload_n 1, 1) := by decide +kernel
theorem c_146_43 : cd 146 43 = some (.aload_n 0, 1) := by decide +kernel
theorem c_146_44 : cd 146 44 = some (.getfield 10, 3) := by decide +kernel
theorem c_146_47 : cd 146 47 = some (.getfield 73, 3) := by decide +kernel
theorem c_146_50 : cd 146 50 = some (.invokevirtual 310, 3) := by decide +kernel
theorem c_146_53 : cd 146 53 = some (.ireturn, 1) := by decide +kernel
def f_Ct_falls (σ : Mm) (x0 : Nat) (x1 : Int32) : Option Int32 := (f_Ct_isDecision σ x0 x1).bind fun v2 => (if ¬ v2 = 0 then ((f_Dk_standsOn σ (rfT (rfT x0 0) 4) x1 (σ (rfT x0 0) 8)).bind fun v26 => (if ¬ v26 = 0 then ((f_Dk_fallingWith σ (rfT (rfT x0 0) 4) x1 (σ (rfT x0 0) 8)).bind fun v50 => some v50) else (some (-1000000002 : Int32)))) else (some (-1000000001 : Int32)))
set_option maxRecDepth 100000 in
set_option maxHeartbeats 4000000 in
theorem t_Ct_falls_e {X : Xt} {S : Sh} (hS : ShOK S) {d : Nat} (hd : 3 ≤ d + 1) (σ : Mm) (x0 : Nat) (x1 : Int32) (h_x0 : tgT x0 = 11) : Rf X S (emI σ) (f_Ct_falls σ x0 x1) (d + 1) 146 0 [.ref x0, .int x1] [] σ := by
  unfold f_Ct_falls
  refine rf_ald (i := 0) (Or.inr ⟨0, rfl, rfl, rfl⟩) c_146_0 rfl ?_
  refine rf_ild (i := 1) (Or.inr ⟨1, rfl, rfl, rfl⟩) c_146_1 rfl ?_
  refine rf_callI (as := [.ref x0, .int x1]) (kd := 1) c_146_2 rfl (by decide) rfl ml_11_296 (by decide) rfl (rcv_1 hS rfl rfl h_x0 (by decide)) (Nat.zero_le _) rfl rfl (t_Ct_isDecision hS (by omega) σ x0 x1 h_x0) (fun v2 => ?_)
  refine rf_ite (fun hc5 => ?_) (fun hc5 => ?_)
  · refine rf_b1t c_146_5 rfl (decide_eq_true hc5) ?_
    refine rf_ald (i := 0) (Or.inr ⟨0, rfl, rfl, rfl⟩) c_146_11 rfl ?_
    refine rf_getr hS c_146_12 rfl fl_11_10 rfl h_x0 ?_
    refine rf_getr hS c_146_15 rfl fl_11_269 rfl (tf_11_0 h_x0) ?_
    refine rf_ild (i := 1) (Or.inr ⟨1, rfl, rfl, rfl⟩) c_146_18 rfl ?_
    refine rf_ald (i := 0) (Or.inr ⟨0, rfl, rfl, rfl⟩) c_146_19 rfl ?_
    refine rf_getr hS c_146_20 rfl fl_11_10 rfl h_x0 ?_
    refine rf_geti hS c_146_23 rfl fl_11_73 rfl (tf_11_0 h_x0) ?_
    refine rf_callI (as := [.ref (rfT (rfT x0 0) 4), .int x1, .int (σ (rfT x0 0) 8)]) (kd := 1) c_146_26 rfl (by decide) rfl ml_11_299 (by decide) rfl (rcv_1 hS rfl rfl (tf_7_4 (tf_11_0 h_x0)) (by decide)) (Nat.zero_le _) rfl rfl (t_Dk_standsOn hS (by omega) σ (rfT (rfT x0 0) 4) x1 (σ (rfT x0 0) 8) (tf_7_4 (tf_11_0 h_x0))) (fun v26 => ?_)
    refine rf_ite (fun hc29 => ?_) (fun hc29 => ?_)
    · refine rf_b1t c_146_29 rfl (decide_eq_true hc29) ?_
      refine rf_ald (i := 0) (Or.inr ⟨0, rfl, rfl, rfl⟩) c_146_35 rfl ?_
      refine rf_getr hS c_146_36 rfl fl_11_10 rfl h_x0 ?_
      refine rf_getr hS c_146_39 rfl fl_11_269 rfl (tf_11_0 h_x0) ?_
      refine rf_ild (i := 1) (Or.inr ⟨1, rfl, rfl, rfl⟩) c_146_42 rfl ?_
      refine rf_ald (i := 0) (Or.inr ⟨0, rfl, rfl, rfl⟩) c_146_43 rfl ?_
      refine rf_getr hS c_146_44 rfl fl_11_10 rfl h_x0 ?_
      refine rf_geti hS c_146_47 rfl fl_11_73 rfl (tf_11_0 h_x0) ?_
      refine rf_callI (as := [.ref (rfT (rfT x0 0) 4), .int x1, .int (σ (rfT x0 0) 8)]) (kd := 1) c_146_50 rfl (by decide) rfl ml_11_310 (by decide) rfl (rcv_1 hS rfl rfl (tf_7_4 (tf_11_0 h_x0)) (by decide)) (Nat.zero_le _) rfl rfl (t_Dk_fallingWith hS (by omega) σ (rfT (rfT x0 0) 4) x1 (σ (rfT x0 0) 8) (tf_7_4 (tf_11_0 h_x0))) (fun v50 => ?_)
      exact rf_ret c_146_53 rfl rfl rfl rfl
    · refine rf_b1f c_146_29 rfl (decide_eq_false hc29) ?_
      refine rf_ldc (Or.inl ⟨rfl, rfl⟩) c_146_32 rfl kl_11_169 ?_
      exact rf_ret c_146_34 rfl rfl rfl rfl
  · refine rf_b1f c_146_5 rfl (decide_eq_false hc5) ?_
    refine rf_ldc (Or.inl ⟨rfl, rfl⟩) c_146_8 rfl kl_11_72 ?_
    exact rf_ret c_146_10 rfl rfl rfl rfl
theorem t_Ct_falls {X : Xt} {S : Sh} (hS : ShOK S) {d : Nat} (hd : 3 ≤ d) (σ : Mm) (x0 : Nat) (x1 : Int32) (h_x0 : tgT x0 = 11) : Rf X S (emI σ) (f_Ct_falls σ x0 x1) d 146 0 [.ref x0, .int x1] [] σ := by
  obtain ⟨d1, rfl⟩ : ∃ d1, d = d1 + 1 := ⟨d - 1, by omega⟩
  exact t_Ct_falls_e hS hd σ x0 x1 h_x0
theorem c_145_0 : cd 145 0 = some (.aload_n 0, 1) := by decide +kernel
theorem c_145_1 : cd 145 1 = some (.iload_n 1, 1) := by decide +kernel
theorem c_145_2 : cd 145 2 = some (.invokevirtual 304, 3) := by decide +kernel
theorem c_145_5 : cd 145 5 = some (.istore_n 2, 1) := by decide +kernel
theorem c_145_6 : cd 145 6 = some (.iload_n 2, 1) := by decide +kernel
theorem c_145_7 : cd 145 7 = some (.ifCond .lt (21), 3) := by decide +kernel
theorem c_145_10 : cd 145 10 = some (.aload_n 0, 1) := by decide +kernel
theorem c_145_11 : cd 145 11 = some (.getfield 10, 3) := by decide +kernel
theorem c_145_14 : cd 145 14 = some (.getfield 269, 3) := by decide +kernel
theorem c_145_17 : cd 145 17 = some (.iload_n 1, 1) := by decide +kernel
theorem c_145_18 : cd 145 18 = some (.aload_n 0, 1) := by decide +kernel
theorem c_145_19 : cd 145 19 = some (.getfield 10, 3) := by decide +kernel
theorem c_145_22 : cd 145 22 = some (.getfield 73, 3) := by decide +kernel
theorem c_145_25 : cd 145 25 = some (.invokevirtual 307, 3) := by decide +kernel
theorem c_145_28 : cd 145 28 = some (.iload_n 2, 1) := by decide +kernel
theorem c_145_29 : cd 145 29 = some (.ireturn, 1) := by decide +kernel
def f_Ct_reopen_28 (x2 : Int32) (σ : Mm) : Option (Int32 × Mm) := some (x2, σ)
set_option maxRecDepth 100000 in
set_option maxHeartbeats 4000000 in
theorem t_Ct_reopen_28 {X : Xt} {S : Sh} (hS : ShOK S) {d : Nat} (hd : 4 ≤ d + 1) (x2 : Int32) (u0 : Value) (u1 : Value) (σ : Mm) : Rf X S emM (f_Ct_reopen_28 x2 σ) (d + 1) 145 28 [u0, u1, .int x2] [] σ := by
  unfold f_Ct_reopen_28
  refine rf_ild (i := 2) (Or.inr ⟨2, rfl, rfl, rfl⟩) c_145_28 rfl ?_
  exact rf_ret c_145_29 rfl rfl rfl rfl
def f_Ct_reopen (x0 : Nat) (x1 : Int32) (σ : Mm) : Option (Int32 × Mm) := (f_Ct_falls σ x0 x1).bind fun v2 => (if v2 < 0 then (f_Ct_reopen_28  v2 σ) else ((f_Dk_undo (rfT (rfT x0 0) 4) x1 (σ (rfT x0 0) 8) σ).bind fun v25 => f_Ct_reopen_28  v2 v25))
set_option maxRecDepth 100000 in
set_option maxHeartbeats 4000000 in
theorem t_Ct_reopen_e {X : Xt} {S : Sh} (hS : ShOK S) {d : Nat} (hd : 4 ≤ d + 1) (x0 : Nat) (x1 : Int32) (σ : Mm) (h_x0 : tgT x0 = 11) : Rf X S emM (f_Ct_reopen x0 x1 σ) (d + 1) 145 0 [.ref x0, .int x1, unset0] [] σ := by
  unfold f_Ct_reopen
  refine rf_ald (i := 0) (Or.inr ⟨0, rfl, rfl, rfl⟩) c_145_0 rfl ?_
  refine rf_ild (i := 1) (Or.inr ⟨1, rfl, rfl, rfl⟩) c_145_1 rfl ?_
  refine rf_callI (as := [.ref x0, .int x1]) (kd := 1) c_145_2 rfl (by decide) rfl ml_11_304 (by decide) rfl (rcv_1 hS rfl rfl h_x0 (by decide)) (Nat.zero_le _) rfl rfl (t_Ct_falls hS (by omega) σ x0 x1 h_x0) (fun v2 => ?_)
  refine rf_ist (i := 2) (Or.inr ⟨2, rfl, rfl, rfl⟩) c_145_5 (Nat.le_of_ble_eq_true rfl) rfl ?_
  refine rf_ild (i := 2) (Or.inr ⟨2, rfl, rfl, rfl⟩) c_145_6 rfl ?_
  refine rf_ite (fun hc7 => ?_) (fun hc7 => ?_)
  · refine rf_b1t c_145_7 rfl (decide_eq_true hc7) ?_
    exact t_Ct_reopen_28 hS hd  v2 (.ref x0) (.int x1) σ
  · refine rf_b1f c_145_7 rfl (decide_eq_false hc7) ?_
    refine rf_ald (i := 0) (Or.inr ⟨0, rfl, rfl, rfl⟩) c_145_10 rfl ?_
    refine rf_getr hS c_145_11 rfl fl_11_10 rfl h_x0 ?_
    refine rf_getr hS c_145_14 rfl fl_11_269 rfl (tf_11_0 h_x0) ?_
    refine rf_ild (i := 1) (Or.inr ⟨1, rfl, rfl, rfl⟩) c_145_17 rfl ?_
    refine rf_ald (i := 0) (Or.inr ⟨0, rfl, rfl, rfl⟩) c_145_18 rfl ?_
    refine rf_getr hS c_145_19 rfl fl_11_10 rfl h_x0 ?_
    refine rf_geti hS c_145_22 rfl fl_11_73 rfl (tf_11_0 h_x0) ?_
    refine rf_callV (as := [.ref (rfT (rfT x0 0) 4), .int x1, .int (σ (rfT x0 0) 8)]) (kd := 1) c_145_25 rfl (by decide) rfl ml_11_307 (by decide) rfl (rcv_1 hS rfl rfl (tf_7_4 (tf_11_0 h_x0)) (by decide)) (Nat.zero_le _) rfl rfl (t_Dk_undo hS (by omega) (rfT (rfT x0 0) 4) x1 (σ (rfT x0 0) 8) σ (tf_7_4 (tf_11_0 h_x0))) (fun v25 => ?_)
    exact t_Ct_reopen_28 hS hd  v2 (.ref x0) (.int x1) v25
theorem t_Ct_reopen {X : Xt} {S : Sh} (hS : ShOK S) {d : Nat} (hd : 4 ≤ d) (x0 : Nat) (x1 : Int32) (σ : Mm) (h_x0 : tgT x0 = 11) : Rf X S emM (f_Ct_reopen x0 x1 σ) d 145 0 [.ref x0, .int x1, unset0] [] σ := by
  obtain ⟨d1, rfl⟩ : ∃ d1, d = d1 + 1 := ⟨d - 1, by omega⟩
  exact t_Ct_reopen_e hS hd x0 x1 σ h_x0
