/-! methods: Mo_lacks Mo_hasSeat Mo_comesTo Mo_come Mo_decisionOf Mo_thingOf Mo_decides Mo_hasDecision Mo_decide Mo_standing Mo_stands Mo_is Mo_fallsWith Mo_falls Mo_reopen Mo_currentOf Mo_current Mo_bound Mo_against Mo_law Mo_more Mo_isSilent Mo_goesBy -/
theorem c_264_0 : cd 264 0 = some (.aload_n 0, 1) := by decide +kernel
theorem c_264_1 : cd 264 1 = some (.iload_n 1, 1) := by decide +kernel
theorem c_264_2 : cd 264 2 = some (.invokevirtual 141, 3) := by decide +kernel
theorem c_264_5 : cd 264 5 = some (.ifCond .eq (20), 3) := by decide +kernel
theorem c_264_8 : cd 264 8 = some (.aload_n 0, 1) := by decide +kernel
theorem c_264_9 : cd 264 9 = some (.iload_n 2, 1) := by decide +kernel
theorem c_264_10 : cd 264 10 = some (.invokevirtual 103, 3) := by decide +kernel
theorem c_264_13 : cd 264 13 = some (.ifCond .eq (12), 3) := by decide +kernel
theorem c_264_16 : cd 264 16 = some (.aload_n 0, 1) := by decide +kernel
theorem c_264_17 : cd 264 17 = some (.iload_n 1, 1) := by decide +kernel
theorem c_264_18 : cd 264 18 = some (.iload_n 2, 1) := by decide +kernel
theorem c_264_19 : cd 264 19 = some (.invokevirtual 307, 3) := by decide +kernel
theorem c_264_22 : cd 264 22 = some (.goto (5), 3) := by decide +kernel
theorem c_264_25 : cd 264 25 = some (.ldc 91, 2) := by decide +kernel
theorem c_264_27 : cd 264 27 = some (.ireturn, 1) := by decide +kernel
def f_Mo_lacks_27 (y0 : Int32) (σ : Mm) : Option (Int32 × Mm) := some (y0, σ)
set_option maxRecDepth 100000 in
set_option maxHeartbeats 4000000 in
theorem t_Mo_lacks_27 {X : Xt} {S : Sh} (hS : ShOK S) {d : Nat} (hd : 8 ≤ d + 1) (y0 : Int32) (u0 : Value) (u1 : Value) (u2 : Value) (σ : Mm) : Rf X S emM (f_Mo_lacks_27 y0 σ) (d + 1) 264 27 [u0, u1, u2] [.int y0] σ := by
  unfold f_Mo_lacks_27
  exact rf_ret c_264_27 rfl rfl rfl rfl
def f_Mo_lacks_25 (σ : Mm) : Option (Int32 × Mm) := f_Mo_lacks_27  (-1000000001 : Int32) σ
set_option maxRecDepth 100000 in
set_option maxHeartbeats 4000000 in
theorem t_Mo_lacks_25 {X : Xt} {S : Sh} (hS : ShOK S) {d : Nat} (hd : 8 ≤ d + 1) (u0 : Value) (u1 : Value) (u2 : Value) (σ : Mm) : Rf X S emM (f_Mo_lacks_25 σ) (d + 1) 264 25 [u0, u1, u2] [] σ := by
  unfold f_Mo_lacks_25
  refine rf_ldc (Or.inl ⟨rfl, rfl⟩) c_264_25 rfl kl_12_91 ?_
  exact t_Mo_lacks_27 hS hd  (-1000000001 : Int32) (u0) (u1) (u2) σ
def f_Mo_lacks (x0 : Nat) (x1 : Int32) (x2 : Int32) (σ : Mm) : Option (Int32 × Mm) := (f_Mo_isPaper σ x0 x1).bind fun v2 => (if v2 = 0 then (f_Mo_lacks_25  σ) else ((f_Mo_isTable σ x0 x2).bind fun v10 => (if v10 = 0 then (f_Mo_lacks_25  σ) else ((f_Mo_lacksOf x0 x1 x2 σ).bind fun v19 => f_Mo_lacks_27  v19.1 v19.2))))
set_option maxRecDepth 100000 in
set_option maxHeartbeats 4000000 in
theorem t_Mo_lacks_e {X : Xt} {S : Sh} (hS : ShOK S) {d : Nat} (hd : 8 ≤ d + 1) (x0 : Nat) (x1 : Int32) (x2 : Int32) (σ : Mm) (h_x0 : tgT x0 = 12) : Rf X S emM (f_Mo_lacks x0 x1 x2 σ) (d + 1) 264 0 [.ref x0, .int x1, .int x2] [] σ := by
  unfold f_Mo_lacks
  refine rf_ald (i := 0) (Or.inr ⟨0, rfl, rfl, rfl⟩) c_264_0 rfl ?_
  refine rf_ild (i := 1) (Or.inr ⟨1, rfl, rfl, rfl⟩) c_264_1 rfl ?_
  refine rf_callI (as := [.ref x0, .int x1]) (kd := 1) c_264_2 rfl (by decide) rfl ml_12_141 (by decide) rfl (rcv_1 hS rfl rfl h_x0 (by decide)) (Nat.zero_le _) rfl rfl (t_Mo_isPaper hS (by omega) σ x0 x1 h_x0) (fun v2 => ?_)
  refine rf_ite (fun hc5 => ?_) (fun hc5 => ?_)
  · refine rf_b1t c_264_5 rfl (decide_eq_true hc5) ?_
    exact t_Mo_lacks_25 hS hd  (.ref x0) (.int x1) (.int x2) σ
  · refine rf_b1f c_264_5 rfl (decide_eq_false hc5) ?_
    refine rf_ald (i := 0) (Or.inr ⟨0, rfl, rfl, rfl⟩) c_264_8 rfl ?_
    refine rf_ild (i := 2) (Or.inr ⟨2, rfl, rfl, rfl⟩) c_264_9 rfl ?_
    refine rf_callI (as := [.ref x0, .int x2]) (kd := 1) c_264_10 rfl (by decide) rfl ml_12_103 (by decide) rfl (rcv_1 hS rfl rfl h_x0 (by decide)) (Nat.zero_le _) rfl rfl (t_Mo_isTable hS (by omega) σ x0 x2 h_x0) (fun v10 => ?_)
    refine rf_ite (fun hc13 => ?_) (fun hc13 => ?_)
    · refine rf_b1t c_264_13 rfl (decide_eq_true hc13) ?_
      exact t_Mo_lacks_25 hS hd  (.ref x0) (.int x1) (.int x2) σ
    · refine rf_b1f c_264_13 rfl (decide_eq_false hc13) ?_
      refine rf_ald (i := 0) (Or.inr ⟨0, rfl, rfl, rfl⟩) c_264_16 rfl ?_
      refine rf_ild (i := 1) (Or.inr ⟨1, rfl, rfl, rfl⟩) c_264_17 rfl ?_
      refine rf_ild (i := 2) (Or.inr ⟨2, rfl, rfl, rfl⟩) c_264_18 rfl ?_
      refine rf_callM (as := [.ref x0, .int x1, .int x2]) (kd := 1) c_264_19 rfl (by decide) rfl ml_12_307 (by decide) rfl (rcv_1 hS rfl rfl h_x0 (by decide)) (Nat.zero_le _) rfl rfl (t_Mo_lacksOf hS (by omega) x0 x1 x2 σ h_x0) (fun v19 => ?_)
      refine rf_goto c_264_22 rfl ?_
      exact t_Mo_lacks_27 hS hd  v19.1 (.ref x0) (.int x1) (.int x2) v19.2
theorem t_Mo_lacks {X : Xt} {S : Sh} (hS : ShOK S) {d : Nat} (hd : 8 ≤ d) (x0 : Nat) (x1 : Int32) (x2 : Int32) (σ : Mm) (h_x0 : tgT x0 = 12) : Rf X S emM (f_Mo_lacks x0 x1 x2 σ) d 264 0 [.ref x0, .int x1, .int x2] [] σ := by
  obtain ⟨d1, rfl⟩ : ∃ d1, d = d1 + 1 := ⟨d - 1, by omega⟩
  exact t_Mo_lacks_e hS hd x0 x1 x2 σ h_x0
theorem c_265_0 : cd 265 0 = some (.aload_n 0, 1) := by decide +kernel
theorem c_265_1 : cd 265 1 = some (.getfield 9, 3) := by decide +kernel
theorem c_265_4 : cd 265 4 = some (.sipush (132), 3) := by decide +kernel
theorem c_265_7 : cd 265 7 = some (.iconst (3), 1) := by decide +kernel
theorem c_265_8 : cd 265 8 = some (.iload_n 2, 1) := by decide +kernel
theorem c_265_9 : cd 265 9 = some (.imul, 1) := by decide +kernel
theorem c_265_10 : cd 265 10 = some (.iadd, 1) := by decide +kernel
theorem c_265_11 : cd 265 11 = some (.iaload, 1) := by decide +kernel
theorem c_265_12 : cd 265 12 = some (.iload_n 1, 1) := by decide +kernel
theorem c_265_13 : cd 265 13 = some (.ishr, 1) := by decide +kernel
theorem c_265_14 : cd 265 14 = some (.iconst (1), 1) := by decide +kernel
theorem c_265_15 : cd 265 15 = some (.iand, 1) := by decide +kernel
theorem c_265_16 : cd 265 16 = some (.iconst (1), 1) := by decide +kernel
theorem c_265_17 : cd 265 17 = some (.if_icmp .ne (7), 3) := by decide +kernel
theorem c_265_20 : cd 265 20 = some (.iconst (1), 1) := by decide +kernel
theorem c_265_21 : cd 265 21 = some (.goto (4), 3) := by decide +kernel
theorem c_265_24 : cd 265 24 = some (.iconst (0), 1) := by decide +kernel
theorem c_265_25 : cd 265 25 = some (.ireturn, 1) := by decide +kernel
def f_Mo_hasSeat_25 (σ : Mm) (y0 : Int32) : Option Int32 := if zB y0 = true then some y0 else none
set_option maxRecDepth 100000 in
set_option maxHeartbeats 4000000 in
theorem t_Mo_hasSeat_25 {X : Xt} {S : Sh} (hS : ShOK S) {d : Nat} (hd : 0 ≤ d) (σ : Mm) (y0 : Int32) (u0 : Value) (u1 : Value) (u2 : Value) : Rf X S (emI σ) (f_Mo_hasSeat_25 σ y0) d 265 25 [u0, u1, u2] [.int y0] σ := by
  unfold f_Mo_hasSeat_25
  refine rf_ite (fun hq25 => ?_) (fun _ => rf_none)
  exact rf_ret c_265_25 rfl (zB_n hq25) rfl rfl
def f_Mo_hasSeat (σ : Mm) (x0 : Nat) (x1 : Int32) (x2 : Int32) : Option Int32 := if inbB ((132 : Int32) + ((3 : Int32) * x2)) 5528 = true then (if ¬ (((σ (rfT x0 0) (ix ((132 : Int32) + ((3 : Int32) * x2)))) >>> (x1 &&& 31)) &&& (1 : Int32)) = (1 : Int32) then (f_Mo_hasSeat_25 σ (0 : Int32)) else (f_Mo_hasSeat_25 σ (1 : Int32))) else none
set_option maxRecDepth 100000 in
set_option maxHeartbeats 4000000 in
theorem t_Mo_hasSeat {X : Xt} {S : Sh} (hS : ShOK S) {d : Nat} (hd : 0 ≤ d) (σ : Mm) (x0 : Nat) (x1 : Int32) (x2 : Int32) (h_x0 : tgT x0 = 12) : Rf X S (emI σ) (f_Mo_hasSeat σ x0 x1 x2) d 265 0 [.ref x0, .int x1, .int x2] [] σ := by
  unfold f_Mo_hasSeat
  refine rf_ald (i := 0) (Or.inr ⟨0, rfl, rfl, rfl⟩) c_265_0 rfl ?_
  refine rf_getr hS c_265_1 rfl fl_12_9 rfl h_x0 ?_
  refine rf_sipush c_265_4 ks_132 ?_
  refine rf_iconst c_265_7 ki_3 ?_
  refine rf_ild (i := 2) (Or.inr ⟨2, rfl, rfl, rfl⟩) c_265_8 rfl ?_
  refine rf_imul c_265_9 ?_
  refine rf_iadd c_265_10 ?_
  refine rf_ite (fun hb11 => ?_) (fun _ => rf_none)
  refine rf_iald hS c_265_11 (tf_12_0 h_x0) (lf_12_0 h_x0) hb11 ?_
  refine rf_ild (i := 1) (Or.inr ⟨1, rfl, rfl, rfl⟩) c_265_12 rfl ?_
  refine rf_ishr c_265_13 ?_
  refine rf_iconst c_265_14 ki_1 ?_
  refine rf_iand c_265_15 ?_
  refine rf_iconst c_265_16 ki_1 ?_
  refine rf_ite (fun hc17 => ?_) (fun hc17 => ?_)
  · refine rf_b2t c_265_17 rfl (decide_eq_true hc17) ?_
    refine rf_iconst c_265_24 ki_0 ?_
    exact t_Mo_hasSeat_25 hS hd σ  (0 : Int32) (.ref x0) (.int x1) (.int x2)
  · refine rf_b2f c_265_17 rfl (decide_eq_false hc17) ?_
    refine rf_iconst c_265_20 ki_1 ?_
    refine rf_goto c_265_21 rfl ?_
    exact t_Mo_hasSeat_25 hS hd σ  (1 : Int32) (.ref x0) (.int x1) (.int x2)
theorem c_266_0 : cd 266 0 = some (.aload_n 0, 1) := by decide +kernel
theorem c_266_1 : cd 266 1 = some (.iload_n 1, 1) := by decide +kernel
theorem c_266_2 : cd 266 2 = some (.bipush (13), 2) := by decide +kernel
theorem c_266_4 : cd 266 4 = some (.aload_n 0, 1) := by decide +kernel
theorem c_266_5 : cd 266 5 = some (.iload_n 1, 1) := by decide +kernel
theorem c_266_6 : cd 266 6 = some (.iconst (1), 1) := by decide +kernel
theorem c_266_7 : cd 266 7 = some (.invokevirtual 301, 3) := by decide +kernel
theorem c_266_10 : cd 266 10 = some (.invokevirtual 137, 3) := by decide +kernel
theorem c_266_13 : cd 266 13 = some (.aload_n 0, 1) := by decide +kernel
theorem c_266_14 : cd 266 14 = some (.iload_n 1, 1) := by decide +kernel
theorem c_266_15 : cd 266 15 = some (.bipush (9), 2) := by decide +kernel
theorem c_266_17 : cd 266 17 = some (.iload_n 2, 1) := by decide +kernel
theorem c_266_18 : cd 266 18 = some (.invokevirtual 137, 3) := by decide +kernel
theorem c_266_21 : cd 266 21 = some (.aload_n 0, 1) := by decide +kernel
theorem c_266_22 : cd 266 22 = some (.iload_n 1, 1) := by decide +kernel
theorem c_266_23 : cd 266 23 = some (.bipush (10), 2) := by decide +kernel
theorem c_266_25 : cd 266 25 = some (.aload_n 0, 1) := by decide +kernel
theorem c_266_26 : cd 266 26 = some (.getfield 9, 3) := by decide +kernel
theorem c_266_29 : cd 266 29 = some (.iconst (0), 1) := by decide +kernel
theorem c_266_30 : cd 266 30 = some (.iaload, 1) := by decide +kernel
theorem c_266_31 : cd 266 31 = some (.invokevirtual 137, 3) := by decide +kernel
theorem c_266_34 : cd 266 34 = some (.aload_n 0, 1) := by decide +kernel
theorem c_266_35 : cd 266 35 = some (.iload_n 1, 1) := by decide +kernel
theorem c_266_36 : cd 266 36 = some (.bipush (11), 2) := by decide +kernel
theorem c_266_38 : cd 266 38 = some (.iload_n 3, 1) := by decide +kernel
theorem c_266_39 : cd 266 39 = some (.invokevirtual 137, 3) := by decide +kernel
theorem c_266_42 : cd 266 42 = some (.aload_n 0, 1) := by decide +kernel
theorem c_266_43 : cd 266 43 = some (.iload_n 1, 1) := by decide +kernel
theorem c_266_44 : cd 266 44 = some (.bipush (12), 2) := by decide +kernel
theorem c_266_46 : cd 266 46 = some (.iload 4, 2) := by decide +kernel
theorem c_266_48 : cd 266 48 = some (.invokevirtual 137, 3) := by decide +kernel
theorem c_266_51 : cd 266 51 = some (.return_, 1) := by decide +kernel
def f_Mo_comesTo (x0 : Nat) (x1 : Int32) (x2 : Int32) (x3 : Int32) (x4 : Int32) (σ : Mm) : Option Mm := (f_Mo_dueOf x0 x1 (1 : Int32) σ).bind fun v7 => (f_Mo_set x0 x1 (13 : Int32) v7.1 v7.2).bind fun v10 => (f_Mo_set x0 x1 (9 : Int32) x2 v10).bind fun v18 => (f_Mo_set x0 x1 (10 : Int32) (v18 (rfT x0 0) (ix (0 : Int32))) v18).bind fun v31 => (f_Mo_set x0 x1 (11 : Int32) x3 v31).bind fun v39 => (f_Mo_set x0 x1 (12 : Int32) x4 v39).bind fun v48 => some v48
set_option maxRecDepth 100000 in
set_option maxHeartbeats 4000000 in
theorem t_Mo_comesTo_e {X : Xt} {S : Sh} (hS : ShOK S) {d : Nat} (hd : 7 ≤ d + 1) (x0 : Nat) (x1 : Int32) (x2 : Int32) (x3 : Int32) (x4 : Int32) (σ : Mm) (h_x0 : tgT x0 = 12) : Rf X S emV (f_Mo_comesTo x0 x1 x2 x3 x4 σ) (d + 1) 266 0 [.ref x0, .int x1, .int x2, .int x3, .int x4] [] σ := by
  unfold f_Mo_comesTo
  refine rf_ald (i := 0) (Or.inr ⟨0, rfl, rfl, rfl⟩) c_266_0 rfl ?_
  refine rf_ild (i := 1) (Or.inr ⟨1, rfl, rfl, rfl⟩) c_266_1 rfl ?_
  refine rf_bipush c_266_2 kb_13 ?_
  refine rf_ald (i := 0) (Or.inr ⟨0, rfl, rfl, rfl⟩) c_266_4 rfl ?_
  refine rf_ild (i := 1) (Or.inr ⟨1, rfl, rfl, rfl⟩) c_266_5 rfl ?_
  refine rf_iconst c_266_6 ki_1 ?_
  refine rf_callM (as := [.ref x0, .int x1, .int (1 : Int32)]) (kd := 1) c_266_7 rfl (by decide) rfl ml_12_301 (by decide) rfl (rcv_1 hS rfl rfl h_x0 (by decide)) (by simp [Value.category]) rfl rfl (t_Mo_dueOf hS (by omega) x0 x1 (1 : Int32) σ h_x0) (fun v7 => ?_)
  refine rf_callV (as := [.ref x0, .int x1, .int (13 : Int32), .int v7.1]) (kd := 1) c_266_10 rfl (by decide) rfl ml_12_137 (by decide) rfl (rcv_1 hS rfl rfl h_x0 (by decide)) (Nat.zero_le _) rfl rfl (t_Mo_set hS (by omega) x0 x1 (13 : Int32) v7.1 v7.2 h_x0) (fun v10 => ?_)
  refine rf_ald (i := 0) (Or.inr ⟨0, rfl, rfl, rfl⟩) c_266_13 rfl ?_
  refine rf_ild (i := 1) (Or.inr ⟨1, rfl, rfl, rfl⟩) c_266_14 rfl ?_
  refine rf_bipush c_266_15 kb_9 ?_
  refine rf_ild (i := 2) (Or.inr ⟨2, rfl, rfl, rfl⟩) c_266_17 rfl ?_
  refine rf_callV (as := [.ref x0, .int x1, .int (9 : Int32), .int x2]) (kd := 1) c_266_18 rfl (by decide) rfl ml_12_137 (by decide) rfl (rcv_1 hS rfl rfl h_x0 (by decide)) (Nat.zero_le _) rfl rfl (t_Mo_set hS (by omega) x0 x1 (9 : Int32) x2 v10 h_x0) (fun v18 => ?_)
  refine rf_ald (i := 0) (Or.inr ⟨0, rfl, rfl, rfl⟩) c_266_21 rfl ?_
  refine rf_ild (i := 1) (Or.inr ⟨1, rfl, rfl, rfl⟩) c_266_22 rfl ?_
  refine rf_bipush c_266_23 kb_10 ?_
  refine rf_ald (i := 0) (Or.inr ⟨0, rfl, rfl, rfl⟩) c_266_25 rfl ?_
  refine rf_getr hS c_266_26 rfl fl_12_9 rfl h_x0 ?_
  refine rf_iconst c_266_29 ki_0 ?_
  refine rf_iald hS c_266_30 (tf_12_0 h_x0) (lf_12_0 h_x0) (by decide) ?_
  refine rf_callV (as := [.ref x0, .int x1, .int (10 : Int32), .int (v18 (rfT x0 0) (ix (0 : Int32)))]) (kd := 1) c_266_31 rfl (by decide) rfl ml_12_137 (by decide) rfl (rcv_1 hS rfl rfl h_x0 (by decide)) (Nat.zero_le _) rfl rfl (t_Mo_set hS (by omega) x0 x1 (10 : Int32) (v18 (rfT x0 0) (ix (0 : Int32))) v18 h_x0) (fun v31 => ?_)
  refine rf_ald (i := 0) (Or.inr ⟨0, rfl, rfl, rfl⟩) c_266_34 rfl ?_
  refine rf_ild (i := 1) (Or.inr ⟨1, rfl, rfl, rfl⟩) c_266_35 rfl ?_
  refine rf_bipush c_266_36 kb_11 ?_
  refine rf_ild (i := 3) (Or.inr ⟨3, rfl, rfl, rfl⟩) c_266_38 rfl ?_
  refine rf_callV (as := [.ref x0, .int x1, .int (11 : Int32), .int x3]) (kd := 1) c_266_39 rfl (by decide) rfl ml_12_137 (by decide) rfl (rcv_1 hS rfl rfl h_x0 (by decide)) (Nat.zero_le _) rfl rfl (t_Mo_set hS (by omega) x0 x1 (11 : Int32) x3 v31 h_x0) (fun v39 => ?_)
  refine rf_ald (i := 0) (Or.inr ⟨0, rfl, rfl, rfl⟩) c_266_42 rfl ?_
  refine rf_ild (i := 1) (Or.inr ⟨1, rfl, rfl, rfl⟩) c_266_43 rfl ?_
  refine rf_bipush c_266_44 kb_12 ?_
  refine rf_ild (i := 4) (Or.inl ⟨rfl, rfl⟩) c_266_46 rfl ?_
  refine rf_callV (as := [.ref x0, .int x1, .int (12 : Int32), .int x4]) (kd := 1) c_266_48 rfl (by decide) rfl ml_12_137 (by decide) rfl (rcv_1 hS rfl rfl h_x0 (by decide)) (Nat.zero_le _) rfl rfl (t_Mo_set hS (by omega) x0 x1 (12 : Int32) x4 v39 h_x0) (fun v48 => ?_)
  exact rf_vret c_266_51 rfl rfl
theorem t_Mo_comesTo {X : Xt} {S : Sh} (hS : ShOK S) {d : Nat} (hd : 7 ≤ d) (x0 : Nat) (x1 : Int32) (x2 : Int32) (x3 : Int32) (x4 : Int32) (σ : Mm) (h_x0 : tgT x0 = 12) : Rf X S emV (f_Mo_comesTo x0 x1 x2 x3 x4 σ) d 266 0 [.ref x0, .int x1, .int x2, .int x3, .int x4] [] σ := by
  obtain ⟨d1, rfl⟩ : ∃ d1, d = d1 + 1 := ⟨d - 1, by omega⟩
  exact t_Mo_comesTo_e hS hd x0 x1 x2 x3 x4 σ h_x0
theorem c_267_0 : cd 267 0 = some (.aload_n 0, 1) := by decide +kernel
theorem c_267_1 : cd 267 1 = some (.iload_n 1, 1) := by decide +kernel
theorem c_267_2 : cd 267 2 = some (.invokevirtual 141, 3) := by decide +kernel
theorem c_267_5 : cd 267 5 = some (.ifCond .eq (25), 3) := by decide +kernel
theorem c_267_8 : cd 267 8 = some (.aload_n 0, 1) := by decide +kernel
theorem c_267_9 : cd 267 9 = some (.iload_n 2, 1) := by decide +kernel
theorem c_267_10 : cd 267 10 = some (.invokevirtual 103, 3) := by decide +kernel
theorem c_267_13 : cd 267 13 = some (.ifCond .eq (17), 3) := by decide +kernel
theorem c_267_16 : cd 267 16 = some (.iload_n 3, 1) := by decide +kernel
theorem c_267_17 : cd 267 17 = some (.ldc 81, 2) := by decide +kernel
theorem c_267_19 : cd 267 19 = some (.if_icmp .eq (14), 3) := by decide +kernel
theorem c_267_22 : cd 267 22 = some (.aload_n 0, 1) := by decide +kernel
theorem c_267_23 : cd 267 23 = some (.iload_n 3, 1) := by decide +kernel
theorem c_267_24 : cd 267 24 = some (.invokevirtual 87, 3) := by decide +kernel
theorem c_267_27 : cd 267 27 = some (.ifCond .ne (6), 3) := by decide +kernel
theorem c_267_30 : cd 267 30 = some (.ldc 91, 2) := by decide +kernel
theorem c_267_32 : cd 267 32 = some (.ireturn, 1) := by decide +kernel
theorem c_267_33 : cd 267 33 = some (.aload_n 0, 1) := by decide +kernel
theorem c_267_34 : cd 267 34 = some (.iload_n 1, 1) := by decide +kernel
theorem c_267_35 : cd 267 35 = some (.iload_n 2, 1) := by decide +kernel
theorem c_267_36 : cd 267 36 = some (.invokevirtual 307, 3) := by decide +kernel
theorem c_267_39 : cd 267 39 = some (.istore 4, 2) := by decide +kernel
theorem c_267_41 : cd 267 41 = some (.iload 4, 2) := by decide +kernel
theorem c_267_43 : cd 267 43 = some (.iconst (1), 1) := by decide +kernel
theorem c_267_44 : cd 267 44 = some (.if_icmp .eq (23), 3) := by decide +kernel
theorem c_267_47 : cd 267 47 = some (.iload 4, 2) := by decide +kernel
theorem c_267_49 : cd 267 49 = some (.ifCond .le (21), 3) := by decide +kernel
theorem c_267_52 : cd 267 52 = some (.iload_n 3, 1) := by decide +kernel
theorem c_267_53 : cd 267 53 = some (.ldc 81, 2) := by decide +kernel
theorem c_267_55 : cd 267 55 = some (.if_icmp .eq (12), 3) := by decide +kernel
theorem c_267_58 : cd 267 58 = some (.aload_n 0, 1) := by decide +kernel
theorem c_267_59 : cd 267 59 = some (.iload_n 3, 1) := by decide +kernel
theorem c_267_60 : cd 267 60 = some (.iload_n 2, 1) := by decide +kernel
theorem c_267_61 : cd 267 61 = some (.invokevirtual 310, 3) := by decide +kernel
theorem c_267_64 : cd 267 64 = some (.ifCond .ne (6), 3) := by decide +kernel
theorem c_267_67 : cd 267 67 = some (.ldc 155, 2) := by decide +kernel
theorem c_267_69 : cd 267 69 = some (.ireturn, 1) := by decide +kernel
theorem c_267_70 : cd 267 70 = some (.aload_n 0, 1) := by decide +kernel
theorem c_267_71 : cd 267 71 = some (.iload_n 1, 1) := by decide +kernel
theorem c_267_72 : cd 267 72 = some (.iload_n 2, 1) := by decide +kernel
theorem c_267_73 : cd 267 73 = some (.iload 4, 2) := by decide +kernel
theorem c_267_75 : cd 267 75 = some (.ifCond .le (7), 3) := by decide +kernel
theorem c_267_78 : cd 267 78 = some (.iload_n 3, 1) := by decide +kernel
theorem c_267_79 : cd 267 79 = some (.goto (4), 3) := by decide +kernel
theorem c_267_82 : cd 267 82 = some (.iconst (-1), 1) := by decide +kernel
theorem c_267_83 : cd 267 83 = some (.iconst (0), 1) := by decide +kernel
theorem c_267_84 : cd 267 84 = some (.invokevirtual 313, 3) := by decide +kernel
theorem c_267_87 : cd 267 87 = some (.iload 4, 2) := by decide +kernel
theorem c_267_89 : cd 267 89 = some (.ireturn, 1) := by decide +kernel
def f_Mo_come_30 (σ : Mm) : Option (Int32 × Mm) := some ((-1000000001 : Int32), σ)
set_option maxRecDepth 100000 in
set_option maxHeartbeats 4000000 in
theorem t_Mo_come_30 {X : Xt} {S : Sh} (hS : ShOK S) {d : Nat} (hd : 8 ≤ d + 1) (u0 : Value) (u1 : Value) (u2 : Value) (u3 : Value) (u4 : Value) (σ : Mm) : Rf X S emM (f_Mo_come_30 σ) (d + 1) 267 30 [u0, u1, u2, u3, u4] [] σ := by
  unfold f_Mo_come_30
  refine rf_ldc (Or.inl ⟨rfl, rfl⟩) c_267_30 rfl kl_12_91 ?_
  exact rf_ret c_267_32 rfl rfl rfl rfl
def f_Mo_come_67 (σ : Mm) : Option (Int32 × Mm) := some ((-1000000002 : Int32), σ)
set_option maxRecDepth 100000 in
set_option maxHeartbeats 4000000 in
theorem t_Mo_come_67 {X : Xt} {S : Sh} (hS : ShOK S) {d : Nat} (hd : 8 ≤ d + 1) (u0 : Value) (u1 : Value) (u2 : Value) (u3 : Value) (u4 : Value) (σ : Mm) : Rf X S emM (f_Mo_come_67 σ) (d + 1) 267 67 [u0, u1, u2, u3, u4] [] σ := by
  unfold f_Mo_come_67
  refine rf_ldc (Or.inl ⟨rfl, rfl⟩) c_267_67 rfl kl_12_155 ?_
  exact rf_ret c_267_69 rfl rfl rfl rfl
def f_Mo_come_83 (x4 : Int32) (y0 : Nat) (y1 : Int32) (y2 : Int32) (y3 : Int32) (σ : Mm) : Option (Int32 × Mm) := (f_Mo_comesTo y0 y1 y2 y3 (0 : Int32) σ).bind fun v84 => some (x4, v84)
set_option maxRecDepth 100000 in
set_option maxHeartbeats 4000000 in
theorem t_Mo_come_83 {X : Xt} {S : Sh} (hS : ShOK S) {d : Nat} (hd : 8 ≤ d + 1) (x4 : Int32) (y0 : Nat) (y1 : Int32) (y2 : Int32) (y3 : Int32) (u0 : Value) (u1 : Value) (u2 : Value) (u3 : Value) (σ : Mm) (h_y0 : tgT y0 = 12) : Rf X S emM (f_Mo_come_83 x4 y0 y1 y2 y3 σ) (d + 1) 267 83 [u0, u1, u2, u3, .int x4] [.int y3, .int y2, .int y1, .ref y0] σ := by
  unfold f_Mo_come_83
  refine rf_iconst c_267_83 ki_0 ?_
  refine rf_callV (as := [.ref y0, .int y1, .int y2, .int y3, .int (0 : Int32)]) (kd := 1) c_267_84 rfl (by decide) rfl ml_12_313 (by decide) rfl (rcv_1 hS rfl rfl h_y0 (by decide)) (Nat.zero_le _) rfl rfl (t_Mo_comesTo hS (by omega) y0 y1 y2 y3 (0 : Int32) σ h_y0) (fun v84 => ?_)
  refine rf_ild (i := 4) (Or.inl ⟨rfl, rfl⟩) c_267_87 rfl ?_
  exact rf_ret c_267_89 rfl rfl rfl rfl
def f_Mo_come_70 (x0 : Nat) (x1 : Int32) (x2 : Int32) (x3 : Int32) (x4 : Int32) (σ : Mm) : Option (Int32 × Mm) := (if x4 ≤ 0 then (f_Mo_come_83  x4 x0 x1 x2 (-1 : Int32) σ) else (f_Mo_come_83  x4 x0 x1 x2 x3 σ))
set_option maxRecDepth 100000 in
set_option maxHeartbeats 4000000 in
theorem t_Mo_come_70 {X : Xt} {S : Sh} (hS : ShOK S) {d : Nat} (hd : 8 ≤ d + 1) (x0 : Nat) (x1 : Int32) (x2 : Int32) (x3 : Int32) (x4 : Int32) (σ : Mm) (h_x0 : tgT x0 = 12) : Rf X S emM (f_Mo_come_70 x0 x1 x2 x3 x4 σ) (d + 1) 267 70 [.ref x0, .int x1, .int x2, .int x3, .int x4] [] σ := by
  unfold f_Mo_come_70
  refine rf_ald (i := 0) (Or.inr ⟨0, rfl, rfl, rfl⟩) c_267_70 rfl ?_
  refine rf_ild (i := 1) (Or.inr ⟨1, rfl, rfl, rfl⟩) c_267_71 rfl ?_
  refine rf_ild (i := 2) (Or.inr ⟨2, rfl, rfl, rfl⟩) c_267_72 rfl ?_
  refine rf_ild (i := 4) (Or.inl ⟨rfl, rfl⟩) c_267_73 rfl ?_
  refine rf_ite (fun hc75 => ?_) (fun hc75 => ?_)
  · refine rf_b1t c_267_75 rfl (decide_eq_true hc75) ?_
    refine rf_iconst c_267_82 ki_m1 ?_
    exact t_Mo_come_83 hS hd  x4 x0 x1 x2 (-1 : Int32) (.ref x0) (.int x1) (.int x2) (.int x3) σ h_x0
  · refine rf_b1f c_267_75 rfl (decide_eq_false hc75) ?_
    refine rf_ild (i := 3) (Or.inr ⟨3, rfl, rfl, rfl⟩) c_267_78 rfl ?_
    refine rf_goto c_267_79 rfl ?_
    exact t_Mo_come_83 hS hd  x4 x0 x1 x2 x3 (.ref x0) (.int x1) (.int x2) (.int x3) σ h_x0
def f_Mo_come_33 (x0 : Nat) (x1 : Int32) (x2 : Int32) (x3 : Int32) (σ : Mm) : Option (Int32 × Mm) := (f_Mo_lacksOf x0 x1 x2 σ).bind fun v36 => (if v36.1 = (1 : Int32) then (f_Mo_come_67  v36.2) else (if v36.1 ≤ 0 then (f_Mo_come_70  x0 x1 x2 x3 v36.1 v36.2) else (if x3 = (-1000000005 : Int32) then (f_Mo_come_67  v36.2) else ((f_Mo_hasSeat v36.2 x0 x3 x2).bind fun v61 => (if ¬ v61 = 0 then (f_Mo_come_70  x0 x1 x2 x3 v36.1 v36.2) else (f_Mo_come_67  v36.2))))))
set_option maxRecDepth 100000 in
set_option maxHeartbeats 4000000 in
theorem t_Mo_come_33 {X : Xt} {S : Sh} (hS : ShOK S) {d : Nat} (hd : 8 ≤ d + 1) (x0 : Nat) (x1 : Int32) (x2 : Int32) (x3 : Int32) (u4 : Value) (σ : Mm) (h_x0 : tgT x0 = 12) : Rf X S emM (f_Mo_come_33 x0 x1 x2 x3 σ) (d + 1) 267 33 [.ref x0, .int x1, .int x2, .int x3, u4] [] σ := by
  unfold f_Mo_come_33
  refine rf_ald (i := 0) (Or.inr ⟨0, rfl, rfl, rfl⟩) c_267_33 rfl ?_
  refine rf_ild (i := 1) (Or.inr ⟨1, rfl, rfl, rfl⟩) c_267_34 rfl ?_
  refine rf_ild (i := 2) (Or.inr ⟨2, rfl, rfl, rfl⟩) c_267_35 rfl ?_
  refine rf_callM (as := [.ref x0, .int x1, .int x2]) (kd := 1) c_267_36 rfl (by decide) rfl ml_12_307 (by decide) rfl (rcv_1 hS rfl rfl h_x0 (by decide)) (Nat.zero_le _) rfl rfl (t_Mo_lacksOf hS (by omega) x0 x1 x2 σ h_x0) (fun v36 => ?_)
  refine rf_ist (i := 4) (Or.inl ⟨rfl, rfl⟩) c_267_39 (Nat.le_of_ble_eq_true rfl) rfl ?_
  refine rf_ild (i := 4) (Or.inl ⟨rfl, rfl⟩) c_267_41 rfl ?_
  refine rf_iconst c_267_43 ki_1 ?_
  refine rf_ite (fun hc44 => ?_) (fun hc44 => ?_)
  · refine rf_b2t c_267_44 rfl (decide_eq_true hc44) ?_
    exact t_Mo_come_67 hS hd  (.ref x0) (.int x1) (.int x2) (.int x3) (.int v36.1) v36.2
  · refine rf_b2f c_267_44 rfl (decide_eq_false hc44) ?_
    refine rf_ild (i := 4) (Or.inl ⟨rfl, rfl⟩) c_267_47 rfl ?_
    refine rf_ite (fun hc49 => ?_) (fun hc49 => ?_)
    · refine rf_b1t c_267_49 rfl (decide_eq_true hc49) ?_
      exact t_Mo_come_70 hS hd  x0 x1 x2 x3 v36.1 v36.2 h_x0
    · refine rf_b1f c_267_49 rfl (decide_eq_false hc49) ?_
      refine rf_ild (i := 3) (Or.inr ⟨3, rfl, rfl, rfl⟩) c_267_52 rfl ?_
      refine rf_ldc (Or.inl ⟨rfl, rfl⟩) c_267_53 rfl kl_12_81 ?_
      refine rf_ite (fun hc55 => ?_) (fun hc55 => ?_)
      · refine rf_b2t c_267_55 rfl (decide_eq_true hc55) ?_
        exact t_Mo_come_67 hS hd  (.ref x0) (.int x1) (.int x2) (.int x3) (.int v36.1) v36.2
      · refine rf_b2f c_267_55 rfl (decide_eq_false hc55) ?_
        refine rf_ald (i := 0) (Or.inr ⟨0, rfl, rfl, rfl⟩) c_267_58 rfl ?_
        refine rf_ild (i := 3) (Or.inr ⟨3, rfl, rfl, rfl⟩) c_267_59 rfl ?_
        refine rf_ild (i := 2) (Or.inr ⟨2, rfl, rfl, rfl⟩) c_267_60 rfl ?_
        refine rf_callI (as := [.ref x0, .int x3, .int x2]) (kd := 1) c_267_61 rfl (by decide) rfl ml_12_310 (by decide) rfl (rcv_1 hS rfl rfl h_x0 (by decide)) (Nat.zero_le _) rfl rfl (t_Mo_hasSeat hS (by omega) v36.2 x0 x3 x2 h_x0) (fun v61 => ?_)
        refine rf_ite (fun hc64 => ?_) (fun hc64 => ?_)
        · refine rf_b1t c_267_64 rfl (decide_eq_true hc64) ?_
          exact t_Mo_come_70 hS hd  x0 x1 x2 x3 v36.1 v36.2 h_x0
        · refine rf_b1f c_267_64 rfl (decide_eq_false hc64) ?_
          exact t_Mo_come_67 hS hd  (.ref x0) (.int x1) (.int x2) (.int x3) (.int v36.1) v36.2
def f_Mo_come (x0 : Nat) (x1 : Int32) (x2 : Int32) (x3 : Int32) (σ : Mm) : Option (Int32 × Mm) := (f_Mo_isPaper σ x0 x1).bind fun v2 => (if v2 = 0 then (f_Mo_come_30  σ) else ((f_Mo_isTable σ x0 x2).bind fun v10 => (if v10 = 0 then (f_Mo_come_30  σ) else (if x3 = (-1000000005 : Int32) then (f_Mo_come_33  x0 x1 x2 x3 σ) else ((f_Mo_isOffice σ x0 x3).bind fun v24 => (if ¬ v24 = 0 then (f_Mo_come_33  x0 x1 x2 x3 σ) else (f_Mo_come_30  σ)))))))
set_option maxRecDepth 100000 in
set_option maxHeartbeats 4000000 in
theorem t_Mo_come_e {X : Xt} {S : Sh} (hS : ShOK S) {d : Nat} (hd : 8 ≤ d + 1) (x0 : Nat) (x1 : Int32) (x2 : Int32) (x3 : Int32) (σ : Mm) (h_x0 : tgT x0 = 12) : Rf X S emM (f_Mo_come x0 x1 x2 x3 σ) (d + 1) 267 0 [.ref x0, .int x1, .int x2, .int x3, unset0] [] σ := by
  unfold f_Mo_come
  refine rf_ald (i := 0) (Or.inr ⟨0, rfl, rfl, rfl⟩) c_267_0 rfl ?_
  refine rf_ild (i := 1) (Or.inr ⟨1, rfl, rfl, rfl⟩) c_267_1 rfl ?_
  refine rf_callI (as := [.ref x0, .int x1]) (kd := 1) c_267_2 rfl (by decide) rfl ml_12_141 (by decide) rfl (rcv_1 hS rfl rfl h_x0 (by decide)) (Nat.zero_le _) rfl rfl (t_Mo_isPaper hS (by omega) σ x0 x1 h_x0) (fun v2 => ?_)
  refine rf_ite (fun hc5 => ?_) (fun hc5 => ?_)
  · refine rf_b1t c_267_5 rfl (decide_eq_true hc5) ?_
    exact t_Mo_come_30 hS hd  (.ref x0) (.int x1) (.int x2) (.int x3) (unset0) σ
  · refine rf_b1f c_267_5 rfl (decide_eq_false hc5) ?_
    refine rf_ald (i := 0) (Or.inr ⟨0, rfl, rfl, rfl⟩) c_267_8 rfl ?_
    refine rf_ild (i := 2) (Or.inr ⟨2, rfl, rfl, rfl⟩) c_267_9 rfl ?_
    refine rf_callI (as := [.ref x0, .int x2]) (kd := 1) c_267_10 rfl (by decide) rfl ml_12_103 (by decide) rfl (rcv_1 hS rfl rfl h_x0 (by decide)) (Nat.zero_le _) rfl rfl (t_Mo_isTable hS (by omega) σ x0 x2 h_x0) (fun v10 => ?_)
    refine rf_ite (fun hc13 => ?_) (fun hc13 => ?_)
    · refine rf_b1t c_267_13 rfl (decide_eq_true hc13) ?_
      exact t_Mo_come_30 hS hd  (.ref x0) (.int x1) (.int x2) (.int x3) (unset0) σ
    · refine rf_b1f c_267_13 rfl (decide_eq_false hc13) ?_
      refine rf_ild (i := 3) (Or.inr ⟨3, rfl, rfl, rfl⟩) c_267_16 rfl ?_
      refine rf_ldc (Or.inl ⟨rfl, rfl⟩) c_267_17 rfl kl_12_81 ?_
      refine rf_ite (fun hc19 => ?_) (fun hc19 => ?_)
      · refine rf_b2t c_267_19 rfl (decide_eq_true hc19) ?_
        exact t_Mo_come_33 hS hd  x0 x1 x2 x3 (unset0) σ h_x0
      · refine rf_b2f c_267_19 rfl (decide_eq_false hc19) ?_
        refine rf_ald (i := 0) (Or.inr ⟨0, rfl, rfl, rfl⟩) c_267_22 rfl ?_
        refine rf_ild (i := 3) (Or.inr ⟨3, rfl, rfl, rfl⟩) c_267_23 rfl ?_
        refine rf_callI (as := [.ref x0, .int x3]) (kd := 1) c_267_24 rfl (by decide) rfl ml_12_87 (by decide) rfl (rcv_1 hS rfl rfl h_x0 (by decide)) (Nat.zero_le _) rfl rfl (t_Mo_isOffice hS (by omega) σ x0 x3 h_x0) (fun v24 => ?_)
        refine rf_ite (fun hc27 => ?_) (fun hc27 => ?_)
        · refine rf_b1t c_267_27 rfl (decide_eq_true hc27) ?_
          exact t_Mo_come_33 hS hd  x0 x1 x2 x3 (unset0) σ h_x0
        · refine rf_b1f c_267_27 rfl (decide_eq_false hc27) ?_
          exact t_Mo_come_30 hS hd  (.ref x0) (.int x1) (.int x2) (.int x3) (unset0) σ
theorem t_Mo_come {X : Xt} {S : Sh} (hS : ShOK S) {d : Nat} (hd : 8 ≤ d) (x0 : Nat) (x1 : Int32) (x2 : Int32) (x3 : Int32) (σ : Mm) (h_x0 : tgT x0 = 12) : Rf X S emM (f_Mo_come x0 x1 x2 x3 σ) d 267 0 [.ref x0, .int x1, .int x2, .int x3, unset0] [] σ := by
  obtain ⟨d1, rfl⟩ : ∃ d1, d = d1 + 1 := ⟨d - 1, by omega⟩
  exact t_Mo_come_e hS hd x0 x1 x2 x3 σ h_x0
theorem c_268_0 : cd 268 0 = some (.aload_n 0, 1) := by decide +kernel
theorem c_268_1 : cd 268 1 = some (.getfield 9, 3) := by decide +kernel
theorem c_268_4 : cd 268 4 = some (.sipush (5242), 3) := by decide +kernel
theorem c_268_7 : cd 268 7 = some (.bipush (7), 2) := by decide +kernel
theorem c_268_9 : cd 268 9 = some (.iload_n 1, 1) := by decide +kernel
theorem c_268_10 : cd 268 10 = some (.imul, 1) := by decide +kernel
theorem c_268_11 : cd 268 11 = some (.iadd, 1) := by decide +kernel
theorem c_268_12 : cd 268 12 = some (.iload_n 2, 1) := by decide +kernel
theorem c_268_13 : cd 268 13 = some (.iadd, 1) := by decide +kernel
theorem c_268_14 : cd 268 14 = some (.iaload, 1) := by decide +kernel
theorem c_268_15 : cd 268 15 = some (.ireturn, 1) := by decide +kernel
def f_Mo_decisionOf (σ : Mm) (x0 : Nat) (x1 : Int32) (x2 : Int32) : Option Int32 := if inbB (((5242 : Int32) + ((7 : Int32) * x1)) + x2) 5528 = true then some (σ (rfT x0 0) (ix (((5242 : Int32) + ((7 : Int32) * x1)) + x2))) else none
set_option maxRecDepth 100000 in
set_option maxHeartbeats 4000000 in
theorem t_Mo_decisionOf {X : Xt} {S : Sh} (hS : ShOK S) {d : Nat} (hd : 0 ≤ d) (σ : Mm) (x0 : Nat) (x1 : Int32) (x2 : Int32) (h_x0 : tgT x0 = 12) : Rf X S (emI σ) (f_Mo_decisionOf σ x0 x1 x2) d 268 0 [.ref x0, .int x1, .int x2] [] σ := by
  unfold f_Mo_decisionOf
  refine rf_ald (i := 0) (Or.inr ⟨0, rfl, rfl, rfl⟩) c_268_0 rfl ?_
  refine rf_getr hS c_268_1 rfl fl_12_9 rfl h_x0 ?_
  refine rf_sipush c_268_4 ks_5242 ?_
  refine rf_bipush c_268_7 kb_7 ?_
  refine rf_ild (i := 1) (Or.inr ⟨1, rfl, rfl, rfl⟩) c_268_9 rfl ?_
  refine rf_imul c_268_10 ?_
  refine rf_iadd c_268_11 ?_
  refine rf_ild (i := 2) (Or.inr ⟨2, rfl, rfl, rfl⟩) c_268_12 rfl ?_
  refine rf_iadd c_268_13 ?_
  refine rf_ite (fun hb14 => ?_) (fun _ => rf_none)
  refine rf_iald hS c_268_14 (tf_12_0 h_x0) (lf_12_0 h_x0) hb14 ?_
  exact rf_ret c_268_15 rfl rfl rfl rfl
theorem c_269_0 : cd 269 0 = some (.aload_n 0, 1) := by decide +kernel
theorem c_269_1 : cd 269 1 = some (.aload_n 0, 1) := by decide +kernel
theorem c_269_2 : cd 269 2 = some (.iload_n 1, 1) := by decide +kernel
theorem c_269_3 : cd 269 3 = some (.iconst (0), 1) := by decide +kernel
theorem c_269_4 : cd 269 4 = some (.invokevirtual 316, 3) := by decide +kernel
theorem c_269_7 : cd 269 7 = some (.iconst (2), 1) := by decide +kernel
theorem c_269_8 : cd 269 8 = some (.invokevirtual 144, 3) := by decide +kernel
theorem c_269_11 : cd 269 11 = some (.ireturn, 1) := by decide +kernel
def f_Mo_thingOf (σ : Mm) (x0 : Nat) (x1 : Int32) : Option Int32 := (f_Mo_decisionOf σ x0 x1 (0 : Int32)).bind fun v4 => (f_Mo_paperOf σ x0 v4 (2 : Int32)).bind fun v8 => some v8
set_option maxRecDepth 100000 in
set_option maxHeartbeats 4000000 in
theorem t_Mo_thingOf_e {X : Xt} {S : Sh} (hS : ShOK S) {d : Nat} (hd : 1 ≤ d + 1) (σ : Mm) (x0 : Nat) (x1 : Int32) (h_x0 : tgT x0 = 12) : Rf X S (emI σ) (f_Mo_thingOf σ x0 x1) (d + 1) 269 0 [.ref x0, .int x1] [] σ := by
  unfold f_Mo_thingOf
  refine rf_ald (i := 0) (Or.inr ⟨0, rfl, rfl, rfl⟩) c_269_0 rfl ?_
  refine rf_ald (i := 0) (Or.inr ⟨0, rfl, rfl, rfl⟩) c_269_1 rfl ?_
  refine rf_ild (i := 1) (Or.inr ⟨1, rfl, rfl, rfl⟩) c_269_2 rfl ?_
  refine rf_iconst c_269_3 ki_0 ?_
  refine rf_callI (as := [.ref x0, .int x1, .int (0 : Int32)]) (kd := 1) c_269_4 rfl (by decide) rfl ml_12_316 (by decide) rfl (rcv_1 hS rfl rfl h_x0 (by decide)) (by simp [Value.category]) rfl rfl (t_Mo_decisionOf hS (by omega) σ x0 x1 (0 : Int32) h_x0) (fun v4 => ?_)
  refine rf_iconst c_269_7 ki_2 ?_
  refine rf_callI (as := [.ref x0, .int v4, .int (2 : Int32)]) (kd := 1) c_269_8 rfl (by decide) rfl ml_12_144 (by decide) rfl (rcv_1 hS rfl rfl h_x0 (by decide)) (Nat.zero_le _) rfl rfl (t_Mo_paperOf hS (by omega) σ x0 v4 (2 : Int32) h_x0) (fun v8 => ?_)
  exact rf_ret c_269_11 rfl rfl rfl rfl
theorem t_Mo_thingOf {X : Xt} {S : Sh} (hS : ShOK S) {d : Nat} (hd : 1 ≤ d) (σ : Mm) (x0 : Nat) (x1 : Int32) (h_x0 : tgT x0 = 12) : Rf X S (emI σ) (f_Mo_thingOf σ x0 x1) d 269 0 [.ref x0, .int x1] [] σ := by
  obtain ⟨d1, rfl⟩ : ∃ d1, d = d1 + 1 := ⟨d - 1, by omega⟩
  exact t_Mo_thingOf_e hS hd σ x0 x1 h_x0
theorem c_270_0 : cd 270 0 = some (.sipush (5242), 3) := by decide +kernel
theorem c_270_3 : cd 270 3 = some (.bipush (7), 2) := by decide +kernel
theorem c_270_5 : cd 270 5 = some (.aload_n 0, 1) := by decide +kernel
theorem c_270_6 : cd 270 6 = some (.getfield 9, 3) := by decide +kernel
theorem c_270_9 : cd 270 9 = some (.bipush (6), 2) := by decide +kernel
theorem c_270_11 : cd 270 11 = some (.iaload, 1) := by decide +kernel
theorem c_270_12 : cd 270 12 = some (.imul, 1) := by decide +kernel
theorem c_270_13 : cd 270 13 = some (.iadd, 1) := by decide +kernel
theorem c_270_14 : cd 270 14 = some (.istore 4, 2) := by decide +kernel
theorem c_270_16 : cd 270 16 = some (.aload_n 0, 1) := by decide +kernel
theorem c_270_17 : cd 270 17 = some (.getfield 9, 3) := by decide +kernel
theorem c_270_20 : cd 270 20 = some (.iload 4, 2) := by decide +kernel
theorem c_270_22 : cd 270 22 = some (.iload_n 1, 1) := by decide +kernel
theorem c_270_23 : cd 270 23 = some (.iastore, 1) := by decide +kernel
theorem c_270_24 : cd 270 24 = some (.aload_n 0, 1) := by decide +kernel
theorem c_270_25 : cd 270 25 = some (.getfield 9, 3) := by decide +kernel
theorem c_270_28 : cd 270 28 = some (.iload 4, 2) := by decide +kernel
theorem c_270_30 : cd 270 30 = some (.iconst (1), 1) := by decide +kernel
theorem c_270_31 : cd 270 31 = some (.iadd, 1) := by decide +kernel
theorem c_270_32 : cd 270 32 = some (.iload_n 2, 1) := by decide +kernel
theorem c_270_33 : cd 270 33 = some (.iastore, 1) := by decide +kernel
theorem c_270_34 : cd 270 34 = some (.aload_n 0, 1) := by decide +kernel
theorem c_270_35 : cd 270 35 = some (.getfield 9, 3) := by decide +kernel
theorem c_270_38 : cd 270 38 = some (.iload 4, 2) := by decide +kernel
theorem c_270_40 : cd 270 40 = some (.iconst (2), 1) := by decide +kernel
theorem c_270_41 : cd 270 41 = some (.iadd, 1) := by decide +kernel
theorem c_270_42 : cd 270 42 = some (.aload_n 0, 1) := by decide +kernel
theorem c_270_43 : cd 270 43 = some (.getfield 9, 3) := by decide +kernel
theorem c_270_46 : cd 270 46 = some (.iconst (0), 1) := by decide +kernel
theorem c_270_47 : cd 270 47 = some (.iaload, 1) := by decide +kernel
theorem c_270_48 : cd 270 48 = some (.iastore, 1) := by decide +kernel
theorem c_270_49 : cd 270 49 = some (.aload_n 0, 1) := by decide +kernel
theorem c_270_50 : cd 270 50 = some (.getfield 9, 3) := by decide +kernel
theorem c_270_53 : cd 270 53 = some (.iload 4, 2) := by decide +kernel
theorem c_270_55 : cd 270 55 = some (.iconst (3), 1) := by decide +kernel
theorem c_270_56 : cd 270 56 = some (.iadd, 1) := by decide +kernel
theorem c_270_57 : cd 270 57 = some (.aload_n 0, 1) := by decide +kernel
theorem c_270_58 : cd 270 58 = some (.getfield 9, 3) := by decide +kernel
theorem c_270_61 : cd 270 61 = some (.sipush (132), 3) := by decide +kernel
theorem c_270_64 : cd 270 64 = some (.iconst (3), 1) := by decide +kernel
theorem c_270_65 : cd 270 65 = some (.aload_n 0, 1) := by decide +kernel
theorem c_270_66 : cd 270 66 = some (.iload_n 1, 1) := by decide +kernel
theorem c_270_67 : cd 270 67 = some (.bipush (9), 2) := by decide +kernel
theorem c_270_69 : cd 270 69 = some (.invokevirtual 144, 3) := by decide +kernel
theorem c_270_72 : cd 270 72 = some (.imul, 1) := by decide +kernel
theorem c_270_73 : cd 270 73 = some (.iadd, 1) := by decide +kernel
theorem c_270_74 : cd 270 74 = some (.iaload, 1) := by decide +kernel
theorem c_270_75 : cd 270 75 = some (.iastore, 1) := by decide +kernel
theorem c_270_76 : cd 270 76 = some (.aload_n 0, 1) := by decide +kernel
theorem c_270_77 : cd 270 77 = some (.getfield 9, 3) := by decide +kernel
theorem c_270_80 : cd 270 80 = some (.iload 4, 2) := by decide +kernel
theorem c_270_82 : cd 270 82 = some (.iconst (4), 1) := by decide +kernel
theorem c_270_83 : cd 270 83 = some (.iadd, 1) := by decide +kernel
theorem c_270_84 : cd 270 84 = some (.iload_n 3, 1) := by decide +kernel
theorem c_270_85 : cd 270 85 = some (.iastore, 1) := by decide +kernel
theorem c_270_86 : cd 270 86 = some (.aload_n 0, 1) := by decide +kernel
theorem c_270_87 : cd 270 87 = some (.getfield 9, 3) := by decide +kernel
theorem c_270_90 : cd 270 90 = some (.iload 4, 2) := by decide +kernel
theorem c_270_92 : cd 270 92 = some (.iconst (5), 1) := by decide +kernel
theorem c_270_93 : cd 270 93 = some (.iadd, 1) := by decide +kernel
theorem c_270_94 : cd 270 94 = some (.iconst (-1), 1) := by decide +kernel
theorem c_270_95 : cd 270 95 = some (.iastore, 1) := by decide +kernel
theorem c_270_96 : cd 270 96 = some (.aload_n 0, 1) := by decide +kernel
theorem c_270_97 : cd 270 97 = some (.getfield 9, 3) := by decide +kernel
theorem c_270_100 : cd 270 100 = some (.iload 4, 2) := by decide +kernel
theorem c_270_102 : cd 270 102 = some (.bipush (6), 2) := by decide +kernel
theorem c_270_104 : cd 270 104 = some (.iadd, 1) := by decide +kernel
theorem c_270_105 : cd 270 105 = some (.aload_n 0, 1) := by decide +kernel
theorem c_270_106 : cd 270 106 = some (.getfield 9, 3) := by decide +kernel
theorem c_270_109 : cd 270 109 = some (.iconst (1), 1) := by decide +kernel
theorem c_270_110 : cd 270 110 = some (.iaload, 1) := by decide +kernel
theorem c_270_111 : cd 270 111 = some (.iastore, 1) := by decide +kernel
theorem c_270_112 : cd 270 112 = some (.aload_n 0, 1) := by decide +kernel
theorem c_270_113 : cd 270 113 = some (.getfield 9, 3) := by decide +kernel
theorem c_270_116 : cd 270 116 = some (.bipush (6), 2) := by decide +kernel
theorem c_270_118 : cd 270 118 = some (.dup2, 1) := by decide +kernel
theorem c_270_119 : cd 270 119 = some (.iaload, 1) := by decide +kernel
theorem c_270_120 : cd 270 120 = some (.iconst (1), 1) := by decide +kernel
theorem c_270_121 : cd 270 121 = some (.iadd, 1) := by decide +kernel
theorem c_270_122 : cd 270 122 = some (.iastore, 1) := by decide +kernel
theorem c_270_123 : cd 270 123 = some (.aload_n 0, 1) := by decide +kernel
theorem c_270_124 : cd 270 124 = some (.getfield 9, 3) := by decide +kernel
theorem c_270_127 : cd 270 127 = some (.bipush (6), 2) := by decide +kernel
theorem c_270_129 : cd 270 129 = some (.iaload, 1) := by decide +kernel
theorem c_270_130 : cd 270 130 = some (.iconst (1), 1) := by decide +kernel
theorem c_270_131 : cd 270 131 = some (.isub, 1) := by decide +kernel
theorem c_270_132 : cd 270 132 = some (.ireturn, 1) := by decide +kernel
def f_Mo_decides (x0 : Nat) (x1 : Int32) (x2 : Int32) (x3 : Int32) (σ : Mm) : Option (Int32 × Mm) := if inbB ((5242 : Int32) + ((7 : Int32) * (σ (rfT x0 0) (ix (6 : Int32))))) 5528 = true then nmM (up2 σ (rfT x0 0) (ix ((5242 : Int32) + ((7 : Int32) * (σ (rfT x0 0) (ix (6 : Int32)))))) x1) fun σ23 => if inbB (((5242 : Int32) + ((7 : Int32) * (σ (rfT x0 0) (ix (6 : Int32))))) + (1 : Int32)) 5528 = true then nmM (up2 σ23 (rfT x0 0) (ix (((5242 : Int32) + ((7 : Int32) * (σ (rfT x0 0) (ix (6 : Int32))))) + (1 : Int32))) x2) fun σ33 => if inbB (((5242 : Int32) + ((7 : Int32) * (σ (rfT x0 0) (ix (6 : Int32))))) + (2 : Int32)) 5528 = true then nmM (up2 σ33 (rfT x0 0) (ix (((5242 : Int32) + ((7 : Int32) * (σ (rfT x0 0) (ix (6 : Int32))))) + (2 : Int32))) (σ33 (rfT x0 0) (ix (0 : Int32)))) fun σ48 => (f_Mo_paperOf σ48 x0 x1 (9 : Int32)).bind fun v69 => if inbB ((132 : Int32) + ((3 : Int32) * v69)) 5528 = true then if inbB (((5242 : Int32) + ((7 : Int32) * (σ (rfT x0 0) (ix (6 : Int32))))) + (3 : Int32)) 5528 = true then nmM (up2 σ48 (rfT x0 0) (ix (((5242 : Int32) + ((7 : Int32) * (σ (rfT x0 0) (ix (6 : Int32))))) + (3 : Int32))) (σ48 (rfT x0 0) (ix ((132 : Int32) + ((3 : Int32) * v69))))) fun σ75 => if inbB (((5242 : Int32) + ((7 : Int32) * (σ (rfT x0 0) (ix (6 : Int32))))) + (4 : Int32)) 5528 = true then nmM (up2 σ75 (rfT x0 0) (ix (((5242 : Int32) + ((7 : Int32) * (σ (rfT x0 0) (ix (6 : Int32))))) + (4 : Int32))) x3) fun σ85 => if inbB (((5242 : Int32) + ((7 : Int32) * (σ (rfT x0 0) (ix (6 : Int32))))) + (5 : Int32)) 5528 = true then nmM (up2 σ85 (rfT x0 0) (ix (((5242 : Int32) + ((7 : Int32) * (σ (rfT x0 0) (ix (6 : Int32))))) + (5 : Int32))) (-1 : Int32)) fun σ95 => if inbB (((5242 : Int32) + ((7 : Int32) * (σ (rfT x0 0) (ix (6 : Int32))))) + (6 : Int32)) 5528 = true then nmM (up2 σ95 (rfT x0 0) (ix (((5242 : Int32) + ((7 : Int32) * (σ (rfT x0 0) (ix (6 : Int32))))) + (6 : Int32))) (σ95 (rfT x0 0) (ix (1 : Int32)))) fun σ111 => nmM (up2 σ111 (rfT x0 0) (ix (6 : Int32)) ((σ111 (rfT x0 0) (ix (6 : Int32))) + (1 : Int32))) fun σ122 => some (((σ122 (rfT x0 0) (ix (6 : Int32))) - (1 : Int32)), σ122) else none else none else none else none else none else none else none else none
set_option maxRecDepth 100000 in
set_option maxHeartbeats 4000000 in
theorem t_Mo_decides_e {X : Xt} {S : Sh} (hS : ShOK S) {d : Nat} (hd : 1 ≤ d + 1) (x0 : Nat) (x1 : Int32) (x2 : Int32) (x3 : Int32) (σ : Mm) (h_x0 : tgT x0 = 12) : Rf X S emM (f_Mo_decides x0 x1 x2 x3 σ) (d + 1) 270 0 [.ref x0, .int x1, .int x2, .int x3, unset0] [] σ := by
  unfold f_Mo_decides
  refine rf_sipush c_270_0 ks_5242 ?_
  refine rf_bipush c_270_3 kb_7 ?_
  refine rf_ald (i := 0) (Or.inr ⟨0, rfl, rfl, rfl⟩) c_270_5 rfl ?_
  refine rf_getr hS c_270_6 rfl fl_12_9 rfl h_x0 ?_
  refine rf_bipush c_270_9 kb_6 ?_
  refine rf_iald hS c_270_11 (tf_12_0 h_x0) (lf_12_0 h_x0) (by decide) ?_
  refine rf_imul c_270_12 ?_
  refine rf_iadd c_270_13 ?_
  refine rf_ist (i := 4) (Or.inl ⟨rfl, rfl⟩) c_270_14 (Nat.le_of_ble_eq_true rfl) rfl ?_
  refine rf_ald (i := 0) (Or.inr ⟨0, rfl, rfl, rfl⟩) c_270_16 rfl ?_
  refine rf_getr hS c_270_17 rfl fl_12_9 rfl h_x0 ?_
  refine rf_ild (i := 4) (Or.inl ⟨rfl, rfl⟩) c_270_20 rfl ?_
  refine rf_ild (i := 1) (Or.inr ⟨1, rfl, rfl, rfl⟩) c_270_22 rfl ?_
  refine rf_ite (fun hb23 => ?_) (fun _ => rf_none)
  refine rf_iast hS c_270_23 (tf_12_0 h_x0) (lf_12_0 h_x0) hb23 ?_
  refine rf_nm (fun σ23 => ?_)
  refine rf_ald (i := 0) (Or.inr ⟨0, rfl, rfl, rfl⟩) c_270_24 rfl ?_
  refine rf_getr hS c_270_25 rfl fl_12_9 rfl h_x0 ?_
  refine rf_ild (i := 4) (Or.inl ⟨rfl, rfl⟩) c_270_28 rfl ?_
  refine rf_iconst c_270_30 ki_1 ?_
  refine rf_iadd c_270_31 ?_
  refine rf_ild (i := 2) (Or.inr ⟨2, rfl, rfl, rfl⟩) c_270_32 rfl ?_
  refine rf_ite (fun hb33 => ?_) (fun _ => rf_none)
  refine rf_iast hS c_270_33 (tf_12_0 h_x0) (lf_12_0 h_x0) hb33 ?_
  refine rf_nm (fun σ33 => ?_)
  refine rf_ald (i := 0) (Or.inr ⟨0, rfl, rfl, rfl⟩) c_270_34 rfl ?_
  refine rf_getr hS c_270_35 rfl fl_12_9 rfl h_x0 ?_
  refine rf_ild (i := 4) (Or.inl ⟨rfl, rfl⟩) c_270_38 rfl ?_
  refine rf_iconst c_270_40 ki_2 ?_
  refine rf_iadd c_270_41 ?_
  refine rf_ald (i := 0) (Or.inr ⟨0, rfl, rfl, rfl⟩) c_270_42 rfl ?_
  refine rf_getr hS c_270_43 rfl fl_12_9 rfl h_x0 ?_
  refine rf_iconst c_270_46 ki_0 ?_
  refine rf_iald hS c_270_47 (tf_12_0 h_x0) (lf_12_0 h_x0) (by decide) ?_
  refine rf_ite (fun hb48 => ?_) (fun _ => rf_none)
  refine rf_iast hS c_270_48 (tf_12_0 h_x0) (lf_12_0 h_x0) hb48 ?_
  refine rf_nm (fun σ48 => ?_)
  refine rf_ald (i := 0) (Or.inr ⟨0, rfl, rfl, rfl⟩) c_270_49 rfl ?_
  refine rf_getr hS c_270_50 rfl fl_12_9 rfl h_x0 ?_
  refine rf_ild (i := 4) (Or.inl ⟨rfl, rfl⟩) c_270_53 rfl ?_
  refine rf_iconst c_270_55 ki_3 ?_
  refine rf_iadd c_270_56 ?_
  refine rf_ald (i := 0) (Or.inr ⟨0, rfl, rfl, rfl⟩) c_270_57 rfl ?_
  refine rf_getr hS c_270_58 rfl fl_12_9 rfl h_x0 ?_
  refine rf_sipush c_270_61 ks_132 ?_
  refine rf_iconst c_270_64 ki_3 ?_
  refine rf_ald (i := 0) (Or.inr ⟨0, rfl, rfl, rfl⟩) c_270_65 rfl ?_
  refine rf_ild (i := 1) (Or.inr ⟨1, rfl, rfl, rfl⟩) c_270_66 rfl ?_
  refine rf_bipush c_270_67 kb_9 ?_
  refine rf_callI (as := [.ref x0, .int x1, .int (9 : Int32)]) (kd := 1) c_270_69 rfl (by decide) rfl ml_12_144 (by decide) rfl (rcv_1 hS rfl rfl h_x0 (by decide)) (by simp [Value.category]) rfl rfl (t_Mo_paperOf hS (by omega) σ48 x0 x1 (9 : Int32) h_x0) (fun v69 => ?_)
  refine rf_imul c_270_72 ?_
  refine rf_iadd c_270_73 ?_
  refine rf_ite (fun hb74 => ?_) (fun _ => rf_none)
  refine rf_iald hS c_270_74 (tf_12_0 h_x0) (lf_12_0 h_x0) hb74 ?_
  refine rf_ite (fun hb75 => ?_) (fun _ => rf_none)
  refine rf_iast hS c_270_75 (tf_12_0 h_x0) (lf_12_0 h_x0) hb75 ?_
  refine rf_nm (fun σ75 => ?_)
  refine rf_ald (i := 0) (Or.inr ⟨0, rfl, rfl, rfl⟩) c_270_76 rfl ?_
  refine rf_getr hS c_270_77 rfl fl_12_9 rfl h_x0 ?_
  refine rf_ild (i := 4) (Or.inl ⟨rfl, rfl⟩) c_270_80 rfl ?_
  refine rf_iconst c_270_82 ki_4 ?_
  refine rf_iadd c_270_83 ?_
  refine rf_ild (i := 3) (Or.inr ⟨3, rfl, rfl, rfl⟩) c_270_84 rfl ?_
  refine rf_ite (fun hb85 => ?_) (fun _ => rf_none)
  refine rf_iast hS c_270_85 (tf_12_0 h_x0) (lf_12_0 h_x0) hb85 ?_
  refine rf_nm (fun σ85 => ?_)
  refine rf_ald (i := 0) (Or.inr ⟨0, rfl, rfl, rfl⟩) c_270_86 rfl ?_
  refine rf_getr hS c_270_87 rfl fl_12_9 rfl h_x0 ?_
  refine rf_ild (i := 4) (Or.inl ⟨rfl, rfl⟩) c_270_90 rfl ?_
  refine rf_iconst c_270_92 ki_5 ?_
  refine rf_iadd c_270_93 ?_
  refine rf_iconst c_270_94 ki_m1 ?_
  refine rf_ite (fun hb95 => ?_) (fun _ => rf_none)
  refine rf_iast hS c_270_95 (tf_12_0 h_x0) (lf_12_0 h_x0) hb95 ?_
  refine rf_nm (fun σ95 => ?_)
  refine rf_ald (i := 0) (Or.inr ⟨0, rfl, rfl, rfl⟩) c_270_96 rfl ?_
  refine rf_getr hS c_270_97 rfl fl_12_9 rfl h_x0 ?_
  refine rf_ild (i := 4) (Or.inl ⟨rfl, rfl⟩) c_270_100 rfl ?_
  refine rf_bipush c_270_102 kb_6 ?_
  refine rf_iadd c_270_104 ?_
  refine rf_ald (i := 0) (Or.inr ⟨0, rfl, rfl, rfl⟩) c_270_105 rfl ?_
  refine rf_getr hS c_270_106 rfl fl_12_9 rfl h_x0 ?_
  refine rf_iconst c_270_109 ki_1 ?_
  refine rf_iald hS c_270_110 (tf_12_0 h_x0) (lf_12_0 h_x0) (by decide) ?_
  refine rf_ite (fun hb111 => ?_) (fun _ => rf_none)
  refine rf_iast hS c_270_111 (tf_12_0 h_x0) (lf_12_0 h_x0) hb111 ?_
  refine rf_nm (fun σ111 => ?_)
  refine rf_ald (i := 0) (Or.inr ⟨0, rfl, rfl, rfl⟩) c_270_112 rfl ?_
  refine rf_getr hS c_270_113 rfl fl_12_9 rfl h_x0 ?_
  refine rf_bipush c_270_116 kb_6 ?_
  refine rf_dup2 c_270_118 rfl rfl ?_
  refine rf_iald hS c_270_119 (tf_12_0 h_x0) (lf_12_0 h_x0) (by decide) ?_
  refine rf_iconst c_270_120 ki_1 ?_
  refine rf_iadd c_270_121 ?_
  refine rf_iast hS c_270_122 (tf_12_0 h_x0) (lf_12_0 h_x0) (by decide) ?_
  refine rf_nm (fun σ122 => ?_)
  refine rf_ald (i := 0) (Or.inr ⟨0, rfl, rfl, rfl⟩) c_270_123 rfl ?_
  refine rf_getr hS c_270_124 rfl fl_12_9 rfl h_x0 ?_
  refine rf_bipush c_270_127 kb_6 ?_
  refine rf_iald hS c_270_129 (tf_12_0 h_x0) (lf_12_0 h_x0) (by decide) ?_
  refine rf_iconst c_270_130 ki_1 ?_
  refine rf_isub c_270_131 ?_
  exact rf_ret c_270_132 rfl rfl rfl rfl
theorem t_Mo_decides {X : Xt} {S : Sh} (hS : ShOK S) {d : Nat} (hd : 1 ≤ d) (x0 : Nat) (x1 : Int32) (x2 : Int32) (x3 : Int32) (σ : Mm) (h_x0 : tgT x0 = 12) : Rf X S emM (f_Mo_decides x0 x1 x2 x3 σ) d 270 0 [.ref x0, .int x1, .int x2, .int x3, unset0] [] σ := by
  obtain ⟨d1, rfl⟩ : ∃ d1, d = d1 + 1 := ⟨d - 1, by omega⟩
  exact t_Mo_decides_e hS hd x0 x1 x2 x3 σ h_x0
theorem c_271_0 : cd 271 0 = some (.iconst (0), 1) := by decide +kernel
theorem c_271_1 : cd 271 1 = some (.istore_n 2, 1) := by decide +kernel
theorem c_271_2 : cd 271 2 = some (.iconst (0), 1) := by decide +kernel
theorem c_271_3 : cd 271 3 = some (.istore_n 3, 1) := by decide +kernel
theorem c_271_4 : cd 271 4 = some (.iload_n 3, 1) := by decide +kernel
theorem c_271_5 : cd 271 5 = some (.aload_n 0, 1) := by decide +kernel
theorem c_271_6 : cd 271 6 = some (.getfield 9, 3) := by decide +kernel
theorem c_271_9 : cd 271 9 = some (.bipush (6), 2) := by decide +kernel
theorem c_271_11 : cd 271 11 = some (.iaload, 1) := by decide +kernel
theorem c_271_12 : cd 271 12 = some (.if_icmp .ge (29), 3) := by decide +kernel
theorem c_271_15 : cd 271 15 = some (.iload_n 2, 1) := by decide +kernel
theorem c_271_16 : cd 271 16 = some (.ifCond .ne (13), 3) := by decide +kernel
theorem c_271_19 : cd 271 19 = some (.aload_n 0, 1) := by decide +kernel
theorem c_271_20 : cd 271 20 = some (.iload_n 3, 1) := by decide +kernel
theorem c_271_21 : cd 271 21 = some (.iconst (0), 1) := by decide +kernel
theorem c_271_22 : cd 271 22 = some (.invokevirtual 316, 3) := by decide +kernel
theorem c_271_25 : cd 271 25 = some (.iload_n 1, 1) := by decide +kernel
theorem c_271_26 : cd 271 26 = some (.if_icmp .ne (7), 3) := by decide +kernel
theorem c_271_29 : cd 271 29 = some (.iconst (1), 1) := by decide +kernel
theorem c_271_30 : cd 271 30 = some (.goto (4), 3) := by decide +kernel
theorem c_271_33 : cd 271 33 = some (.iconst (0), 1) := by decide +kernel
theorem c_271_34 : cd 271 34 = some (.istore_n 2, 1) := by decide +kernel
theorem c_271_35 : cd 271 35 = some (.iinc 3 (1), 3) := by decide +kernel
theorem c_271_38 : cd 271 38 = some (.goto (-34), 3) := by decide +kernel
theorem c_271_41 : cd 271 41 = some (.iload_n 2, 1) := by decide +kernel
theorem c_271_42 : cd 271 42 = some (.ireturn, 1) := by decide +kernel
def f_Mo_hasDecision_34 (σ : Mm) (k4 : Nat → Int32 → Int32 → Int32 → Option (Int32)) (x0 : Nat) (x1 : Int32) (x3 : Int32) (y0 : Int32) : Option Int32 := k4 x0 x1 y0 (x3 + (1 : Int32))
set_option maxRecDepth 100000 in
set_option maxHeartbeats 4000000 in
theorem t_Mo_hasDecision_34 {X : Xt} {S : Sh} (hS : ShOK S) {d : Nat} (hd : 1 ≤ d + 1) (σ : Mm) {k4 : Nat → Int32 → Int32 → Int32 → Option (Int32)} (hk4 : ∀ (x0 : Nat) (x1 : Int32) (x2 : Int32) (x3 : Int32) (h_x0 : tgT x0 = 12), Rf X S (emI σ) (k4 x0 x1 x2 x3) (d + 1) 271 4 [.ref x0, .int x1, .int x2, .int x3] [] σ) (x0 : Nat) (x1 : Int32) (x3 : Int32) (y0 : Int32) (u2 : Value) (h_x0 : tgT x0 = 12) : Rf X S (emI σ) (f_Mo_hasDecision_34 σ k4 x0 x1 x3 y0) (d + 1) 271 34 [.ref x0, .int x1, u2, .int x3] [.int y0] σ := by
  unfold f_Mo_hasDecision_34
  refine rf_ist (i := 2) (Or.inr ⟨2, rfl, rfl, rfl⟩) c_271_34 (Nat.le_of_ble_eq_true rfl) rfl ?_
  refine rf_iinc c_271_35 rfl ki_1 rfl ?_
  refine rf_goto c_271_38 rfl ?_
  exact hk4 x0 x1 y0 (x3 + (1 : Int32)) h_x0
def f_Mo_hasDecision_29 (σ : Mm) (k4 : Nat → Int32 → Int32 → Int32 → Option (Int32)) (x0 : Nat) (x1 : Int32) (x3 : Int32) : Option Int32 := f_Mo_hasDecision_34 σ k4 x0 x1 x3 (1 : Int32)
set_option maxRecDepth 100000 in
set_option maxHeartbeats 4000000 in
theorem t_Mo_hasDecision_29 {X : Xt} {S : Sh} (hS : ShOK S) {d : Nat} (hd : 1 ≤ d + 1) (σ : Mm) {k4 : Nat → Int32 → Int32 → Int32 → Option (Int32)} (hk4 : ∀ (x0 : Nat) (x1 : Int32) (x2 : Int32) (x3 : Int32) (h_x0 : tgT x0 = 12), Rf X S (emI σ) (k4 x0 x1 x2 x3) (d + 1) 271 4 [.ref x0, .int x1, .int x2, .int x3] [] σ) (x0 : Nat) (x1 : Int32) (x3 : Int32) (u2 : Value) (h_x0 : tgT x0 = 12) : Rf X S (emI σ) (f_Mo_hasDecision_29 σ k4 x0 x1 x3) (d + 1) 271 29 [.ref x0, .int x1, u2, .int x3] [] σ := by
  unfold f_Mo_hasDecision_29
  refine rf_iconst c_271_29 ki_1 ?_
  refine rf_goto c_271_30 rfl ?_
  exact t_Mo_hasDecision_34 hS hd σ hk4 x0 x1 x3 (1 : Int32) (u2) h_x0
def f_Mo_hasDecision_4 (σ : Mm) : Nat → Nat → Int32 → Int32 → Int32 → Option Int32
  | 0, _, _, _, _ => none
  | n + 1, x0, x1, x2, x3 => (if (σ (rfT x0 0) (ix (6 : Int32))) ≤ x3 then (if zB x2 = true then some x2 else none) else (if ¬ x2 = 0 then (f_Mo_hasDecision_29 σ (f_Mo_hasDecision_4 σ n) x0 x1 x3) else ((f_Mo_decisionOf σ x0 x3 (0 : Int32)).bind fun v22 => (if ¬ v22 = x1 then (f_Mo_hasDecision_34 σ (f_Mo_hasDecision_4 σ n) x0 x1 x3 (0 : Int32)) else (f_Mo_hasDecision_29 σ (f_Mo_hasDecision_4 σ n) x0 x1 x3)))))
set_option maxRecDepth 100000 in
set_option maxHeartbeats 4000000 in
theorem t_Mo_hasDecision_4 {X : Xt} {S : Sh} (hS : ShOK S) {d : Nat} (hd : 1 ≤ d + 1) (σ : Mm) : ∀ (n : Nat) (x0 : Nat) (x1 : Int32) (x2 : Int32) (x3 : Int32) (h_x0 : tgT x0 = 12), Rf X S (emI σ) (f_Mo_hasDecision_4 σ n x0 x1 x2 x3) (d + 1) 271 4 [.ref x0, .int x1, .int x2, .int x3] [] σ := by
  intro n
  induction n with
  | zero => intro x0 x1 x2 x3 h_x0; exact rf_none
  | succ n ih =>
    intro x0 x1 x2 x3 h_x0
    rw [f_Mo_hasDecision_4]
    refine rf_ild (i := 3) (Or.inr ⟨3, rfl, rfl, rfl⟩) c_271_4 rfl ?_
    refine rf_ald (i := 0) (Or.inr ⟨0, rfl, rfl, rfl⟩) c_271_5 rfl ?_
    refine rf_getr hS c_271_6 rfl fl_12_9 rfl h_x0 ?_
    refine rf_bipush c_271_9 kb_6 ?_
    refine rf_iald hS c_271_11 (tf_12_0 h_x0) (lf_12_0 h_x0) (by decide) ?_
    refine rf_ite (fun hc12 => ?_) (fun hc12 => ?_)
    · refine rf_b2t c_271_12 rfl (decide_eq_true hc12) ?_
      refine rf_ild (i := 2) (Or.inr ⟨2, rfl, rfl, rfl⟩) c_271_41 rfl ?_
      refine rf_ite (fun hq42 => ?_) (fun _ => rf_none)
      exact rf_ret c_271_42 rfl (zB_n hq42) rfl rfl
    · refine rf_b2f c_271_12 rfl (decide_eq_false hc12) ?_
      refine rf_ild (i := 2) (Or.inr ⟨2, rfl, rfl, rfl⟩) c_271_15 rfl ?_
      refine rf_ite (fun hc16 => ?_) (fun hc16 => ?_)
      · refine rf_b1t c_271_16 rfl (decide_eq_true hc16) ?_
        exact t_Mo_hasDecision_29 hS hd σ ih x0 x1 x3 (.int x2) h_x0
      · refine rf_b1f c_271_16 rfl (decide_eq_false hc16) ?_
        refine rf_ald (i := 0) (Or.inr ⟨0, rfl, rfl, rfl⟩) c_271_19 rfl ?_
        refine rf_ild (i := 3) (Or.inr ⟨3, rfl, rfl, rfl⟩) c_271_20 rfl ?_
        refine rf_iconst c_271_21 ki_0 ?_
        refine rf_callI (as := [.ref x0, .int x3, .int (0 : Int32)]) (kd := 1) c_271_22 rfl (by decide) rfl ml_12_316 (by decide) rfl (rcv_1 hS rfl rfl h_x0 (by decide)) (Nat.zero_le _) rfl rfl (t_Mo_decisionOf hS (by omega) σ x0 x3 (0 : Int32) h_x0) (fun v22 => ?_)
        refine rf_ild (i := 1) (Or.inr ⟨1, rfl, rfl, rfl⟩) c_271_25 rfl ?_
        refine rf_ite (fun hc26 => ?_) (fun hc26 => ?_)
        · refine rf_b2t c_271_26 rfl (decide_eq_true hc26) ?_
          refine rf_iconst c_271_33 ki_0 ?_
          exact t_Mo_hasDecision_34 hS hd σ ih x0 x1 x3 (0 : Int32) (.int x2) h_x0
        · refine rf_b2f c_271_26 rfl (decide_eq_false hc26) ?_
          exact t_Mo_hasDecision_29 hS hd σ ih x0 x1 x3 (.int x2) h_x0
def f_Mo_hasDecision (σ : Mm) (x0 : Nat) (x1 : Int32) : Option Int32 := f_Mo_hasDecision_4 σ NN x0 x1 (0 : Int32) (0 : Int32)
set_option maxRecDepth 100000 in
set_option maxHeartbeats 4000000 in
theorem t_Mo_hasDecision_e {X : Xt} {S : Sh} (hS : ShOK S) {d : Nat} (hd : 1 ≤ d + 1) (σ : Mm) (x0 : Nat) (x1 : Int32) (h_x0 : tgT x0 = 12) : Rf X S (emI σ) (f_Mo_hasDecision σ x0 x1) (d + 1) 271 0 [.ref x0, .int x1, unset0, unset0] [] σ := by
  unfold f_Mo_hasDecision
  refine rf_iconst c_271_0 ki_0 ?_
  refine rf_ist (i := 2) (Or.inr ⟨2, rfl, rfl, rfl⟩) c_271_1 (Nat.le_of_ble_eq_true rfl) rfl ?_
  refine rf_iconst c_271_2 ki_0 ?_
  refine rf_ist (i := 3) (Or.inr ⟨3, rfl, rfl, rfl⟩) c_271_3 (Nat.le_of_ble_eq_true rfl) rfl ?_
  exact t_Mo_hasDecision_4 hS hd σ  NN x0 x1 (0 : Int32) (0 : Int32) h_x0
theorem t_Mo_hasDecision {X : Xt} {S : Sh} (hS : ShOK S) {d : Nat} (hd : 1 ≤ d) (σ : Mm) (x0 : Nat) (x1 : Int32) (h_x0 : tgT x0 = 12) : Rf X S (emI σ) (f_Mo_hasDecision σ x0 x1) d 271 0 [.ref x0, .int x1, unset0, unset0] [] σ := by
  obtain ⟨d1, rfl⟩ : ∃ d1, d = d1 + 1 := ⟨d - 1, by omega⟩
  exact t_Mo_hasDecision_e hS hd σ x0 x1 h_x0
theorem c_272_0 : cd 272 0 = some (.aload_n 0, 1) := by decide +kernel
theorem c_272_1 : cd 272 1 = some (.iload_n 1, 1) := by decide +kernel
theorem c_272_2 : cd 272 2 = some (.invokevirtual 141, 3) := by decide +kernel
theorem c_272_5 : cd 272 5 = some (.ifCond .eq (28), 3) := by decide +kernel
theorem c_272_8 : cd 272 8 = some (.iload_n 2, 1) := by decide +kernel
theorem c_272_9 : cd 272 9 = some (.iconst (0), 1) := by decide +kernel
theorem c_272_10 : cd 272 10 = some (.bipush (99), 2) := by decide +kernel
theorem c_272_12 : cd 272 12 = some (.invokestatic 82, 3) := by decide +kernel
theorem c_272_15 : cd 272 15 = some (.ifCond .eq (18), 3) := by decide +kernel
theorem c_272_18 : cd 272 18 = some (.aload_n 0, 1) := by decide +kernel
theorem c_272_19 : cd 272 19 = some (.iload_n 3, 1) := by decide +kernel
theorem c_272_20 : cd 272 20 = some (.aload_n 0, 1) := by decide +kernel
theorem c_272_21 : cd 272 21 = some (.getfield 9, 3) := by decide +kernel
theorem c_272_24 : cd 272 24 = some (.bipush (6), 2) := by decide +kernel
theorem c_272_26 : cd 272 26 = some (.iaload, 1) := by decide +kernel
theorem c_272_27 : cd 272 27 = some (.invokevirtual 319, 3) := by decide +kernel
theorem c_272_30 : cd 272 30 = some (.ifCond .ne (6), 3) := by decide +kernel
theorem c_272_33 : cd 272 33 = some (.ldc 91, 2) := by decide +kernel
theorem c_272_35 : cd 272 35 = some (.ireturn, 1) := by decide +kernel
theorem c_272_36 : cd 272 36 = some (.aload_n 0, 1) := by decide +kernel
theorem c_272_37 : cd 272 37 = some (.iload_n 1, 1) := by decide +kernel
theorem c_272_38 : cd 272 38 = some (.iconst (0), 1) := by decide +kernel
theorem c_272_39 : cd 272 39 = some (.invokevirtual 144, 3) := by decide +kernel
theorem c_272_42 : cd 272 42 = some (.iconst (1), 1) := by decide +kernel
theorem c_272_43 : cd 272 43 = some (.if_icmp .ne (6), 3) := by decide +kernel
theorem c_272_46 : cd 272 46 = some (.ldc 154, 2) := by decide +kernel
theorem c_272_48 : cd 272 48 = some (.ireturn, 1) := by decide +kernel
theorem c_272_49 : cd 272 49 = some (.aload_n 0, 1) := by decide +kernel
theorem c_272_50 : cd 272 50 = some (.iload_n 1, 1) := by decide +kernel
theorem c_272_51 : cd 272 51 = some (.bipush (9), 2) := by decide +kernel
theorem c_272_53 : cd 272 53 = some (.invokevirtual 144, 3) := by decide +kernel
theorem c_272_56 : cd 272 56 = some (.ifCond .lt (27), 3) := by decide +kernel
theorem c_272_59 : cd 272 59 = some (.aload_n 0, 1) := by decide +kernel
theorem c_272_60 : cd 272 60 = some (.iload_n 1, 1) := by decide +kernel
theorem c_272_61 : cd 272 61 = some (.bipush (10), 2) := by decide +kernel
theorem c_272_63 : cd 272 63 = some (.invokevirtual 144, 3) := by decide +kernel
theorem c_272_66 : cd 272 66 = some (.aload_n 0, 1) := by decide +kernel
theorem c_272_67 : cd 272 67 = some (.getfield 9, 3) := by decide +kernel
theorem c_272_70 : cd 272 70 = some (.iconst (0), 1) := by decide +kernel
theorem c_272_71 : cd 272 71 = some (.iaload, 1) := by decide +kernel
theorem c_272_72 : cd 272 72 = some (.if_icmp .ne (11), 3) := by decide +kernel
theorem c_272_75 : cd 272 75 = some (.aload_n 0, 1) := by decide +kernel
theorem c_272_76 : cd 272 76 = some (.iload_n 1, 1) := by decide +kernel
theorem c_272_77 : cd 272 77 = some (.invokevirtual 322, 3) := by decide +kernel
theorem c_272_80 : cd 272 80 = some (.ifCond .eq (6), 3) := by decide +kernel
theorem c_272_83 : cd 272 83 = some (.ldc 155, 2) := by decide +kernel
theorem c_272_85 : cd 272 85 = some (.ireturn, 1) := by decide +kernel
theorem c_272_86 : cd 272 86 = some (.aload_n 0, 1) := by decide +kernel
theorem c_272_87 : cd 272 87 = some (.getfield 9, 3) := by decide +kernel
theorem c_272_90 : cd 272 90 = some (.bipush (6), 2) := by decide +kernel
theorem c_272_92 : cd 272 92 = some (.iaload, 1) := by decide +kernel
theorem c_272_93 : cd 272 93 = some (.bipush (24), 2) := by decide +kernel
theorem c_272_95 : cd 272 95 = some (.if_icmp .ne (8), 3) := by decide +kernel
theorem c_272_98 : cd 272 98 = some (.ldc 86, 2) := by decide +kernel
theorem c_272_100 : cd 272 100 = some (.goto (10), 3) := by decide +kernel
theorem c_272_103 : cd 272 103 = some (.aload_n 0, 1) := by decide +kernel
theorem c_272_104 : cd 272 104 = some (.iload_n 1, 1) := by decide +kernel
theorem c_272_105 : cd 272 105 = some (.iload_n 2, 1) := by decide +kernel
theorem c_272_106 : cd 272 106 = some (.iload_n 3, 1) := by decide +kernel
theorem c_272_107 : cd 272 107 = some (.invokevirtual 325, 3) := by decide +kernel
theorem c_272_110 : cd 272 110 = some (.ireturn, 1) := by decide +kernel
def f_Mo_decide_33 (σ : Mm) : Option (Int32 × Mm) := some ((-1000000001 : Int32), σ)
set_option maxRecDepth 100000 in
set_option maxHeartbeats 4000000 in
theorem t_Mo_decide_33 {X : Xt} {S : Sh} (hS : ShOK S) {d : Nat} (hd : 2 ≤ d + 1) (u0 : Value) (u1 : Value) (u2 : Value) (u3 : Value) (σ : Mm) : Rf X S emM (f_Mo_decide_33 σ) (d + 1) 272 33 [u0, u1, u2, u3] [] σ := by
  unfold f_Mo_decide_33
  refine rf_ldc (Or.inl ⟨rfl, rfl⟩) c_272_33 rfl kl_12_91 ?_
  exact rf_ret c_272_35 rfl rfl rfl rfl
def f_Mo_decide_83 (σ : Mm) : Option (Int32 × Mm) := some ((-1000000002 : Int32), σ)
set_option maxRecDepth 100000 in
set_option maxHeartbeats 4000000 in
theorem t_Mo_decide_83 {X : Xt} {S : Sh} (hS : ShOK S) {d : Nat} (hd : 2 ≤ d + 1) (u0 : Value) (u1 : Value) (u2 : Value) (u3 : Value) (σ : Mm) : Rf X S emM (f_Mo_decide_83 σ) (d + 1) 272 83 [u0, u1, u2, u3] [] σ := by
  unfold f_Mo_decide_83
  refine rf_ldc (Or.inl ⟨rfl, rfl⟩) c_272_83 rfl kl_12_155 ?_
  exact rf_ret c_272_85 rfl rfl rfl rfl
def f_Mo_decide_110 (y0 : Int32) (σ : Mm) : Option (Int32 × Mm) := some (y0, σ)
set_option maxRecDepth 100000 in
set_option maxHeartbeats 4000000 in
theorem t_Mo_decide_110 {X : Xt} {S : Sh} (hS : ShOK S) {d : Nat} (hd : 2 ≤ d + 1) (y0 : Int32) (u0 : Value) (u1 : Value) (u2 : Value) (u3 : Value) (σ : Mm) : Rf X S emM (f_Mo_decide_110 y0 σ) (d + 1) 272 110 [u0, u1, u2, u3] [.int y0] σ := by
  unfold f_Mo_decide_110
  exact rf_ret c_272_110 rfl rfl rfl rfl
def f_Mo_decide (x0 : Nat) (x1 : Int32) (x2 : Int32) (x3 : Int32) (σ : Mm) : Option (Int32 × Mm) := (f_Mo_isPaper σ x0 x1).bind fun v2 => (if v2 = 0 then (f_Mo_decide_33  σ) else ((f_Mo_in σ x2 (0 : Int32) (99 : Int32)).bind fun v12 => (if v12 = 0 then (f_Mo_decide_33  σ) else ((f_Mo_isSetOf σ x0 x3 (σ (rfT x0 0) (ix (6 : Int32)))).bind fun v27 => (if ¬ v27 = 0 then ((f_Mo_paperOf σ x0 x1 (0 : Int32)).bind fun v39 => (if ¬ v39 = (1 : Int32) then ((f_Mo_paperOf σ x0 x1 (9 : Int32)).bind fun v53 => (if v53 < 0 then (f_Mo_decide_83  σ) else ((f_Mo_paperOf σ x0 x1 (10 : Int32)).bind fun v63 => (if ¬ v63 = (σ (rfT x0 0) (ix (0 : Int32))) then (f_Mo_decide_83  σ) else ((f_Mo_hasDecision σ x0 x1).bind fun v77 => (if v77 = 0 then (if ¬ (σ (rfT x0 0) (ix (6 : Int32))) = (24 : Int32) then ((f_Mo_decides x0 x1 x2 x3 σ).bind fun v107 => f_Mo_decide_110  v107.1 v107.2) else (f_Mo_decide_110  (-1000000003 : Int32) σ)) else (f_Mo_decide_83  σ))))))) else (some ((-1000000012 : Int32), σ)))) else (f_Mo_decide_33  σ))))))
set_option maxRecDepth 100000 in
set_option maxHeartbeats 4000000 in
theorem t_Mo_decide_e {X : Xt} {S : Sh} (hS : ShOK S) {d : Nat} (hd : 2 ≤ d + 1) (x0 : Nat) (x1 : Int32) (x2 : Int32) (x3 : Int32) (σ : Mm) (h_x0 : tgT x0 = 12) : Rf X S emM (f_Mo_decide x0 x1 x2 x3 σ) (d + 1) 272 0 [.ref x0, .int x1, .int x2, .int x3] [] σ := by
  unfold f_Mo_decide
  refine rf_ald (i := 0) (Or.inr ⟨0, rfl, rfl, rfl⟩) c_272_0 rfl ?_
  refine rf_ild (i := 1) (Or.inr ⟨1, rfl, rfl, rfl⟩) c_272_1 rfl ?_
  refine rf_callI (as := [.ref x0, .int x1]) (kd := 1) c_272_2 rfl (by decide) rfl ml_12_141 (by decide) rfl (rcv_1 hS rfl rfl h_x0 (by decide)) (Nat.zero_le _) rfl rfl (t_Mo_isPaper hS (by omega) σ x0 x1 h_x0) (fun v2 => ?_)
  refine rf_ite (fun hc5 => ?_) (fun hc5 => ?_)
  · refine rf_b1t c_272_5 rfl (decide_eq_true hc5) ?_
    exact t_Mo_decide_33 hS hd  (.ref x0) (.int x1) (.int x2) (.int x3) σ
  · refine rf_b1f c_272_5 rfl (decide_eq_false hc5) ?_
    refine rf_ild (i := 2) (Or.inr ⟨2, rfl, rfl, rfl⟩) c_272_8 rfl ?_
    refine rf_iconst c_272_9 ki_0 ?_
    refine rf_bipush c_272_10 kb_99 ?_
    refine rf_callI (as := [.int x2, .int (0 : Int32), .int (99 : Int32)]) (kd := 0) c_272_12 rfl (by decide) rfl ml_12_82 (by decide) rfl (rcv_0 rfl) (Nat.zero_le _) rfl rfl (t_Mo_in hS (by omega) σ x2 (0 : Int32) (99 : Int32)) (fun v12 => ?_)
    refine rf_ite (fun hc15 => ?_) (fun hc15 => ?_)
    · refine rf_b1t c_272_15 rfl (decide_eq_true hc15) ?_
      exact t_Mo_decide_33 hS hd  (.ref x0) (.int x1) (.int x2) (.int x3) σ
    · refine rf_b1f c_272_15 rfl (decide_eq_false hc15) ?_
      refine rf_ald (i := 0) (Or.inr ⟨0, rfl, rfl, rfl⟩) c_272_18 rfl ?_
      refine rf_ild (i := 3) (Or.inr ⟨3, rfl, rfl, rfl⟩) c_272_19 rfl ?_
      refine rf_ald (i := 0) (Or.inr ⟨0, rfl, rfl, rfl⟩) c_272_20 rfl ?_
      refine rf_getr hS c_272_21 rfl fl_12_9 rfl h_x0 ?_
      refine rf_bipush c_272_24 kb_6 ?_
      refine rf_iald hS c_272_26 (tf_12_0 h_x0) (lf_12_0 h_x0) (by decide) ?_
      refine rf_callI (as := [.ref x0, .int x3, .int (σ (rfT x0 0) (ix (6 : Int32)))]) (kd := 1) c_272_27 rfl (by decide) rfl ml_12_319 (by decide) rfl (rcv_1 hS rfl rfl h_x0 (by decide)) (Nat.zero_le _) rfl rfl (t_Mo_isSetOf hS (by omega) σ x0 x3 (σ (rfT x0 0) (ix (6 : Int32))) h_x0) (fun v27 => ?_)
      refine rf_ite (fun hc30 => ?_) (fun hc30 => ?_)
      · refine rf_b1t c_272_30 rfl (decide_eq_true hc30) ?_
        refine rf_ald (i := 0) (Or.inr ⟨0, rfl, rfl, rfl⟩) c_272_36 rfl ?_
        refine rf_ild (i := 1) (Or.inr ⟨1, rfl, rfl, rfl⟩) c_272_37 rfl ?_
        refine rf_iconst c_272_38 ki_0 ?_
        refine rf_callI (as := [.ref x0, .int x1, .int (0 : Int32)]) (kd := 1) c_272_39 rfl (by decide) rfl ml_12_144 (by decide) rfl (rcv_1 hS rfl rfl h_x0 (by decide)) (Nat.zero_le _) rfl rfl (t_Mo_paperOf hS (by omega) σ x0 x1 (0 : Int32) h_x0) (fun v39 => ?_)
        refine rf_iconst c_272_42 ki_1 ?_
        refine rf_ite (fun hc43 => ?_) (fun hc43 => ?_)
        · refine rf_b2t c_272_43 rfl (decide_eq_true hc43) ?_
          refine rf_ald (i := 0) (Or.inr ⟨0, rfl, rfl, rfl⟩) c_272_49 rfl ?_
          refine rf_ild (i := 1) (Or.inr ⟨1, rfl, rfl, rfl⟩) c_272_50 rfl ?_
          refine rf_bipush c_272_51 kb_9 ?_
          refine rf_callI (as := [.ref x0, .int x1, .int (9 : Int32)]) (kd := 1) c_272_53 rfl (by decide) rfl ml_12_144 (by decide) rfl (rcv_1 hS rfl rfl h_x0 (by decide)) (Nat.zero_le _) rfl rfl (t_Mo_paperOf hS (by omega) σ x0 x1 (9 : Int32) h_x0) (fun v53 => ?_)
          refine rf_ite (fun hc56 => ?_) (fun hc56 => ?_)
          · refine rf_b1t c_272_56 rfl (decide_eq_true hc56) ?_
            exact t_Mo_decide_83 hS hd  (.ref x0) (.int x1) (.int x2) (.int x3) σ
          · refine rf_b1f c_272_56 rfl (decide_eq_false hc56) ?_
            refine rf_ald (i := 0) (Or.inr ⟨0, rfl, rfl, rfl⟩) c_272_59 rfl ?_
            refine rf_ild (i := 1) (Or.inr ⟨1, rfl, rfl, rfl⟩) c_272_60 rfl ?_
            refine rf_bipush c_272_61 kb_10 ?_
            refine rf_callI (as := [.ref x0, .int x1, .int (10 : Int32)]) (kd := 1) c_272_63 rfl (by decide) rfl ml_12_144 (by decide) rfl (rcv_1 hS rfl rfl h_x0 (by decide)) (Nat.zero_le _) rfl rfl (t_Mo_paperOf hS (by omega) σ x0 x1 (10 : Int32) h_x0) (fun v63 => ?_)
            refine rf_ald (i := 0) (Or.inr ⟨0, rfl, rfl, rfl⟩) c_272_66 rfl ?_
            refine rf_getr hS c_272_67 rfl fl_12_9 rfl h_x0 ?_
            refine rf_iconst c_272_70 ki_0 ?_
            refine rf_iald hS c_272_71 (tf_12_0 h_x0) (lf_12_0 h_x0) (by decide) ?_
            refine rf_ite (fun hc72 => ?_) (fun hc72 => ?_)
            · refine rf_b2t c_272_72 rfl (decide_eq_true hc72) ?_
              exact t_Mo_decide_83 hS hd  (.ref x0) (.int x1) (.int x2) (.int x3) σ
            · refine rf_b2f c_272_72 rfl (decide_eq_false hc72) ?_
              refine rf_ald (i := 0) (Or.inr ⟨0, rfl, rfl, rfl⟩) c_272_75 rfl ?_
              refine rf_ild (i := 1) (Or.inr ⟨1, rfl, rfl, rfl⟩) c_272_76 rfl ?_
              refine rf_callI (as := [.ref x0, .int x1]) (kd := 1) c_272_77 rfl (by decide) rfl ml_12_322 (by decide) rfl (rcv_1 hS rfl rfl h_x0 (by decide)) (Nat.zero_le _) rfl rfl (t_Mo_hasDecision hS (by omega) σ x0 x1 h_x0) (fun v77 => ?_)
              refine rf_ite (fun hc80 => ?_) (fun hc80 => ?_)
              · refine rf_b1t c_272_80 rfl (decide_eq_true hc80) ?_
                refine rf_ald (i := 0) (Or.inr ⟨0, rfl, rfl, rfl⟩) c_272_86 rfl ?_
                refine rf_getr hS c_272_87 rfl fl_12_9 rfl h_x0 ?_
                refine rf_bipush c_272_90 kb_6 ?_
                refine rf_iald hS c_272_92 (tf_12_0 h_x0) (lf_12_0 h_x0) (by decide) ?_
                refine rf_bipush c_272_93 kb_24 ?_
                refine rf_ite (fun hc95 => ?_) (fun hc95 => ?_)
                · refine rf_b2t c_272_95 rfl (decide_eq_true hc95) ?_
                  refine rf_ald (i := 0) (Or.inr ⟨0, rfl, rfl, rfl⟩) c_272_103 rfl ?_
                  refine rf_ild (i := 1) (Or.inr ⟨1, rfl, rfl, rfl⟩) c_272_104 rfl ?_
                  refine rf_ild (i := 2) (Or.inr ⟨2, rfl, rfl, rfl⟩) c_272_105 rfl ?_
                  refine rf_ild (i := 3) (Or.inr ⟨3, rfl, rfl, rfl⟩) c_272_106 rfl ?_
                  refine rf_callM (as := [.ref x0, .int x1, .int x2, .int x3]) (kd := 1) c_272_107 rfl (by decide) rfl ml_12_325 (by decide) rfl (rcv_1 hS rfl rfl h_x0 (by decide)) (Nat.zero_le _) rfl rfl (t_Mo_decides hS (by omega) x0 x1 x2 x3 σ h_x0) (fun v107 => ?_)
                  exact t_Mo_decide_110 hS hd  v107.1 (.ref x0) (.int x1) (.int x2) (.int x3) v107.2
                · refine rf_b2f c_272_95 rfl (decide_eq_false hc95) ?_
                  refine rf_ldc (Or.inl ⟨rfl, rfl⟩) c_272_98 rfl kl_12_86 ?_
                  refine rf_goto c_272_100 rfl ?_
                  exact t_Mo_decide_110 hS hd  (-1000000003 : Int32) (.ref x0) (.int x1) (.int x2) (.int x3) σ
              · refine rf_b1f c_272_80 rfl (decide_eq_false hc80) ?_
                exact t_Mo_decide_83 hS hd  (.ref x0) (.int x1) (.int x2) (.int x3) σ
        · refine rf_b2f c_272_43 rfl (decide_eq_false hc43) ?_
          refine rf_ldc (Or.inl ⟨rfl, rfl⟩) c_272_46 rfl kl_12_154 ?_
          exact rf_ret c_272_48 rfl rfl rfl rfl
      · refine rf_b1f c_272_30 rfl (decide_eq_false hc30) ?_
        exact t_Mo_decide_33 hS hd  (.ref x0) (.int x1) (.int x2) (.int x3) σ
theorem t_Mo_decide {X : Xt} {S : Sh} (hS : ShOK S) {d : Nat} (hd : 2 ≤ d) (x0 : Nat) (x1 : Int32) (x2 : Int32) (x3 : Int32) (σ : Mm) (h_x0 : tgT x0 = 12) : Rf X S emM (f_Mo_decide x0 x1 x2 x3 σ) d 272 0 [.ref x0, .int x1, .int x2, .int x3] [] σ := by
  obtain ⟨d1, rfl⟩ : ∃ d1, d = d1 + 1 := ⟨d - 1, by omega⟩
  exact t_Mo_decide_e hS hd x0 x1 x2 x3 σ h_x0
theorem c_273_0 : cd 273 0 = some (.iconst (0), 1) := by decide +kernel
theorem c_273_1 : cd 273 1 = some (.istore_n 2, 1) := by decide +kernel
theorem c_273_2 : cd 273 2 = some (.iconst (0), 1) := by decide +kernel
theorem c_273_3 : cd 273 3 = some (.istore_n 3, 1) := by decide +kernel
theorem c_273_4 : cd 273 4 = some (.iload_n 3, 1) := by decide +kernel
theorem c_273_5 : cd 273 5 = some (.aload_n 0, 1) := by decide +kernel
theorem c_273_6 : cd 273 6 = some (.getfield 9, 3) := by decide +kernel
theorem c_273_9 : cd 273 9 = some (.bipush (6), 2) := by decide +kernel
theorem c_273_11 : cd 273 11 = some (.iaload, 1) := by decide +kernel
theorem c_273_12 : cd 273 12 = some (.if_icmp .ge (73), 3) := by decide +kernel
theorem c_273_15 : cd 273 15 = some (.aload_n 0, 1) := by decide +kernel
theorem c_273_16 : cd 273 16 = some (.iload_n 3, 1) := by decide +kernel
theorem c_273_17 : cd 273 17 = some (.iconst (2), 1) := by decide +kernel
theorem c_273_18 : cd 273 18 = some (.invokevirtual 316, 3) := by decide +kernel
theorem c_273_21 : cd 273 21 = some (.iload_n 1, 1) := by decide +kernel
theorem c_273_22 : cd 273 22 = some (.if_icmp .gt (26), 3) := by decide +kernel
theorem c_273_25 : cd 273 25 = some (.aload_n 0, 1) := by decide +kernel
theorem c_273_26 : cd 273 26 = some (.iload_n 3, 1) := by decide +kernel
theorem c_273_27 : cd 273 27 = some (.iconst (5), 1) := by decide +kernel
theorem c_273_28 : cd 273 28 = some (.invokevirtual 316, 3) := by decide +kernel
theorem c_273_31 : cd 273 31 = some (.ifCond .lt (13), 3) := by decide +kernel
theorem c_273_34 : cd 273 34 = some (.aload_n 0, 1) := by decide +kernel
theorem c_273_35 : cd 273 35 = some (.iload_n 3, 1) := by decide +kernel
theorem c_273_36 : cd 273 36 = some (.iconst (5), 1) := by decide +kernel
theorem c_273_37 : cd 273 37 = some (.invokevirtual 316, 3) := by decide +kernel
theorem c_273_40 : cd 273 40 = some (.iload_n 1, 1) := by decide +kernel
theorem c_273_41 : cd 273 41 = some (.if_icmp .le (7), 3) := by decide +kernel
theorem c_273_44 : cd 273 44 = some (.iconst (1), 1) := by decide +kernel
theorem c_273_45 : cd 273 45 = some (.goto (4), 3) := by decide +kernel
theorem c_273_48 : cd 273 48 = some (.iconst (0), 1) := by decide +kernel
theorem c_273_49 : cd 273 49 = some (.istore 4, 2) := by decide +kernel
theorem c_273_51 : cd 273 51 = some (.iload_n 2, 1) := by decide +kernel
theorem c_273_52 : cd 273 52 = some (.iload 4, 2) := by decide +kernel
theorem c_273_54 : cd 273 54 = some (.ifCond .eq (22), 3) := by decide +kernel
theorem c_273_57 : cd 273 57 = some (.aload_n 0, 1) := by decide +kernel
theorem c_273_58 : cd 273 58 = some (.iload_n 3, 1) := by decide +kernel
theorem c_273_59 : cd 273 59 = some (.iconst (4), 1) := by decide +kernel
theorem c_273_60 : cd 273 60 = some (.invokevirtual 316, 3) := by decide +kernel
theorem c_273_63 : cd 273 63 = some (.iload_n 2, 1) := by decide +kernel
theorem c_273_64 : cd 273 64 = some (.iconst (-1), 1) := by decide +kernel
theorem c_273_65 : cd 273 65 = some (.ixor, 1) := by decide +kernel
theorem c_273_66 : cd 273 66 = some (.iand, 1) := by decide +kernel
theorem c_273_67 : cd 273 67 = some (.ifCond .ne (9), 3) := by decide +kernel
theorem c_273_70 : cd 273 70 = some (.iconst (1), 1) := by decide +kernel
theorem c_273_71 : cd 273 71 = some (.iload_n 3, 1) := by decide +kernel
theorem c_273_72 : cd 273 72 = some (.ishl, 1) := by decide +kernel
theorem c_273_73 : cd 273 73 = some (.goto (4), 3) := by decide +kernel
theorem c_273_76 : cd 273 76 = some (.iconst (0), 1) := by decide +kernel
theorem c_273_77 : cd 273 77 = some (.ior, 1) := by decide +kernel
theorem c_273_78 : cd 273 78 = some (.istore_n 2, 1) := by decide +kernel
theorem c_273_79 : cd 273 79 = some (.iinc 3 (1), 3) := by decide +kernel
theorem c_273_82 : cd 273 82 = some (.goto (-78), 3) := by decide +kernel
theorem c_273_85 : cd 273 85 = some (.iload_n 2, 1) := by decide +kernel
theorem c_273_86 : cd 273 86 = some (.ireturn, 1) := by decide +kernel
def f_Mo_standing_77 (σ : Mm) (k4 : Nat → Int32 → Int32 → Int32 → Option (Int32)) (x0 : Nat) (x1 : Int32) (x3 : Int32) (y0 : Int32) (y1 : Int32) : Option Int32 := k4 x0 x1 (y0 ||| y1) (x3 + (1 : Int32))
set_option maxRecDepth 100000 in
set_option maxHeartbeats 4000000 in
theorem t_Mo_standing_77 {X : Xt} {S : Sh} (hS : ShOK S) {d : Nat} (hd : 1 ≤ d + 1) (σ : Mm) {k4 : Nat → Int32 → Int32 → Int32 → Option (Int32)} (hk4 : ∀ (x0 : Nat) (x1 : Int32) (x2 : Int32) (x3 : Int32) (u4 : Value) (h_x0 : tgT x0 = 12), Rf X S (emI σ) (k4 x0 x1 x2 x3) (d + 1) 273 4 [.ref x0, .int x1, .int x2, .int x3, u4] [] σ) (x0 : Nat) (x1 : Int32) (x3 : Int32) (y0 : Int32) (y1 : Int32) (u2 : Value) (u4 : Value) (h_x0 : tgT x0 = 12) : Rf X S (emI σ) (f_Mo_standing_77 σ k4 x0 x1 x3 y0 y1) (d + 1) 273 77 [.ref x0, .int x1, u2, .int x3, u4] [.int y1, .int y0] σ := by
  unfold f_Mo_standing_77
  refine rf_ior c_273_77 ?_
  refine rf_ist (i := 2) (Or.inr ⟨2, rfl, rfl, rfl⟩) c_273_78 (Nat.le_of_ble_eq_true rfl) rfl ?_
  refine rf_iinc c_273_79 rfl ki_1 rfl ?_
  refine rf_goto c_273_82 rfl ?_
  exact hk4 x0 x1 (y0 ||| y1) (x3 + (1 : Int32)) (u4) h_x0
def f_Mo_standing_76 (σ : Mm) (k4 : Nat → Int32 → Int32 → Int32 → Option (Int32)) (x0 : Nat) (x1 : Int32) (x3 : Int32) (y0 : Int32) : Option Int32 := f_Mo_standing_77 σ k4 x0 x1 x3 y0 (0 : Int32)
set_option maxRecDepth 100000 in
set_option maxHeartbeats 4000000 in
theorem t_Mo_standing_76 {X : Xt} {S : Sh} (hS : ShOK S) {d : Nat} (hd : 1 ≤ d + 1) (σ : Mm) {k4 : Nat → Int32 → Int32 → Int32 → Option (Int32)} (hk4 : ∀ (x0 : Nat) (x1 : Int32) (x2 : Int32) (x3 : Int32) (u4 : Value) (h_x0 : tgT x0 = 12), Rf X S (emI σ) (k4 x0 x1 x2 x3) (d + 1) 273 4 [.ref x0, .int x1, .int x2, .int x3, u4] [] σ) (x0 : Nat) (x1 : Int32) (x3 : Int32) (y0 : Int32) (u2 : Value) (u4 : Value) (h_x0 : tgT x0 = 12) : Rf X S (emI σ) (f_Mo_standing_76 σ k4 x0 x1 x3 y0) (d + 1) 273 76 [.ref x0, .int x1, u2, .int x3, u4] [.int y0] σ := by
  unfold f_Mo_standing_76
  refine rf_iconst c_273_76 ki_0 ?_
  exact t_Mo_standing_77 hS hd σ hk4 x0 x1 x3 y0 (0 : Int32) (u2) (u4) h_x0
def f_Mo_standing_49 (σ : Mm) (k4 : Nat → Int32 → Int32 → Int32 → Option (Int32)) (x0 : Nat) (x1 : Int32) (x2 : Int32) (x3 : Int32) (y0 : Int32) : Option Int32 := (if y0 = 0 then (f_Mo_standing_76 σ k4 x0 x1 x3 x2) else ((f_Mo_decisionOf σ x0 x3 (4 : Int32)).bind fun v60 => (if ¬ (v60 &&& (x2 ^^^ (-1 : Int32))) = 0 then (f_Mo_standing_76 σ k4 x0 x1 x3 x2) else (f_Mo_standing_77 σ k4 x0 x1 x3 x2 ((1 : Int32) <<< (x3 &&& 31))))))
set_option maxRecDepth 100000 in
set_option maxHeartbeats 4000000 in
theorem t_Mo_standing_49 {X : Xt} {S : Sh} (hS : ShOK S) {d : Nat} (hd : 1 ≤ d + 1) (σ : Mm) {k4 : Nat → Int32 → Int32 → Int32 → Option (Int32)} (hk4 : ∀ (x0 : Nat) (x1 : Int32) (x2 : Int32) (x3 : Int32) (u4 : Value) (h_x0 : tgT x0 = 12), Rf X S (emI σ) (k4 x0 x1 x2 x3) (d + 1) 273 4 [.ref x0, .int x1, .int x2, .int x3, u4] [] σ) (x0 : Nat) (x1 : Int32) (x2 : Int32) (x3 : Int32) (y0 : Int32) (u4 : Value) (h_x0 : tgT x0 = 12) : Rf X S (emI σ) (f_Mo_standing_49 σ k4 x0 x1 x2 x3 y0) (d + 1) 273 49 [.ref x0, .int x1, .int x2, .int x3, u4] [.int y0] σ := by
  unfold f_Mo_standing_49
  refine rf_ist (i := 4) (Or.inl ⟨rfl, rfl⟩) c_273_49 (Nat.le_of_ble_eq_true rfl) rfl ?_
  refine rf_ild (i := 2) (Or.inr ⟨2, rfl, rfl, rfl⟩) c_273_51 rfl ?_
  refine rf_ild (i := 4) (Or.inl ⟨rfl, rfl⟩) c_273_52 rfl ?_
  refine rf_ite (fun hc54 => ?_) (fun hc54 => ?_)
  · refine rf_b1t c_273_54 rfl (decide_eq_true hc54) ?_
    exact t_Mo_standing_76 hS hd σ hk4 x0 x1 x3 x2 (.int x2) (.int y0) h_x0
  · refine rf_b1f c_273_54 rfl (decide_eq_false hc54) ?_
    refine rf_ald (i := 0) (Or.inr ⟨0, rfl, rfl, rfl⟩) c_273_57 rfl ?_
    refine rf_ild (i := 3) (Or.inr ⟨3, rfl, rfl, rfl⟩) c_273_58 rfl ?_
    refine rf_iconst c_273_59 ki_4 ?_
    refine rf_callI (as := [.ref x0, .int x3, .int (4 : Int32)]) (kd := 1) c_273_60 rfl (by decide) rfl ml_12_316 (by decide) rfl (rcv_1 hS rfl rfl h_x0 (by decide)) (by simp [Value.category]) rfl rfl (t_Mo_decisionOf hS (by omega) σ x0 x3 (4 : Int32) h_x0) (fun v60 => ?_)
    refine rf_ild (i := 2) (Or.inr ⟨2, rfl, rfl, rfl⟩) c_273_63 rfl ?_
    refine rf_iconst c_273_64 ki_m1 ?_
    refine rf_ixor c_273_65 ?_
    refine rf_iand c_273_66 ?_
    refine rf_ite (fun hc67 => ?_) (fun hc67 => ?_)
    · refine rf_b1t c_273_67 rfl (decide_eq_true hc67) ?_
      exact t_Mo_standing_76 hS hd σ hk4 x0 x1 x3 x2 (.int x2) (.int y0) h_x0
    · refine rf_b1f c_273_67 rfl (decide_eq_false hc67) ?_
      refine rf_iconst c_273_70 ki_1 ?_
      refine rf_ild (i := 3) (Or.inr ⟨3, rfl, rfl, rfl⟩) c_273_71 rfl ?_
      refine rf_ishl c_273_72 ?_
      refine rf_goto c_273_73 rfl ?_
      exact t_Mo_standing_77 hS hd σ hk4 x0 x1 x3 x2 ((1 : Int32) <<< (x3 &&& 31)) (.int x2) (.int y0) h_x0
def f_Mo_standing_44 (σ : Mm) (k4 : Nat → Int32 → Int32 → Int32 → Option (Int32)) (x0 : Nat) (x1 : Int32) (x2 : Int32) (x3 : Int32) : Option Int32 := f_Mo_standing_49 σ k4 x0 x1 x2 x3 (1 : Int32)
set_option maxRecDepth 100000 in
set_option maxHeartbeats 4000000 in
theorem t_Mo_standing_44 {X : Xt} {S : Sh} (hS : ShOK S) {d : Nat} (hd : 1 ≤ d + 1) (σ : Mm) {k4 : Nat → Int32 → Int32 → Int32 → Option (Int32)} (hk4 : ∀ (x0 : Nat) (x1 : Int32) (x2 : Int32) (x3 : Int32) (u4 : Value) (h_x0 : tgT x0 = 12), Rf X S (emI σ) (k4 x0 x1 x2 x3) (d + 1) 273 4 [.ref x0, .int x1, .int x2, .int x3, u4] [] σ) (x0 : Nat) (x1 : Int32) (x2 : Int32) (x3 : Int32) (u4 : Value) (h_x0 : tgT x0 = 12) : Rf X S (emI σ) (f_Mo_standing_44 σ k4 x0 x1 x2 x3) (d + 1) 273 44 [.ref x0, .int x1, .int x2, .int x3, u4] [] σ := by
  unfold f_Mo_standing_44
  refine rf_iconst c_273_44 ki_1 ?_
  refine rf_goto c_273_45 rfl ?_
  exact t_Mo_standing_49 hS hd σ hk4 x0 x1 x2 x3 (1 : Int32) (u4) h_x0
def f_Mo_standing_48 (σ : Mm) (k4 : Nat → Int32 → Int32 → Int32 → Option (Int32)) (x0 : Nat) (x1 : Int32) (x2 : Int32) (x3 : Int32) : Option Int32 := f_Mo_standing_49 σ k4 x0 x1 x2 x3 (0 : Int32)
set_option maxRecDepth 100000 in
set_option maxHeartbeats 4000000 in
theorem t_Mo_standing_48 {X : Xt} {S : Sh} (hS : ShOK S) {d : Nat} (hd : 1 ≤ d + 1) (σ : Mm) {k4 : Nat → Int32 → Int32 → Int32 → Option (Int32)} (hk4 : ∀ (x0 : Nat) (x1 : Int32) (x2 : Int32) (x3 : Int32) (u4 : Value) (h_x0 : tgT x0 = 12), Rf X S (emI σ) (k4 x0 x1 x2 x3) (d + 1) 273 4 [.ref x0, .int x1, .int x2, .int x3, u4] [] σ) (x0 : Nat) (x1 : Int32) (x2 : Int32) (x3 : Int32) (u4 : Value) (h_x0 : tgT x0 = 12) : Rf X S (emI σ) (f_Mo_standing_48 σ k4 x0 x1 x2 x3) (d + 1) 273 48 [.ref x0, .int x1, .int x2, .int x3, u4] [] σ := by
  unfold f_Mo_standing_48
  refine rf_iconst c_273_48 ki_0 ?_
  exact t_Mo_standing_49 hS hd σ hk4 x0 x1 x2 x3 (0 : Int32) (u4) h_x0
def f_Mo_standing_4 (σ : Mm) : Nat → Nat → Int32 → Int32 → Int32 → Option Int32
  | 0, _, _, _, _ => none
  | n + 1, x0, x1, x2, x3 => (if (σ (rfT x0 0) (ix (6 : Int32))) ≤ x3 then (some x2) else ((f_Mo_decisionOf σ x0 x3 (2 : Int32)).bind fun v18 => (if x1 < v18 then (f_Mo_standing_48 σ (f_Mo_standing_4 σ n) x0 x1 x2 x3) else ((f_Mo_decisionOf σ x0 x3 (5 : Int32)).bind fun v28 => (if v28 < 0 then (f_Mo_standing_44 σ (f_Mo_standing_4 σ n) x0 x1 x2 x3) else ((f_Mo_decisionOf σ x0 x3 (5 : Int32)).bind fun v37 => (if v37 ≤ x1 then (f_Mo_standing_48 σ (f_Mo_standing_4 σ n) x0 x1 x2 x3) else (f_Mo_standing_44 σ (f_Mo_standing_4 σ n) x0 x1 x2 x3))))))))
set_option maxRecDepth 100000 in
set_option maxHeartbeats 4000000 in
theorem t_Mo_standing_4 {X : Xt} {S : Sh} (hS : ShOK S) {d : Nat} (hd : 1 ≤ d + 1) (σ : Mm) : ∀ (n : Nat) (x0 : Nat) (x1 : Int32) (x2 : Int32) (x3 : Int32) (u4 : Value) (h_x0 : tgT x0 = 12), Rf X S (emI σ) (f_Mo_standing_4 σ n x0 x1 x2 x3) (d + 1) 273 4 [.ref x0, .int x1, .int x2, .int x3, u4] [] σ := by
  intro n
  induction n with
  | zero => intro x0 x1 x2 x3 u4 h_x0; exact rf_none
  | succ n ih =>
    intro x0 x1 x2 x3 u4 h_x0
    rw [f_Mo_standing_4]
    refine rf_ild (i := 3) (Or.inr ⟨3, rfl, rfl, rfl⟩) c_273_4 rfl ?_
    refine rf_ald (i := 0) (Or.inr ⟨0, rfl, rfl, rfl⟩) c_273_5 rfl ?_
    refine rf_getr hS c_273_6 rfl fl_12_9 rfl h_x0 ?_
    refine rf_bipush c_273_9 kb_6 ?_
    refine rf_iald hS c_273_11 (tf_12_0 h_x0) (lf_12_0 h_x0) (by decide) ?_
    refine rf_ite (fun hc12 => ?_) (fun hc12 => ?_)
    · refine rf_b2t c_273_12 rfl (decide_eq_true hc12) ?_
      refine rf_ild (i := 2) (Or.inr ⟨2, rfl, rfl, rfl⟩) c_273_85 rfl ?_
      exact rf_ret c_273_86 rfl rfl rfl rfl
    · refine rf_b2f c_273_12 rfl (decide_eq_false hc12) ?_
      refine rf_ald (i := 0) (Or.inr ⟨0, rfl, rfl, rfl⟩) c_273_15 rfl ?_
      refine rf_ild (i := 3) (Or.inr ⟨3, rfl, rfl, rfl⟩) c_273_16 rfl ?_
      refine rf_iconst c_273_17 ki_2 ?_
      refine rf_callI (as := [.ref x0, .int x3, .int (2 : Int32)]) (kd := 1) c_273_18 rfl (by decide) rfl ml_12_316 (by decide) rfl (rcv_1 hS rfl rfl h_x0 (by decide)) (Nat.zero_le _) rfl rfl (t_Mo_decisionOf hS (by omega) σ x0 x3 (2 : Int32) h_x0) (fun v18 => ?_)
      refine rf_ild (i := 1) (Or.inr ⟨1, rfl, rfl, rfl⟩) c_273_21 rfl ?_
      refine rf_ite (fun hc22 => ?_) (fun hc22 => ?_)
      · refine rf_b2t c_273_22 rfl (decide_eq_true hc22) ?_
        exact t_Mo_standing_48 hS hd σ ih x0 x1 x2 x3 (u4) h_x0
      · refine rf_b2f c_273_22 rfl (decide_eq_false hc22) ?_
        refine rf_ald (i := 0) (Or.inr ⟨0, rfl, rfl, rfl⟩) c_273_25 rfl ?_
        refine rf_ild (i := 3) (Or.inr ⟨3, rfl, rfl, rfl⟩) c_273_26 rfl ?_
        refine rf_iconst c_273_27 ki_5 ?_
        refine rf_callI (as := [.ref x0, .int x3, .int (5 : Int32)]) (kd := 1) c_273_28 rfl (by decide) rfl ml_12_316 (by decide) rfl (rcv_1 hS rfl rfl h_x0 (by decide)) (Nat.zero_le _) rfl rfl (t_Mo_decisionOf hS (by omega) σ x0 x3 (5 : Int32) h_x0) (fun v28 => ?_)
        refine rf_ite (fun hc31 => ?_) (fun hc31 => ?_)
        · refine rf_b1t c_273_31 rfl (decide_eq_true hc31) ?_
          exact t_Mo_standing_44 hS hd σ ih x0 x1 x2 x3 (u4) h_x0
        · refine rf_b1f c_273_31 rfl (decide_eq_false hc31) ?_
          refine rf_ald (i := 0) (Or.inr ⟨0, rfl, rfl, rfl⟩) c_273_34 rfl ?_
          refine rf_ild (i := 3) (Or.inr ⟨3, rfl, rfl, rfl⟩) c_273_35 rfl ?_
          refine rf_iconst c_273_36 ki_5 ?_
          refine rf_callI (as := [.ref x0, .int x3, .int (5 : Int32)]) (kd := 1) c_273_37 rfl (by decide) rfl ml_12_316 (by decide) rfl (rcv_1 hS rfl rfl h_x0 (by decide)) (Nat.zero_le _) rfl rfl (t_Mo_decisionOf hS (by omega) σ x0 x3 (5 : Int32) h_x0) (fun v37 => ?_)
          refine rf_ild (i := 1) (Or.inr ⟨1, rfl, rfl, rfl⟩) c_273_40 rfl ?_
          refine rf_ite (fun hc41 => ?_) (fun hc41 => ?_)
          · refine rf_b2t c_273_41 rfl (decide_eq_true hc41) ?_
            exact t_Mo_standing_48 hS hd σ ih x0 x1 x2 x3 (u4) h_x0
          · refine rf_b2f c_273_41 rfl (decide_eq_false hc41) ?_
            exact t_Mo_standing_44 hS hd σ ih x0 x1 x2 x3 (u4) h_x0
def f_Mo_standing (σ : Mm) (x0 : Nat) (x1 : Int32) : Option Int32 := f_Mo_standing_4 σ NN x0 x1 (0 : Int32) (0 : Int32)
set_option maxRecDepth 100000 in
set_option maxHeartbeats 4000000 in
theorem t_Mo_standing_e {X : Xt} {S : Sh} (hS : ShOK S) {d : Nat} (hd : 1 ≤ d + 1) (σ : Mm) (x0 : Nat) (x1 : Int32) (h_x0 : tgT x0 = 12) : Rf X S (emI σ) (f_Mo_standing σ x0 x1) (d + 1) 273 0 [.ref x0, .int x1, unset0, unset0, unset0] [] σ := by
  unfold f_Mo_standing
  refine rf_iconst c_273_0 ki_0 ?_
  refine rf_ist (i := 2) (Or.inr ⟨2, rfl, rfl, rfl⟩) c_273_1 (Nat.le_of_ble_eq_true rfl) rfl ?_
  refine rf_iconst c_273_2 ki_0 ?_
  refine rf_ist (i := 3) (Or.inr ⟨3, rfl, rfl, rfl⟩) c_273_3 (Nat.le_of_ble_eq_true rfl) rfl ?_
  exact t_Mo_standing_4 hS hd σ  NN x0 x1 (0 : Int32) (0 : Int32) (unset0) h_x0
theorem t_Mo_standing {X : Xt} {S : Sh} (hS : ShOK S) {d : Nat} (hd : 1 ≤ d) (σ : Mm) (x0 : Nat) (x1 : Int32) (h_x0 : tgT x0 = 12) : Rf X S (emI σ) (f_Mo_standing σ x0 x1) d 273 0 [.ref x0, .int x1, unset0, unset0, unset0] [] σ := by
  obtain ⟨d1, rfl⟩ : ∃ d1, d = d1 + 1 := ⟨d - 1, by omega⟩
  exact t_Mo_standing_e hS hd σ x0 x1 h_x0
theorem c_274_0 : cd 274 0 = some (.aload_n 0, 1) := by decide +kernel
theorem c_274_1 : cd 274 1 = some (.aload_n 0, 1) := by decide +kernel
theorem c_274_2 : cd 274 2 = some (.getfield 9, 3) := by decide +kernel
theorem c_274_5 : cd 274 5 = some (.iconst (0), 1) := by decide +kernel
theorem c_274_6 : cd 274 6 = some (.iaload, 1) := by decide +kernel
theorem c_274_7 : cd 274 7 = some (.invokevirtual 328, 3) := by decide +kernel
theorem c_274_10 : cd 274 10 = some (.iload_n 1, 1) := by decide +kernel
theorem c_274_11 : cd 274 11 = some (.ishr, 1) := by decide +kernel
theorem c_274_12 : cd 274 12 = some (.iconst (1), 1) := by decide +kernel
theorem c_274_13 : cd 274 13 = some (.iand, 1) := by decide +kernel
theorem c_274_14 : cd 274 14 = some (.iconst (1), 1) := by decide +kernel
theorem c_274_15 : cd 274 15 = some (.if_icmp .ne (7), 3) := by decide +kernel
theorem c_274_18 : cd 274 18 = some (.iconst (1), 1) := by decide +kernel
theorem c_274_19 : cd 274 19 = some (.goto (4), 3) := by decide +kernel
theorem c_274_22 : cd 274 22 = some (.iconst (0), 1) := by decide +kernel
theorem c_274_23 : cd 274 23 = some (.ireturn, 1) := by decide +kernel
def f_Mo_stands_23 (σ : Mm) (y0 : Int32) : Option Int32 := if zB y0 = true then some y0 else none
set_option maxRecDepth 100000 in
set_option maxHeartbeats 4000000 in
theorem t_Mo_stands_23 {X : Xt} {S : Sh} (hS : ShOK S) {d : Nat} (hd : 2 ≤ d + 1) (σ : Mm) (y0 : Int32) (u0 : Value) (u1 : Value) : Rf X S (emI σ) (f_Mo_stands_23 σ y0) (d + 1) 274 23 [u0, u1] [.int y0] σ := by
  unfold f_Mo_stands_23
  refine rf_ite (fun hq23 => ?_) (fun _ => rf_none)
  exact rf_ret c_274_23 rfl (zB_n hq23) rfl rfl
def f_Mo_stands (σ : Mm) (x0 : Nat) (x1 : Int32) : Option Int32 := (f_Mo_standing σ x0 (σ (rfT x0 0) (ix (0 : Int32)))).bind fun v7 => (if ¬ ((v7 >>> (x1 &&& 31)) &&& (1 : Int32)) = (1 : Int32) then (f_Mo_stands_23 σ (0 : Int32)) else (f_Mo_stands_23 σ (1 : Int32)))
set_option maxRecDepth 100000 in
set_option maxHeartbeats 4000000 in
theorem t_Mo_stands_e {X : Xt} {S : Sh} (hS : ShOK S) {d : Nat} (hd : 2 ≤ d + 1) (σ : Mm) (x0 : Nat) (x1 : Int32) (h_x0 : tgT x0 = 12) : Rf X S (emI σ) (f_Mo_stands σ x0 x1) (d + 1) 274 0 [.ref x0, .int x1] [] σ := by
  unfold f_Mo_stands
  refine rf_ald (i := 0) (Or.inr ⟨0, rfl, rfl, rfl⟩) c_274_0 rfl ?_
  refine rf_ald (i := 0) (Or.inr ⟨0, rfl, rfl, rfl⟩) c_274_1 rfl ?_
  refine rf_getr hS c_274_2 rfl fl_12_9 rfl h_x0 ?_
  refine rf_iconst c_274_5 ki_0 ?_
  refine rf_iald hS c_274_6 (tf_12_0 h_x0) (lf_12_0 h_x0) (by decide) ?_
  refine rf_callI (as := [.ref x0, .int (σ (rfT x0 0) (ix (0 : Int32)))]) (kd := 1) c_274_7 rfl (by decide) rfl ml_12_328 (by decide) rfl (rcv_1 hS rfl rfl h_x0 (by decide)) (Nat.zero_le _) rfl rfl (t_Mo_standing hS (by omega) σ x0 (σ (rfT x0 0) (ix (0 : Int32))) h_x0) (fun v7 => ?_)
  refine rf_ild (i := 1) (Or.inr ⟨1, rfl, rfl, rfl⟩) c_274_10 rfl ?_
  refine rf_ishr c_274_11 ?_
  refine rf_iconst c_274_12 ki_1 ?_
  refine rf_iand c_274_13 ?_
  refine rf_iconst c_274_14 ki_1 ?_
  refine rf_ite (fun hc15 => ?_) (fun hc15 => ?_)
  · refine rf_b2t c_274_15 rfl (decide_eq_true hc15) ?_
    refine rf_iconst c_274_22 ki_0 ?_
    exact t_Mo_stands_23 hS hd σ  (0 : Int32) (.ref x0) (.int x1)
  · refine rf_b2f c_274_15 rfl (decide_eq_false hc15) ?_
    refine rf_iconst c_274_18 ki_1 ?_
    refine rf_goto c_274_19 rfl ?_
    exact t_Mo_stands_23 hS hd σ  (1 : Int32) (.ref x0) (.int x1)
theorem t_Mo_stands {X : Xt} {S : Sh} (hS : ShOK S) {d : Nat} (hd : 2 ≤ d) (σ : Mm) (x0 : Nat) (x1 : Int32) (h_x0 : tgT x0 = 12) : Rf X S (emI σ) (f_Mo_stands σ x0 x1) d 274 0 [.ref x0, .int x1] [] σ := by
  obtain ⟨d1, rfl⟩ : ∃ d1, d = d1 + 1 := ⟨d - 1, by omega⟩
  exact t_Mo_stands_e hS hd σ x0 x1 h_x0
theorem c_275_0 : cd 275 0 = some (.aload_n 0, 1) := by decide +kernel
theorem c_275_1 : cd 275 1 = some (.iload_n 1, 1) := by decide +kernel
theorem c_275_2 : cd 275 2 = some (.invokevirtual 331, 3) := by decide +kernel
theorem c_275_5 : cd 275 5 = some (.ifCond .eq (13), 3) := by decide +kernel
theorem c_275_8 : cd 275 8 = some (.iload_n 2, 1) := by decide +kernel
theorem c_275_9 : cd 275 9 = some (.iconst (0), 1) := by decide +kernel
theorem c_275_10 : cd 275 10 = some (.bipush (8), 2) := by decide +kernel
theorem c_275_12 : cd 275 12 = some (.invokestatic 82, 3) := by decide +kernel
theorem c_275_15 : cd 275 15 = some (.ifCond .ne (6), 3) := by decide +kernel
theorem c_275_18 : cd 275 18 = some (.ldc 91, 2) := by decide +kernel
theorem c_275_20 : cd 275 20 = some (.ireturn, 1) := by decide +kernel
theorem c_275_21 : cd 275 21 = some (.iload_n 2, 1) := by decide +kernel
theorem c_275_22 : cd 275 22 = some (.tableswitch (95) (0) (8) #[50, 57, 95, 95, 95, 95, 63, 73, 81], 50) := by decide +kernel
theorem c_275_72 : cd 275 72 = some (.aload_n 0, 1) := by decide +kernel
theorem c_275_73 : cd 275 73 = some (.iload_n 1, 1) := by decide +kernel
theorem c_275_74 : cd 275 74 = some (.iconst (0), 1) := by decide +kernel
theorem c_275_75 : cd 275 75 = some (.invokevirtual 316, 3) := by decide +kernel
theorem c_275_78 : cd 275 78 = some (.ireturn, 1) := by decide +kernel
theorem c_275_79 : cd 275 79 = some (.aload_n 0, 1) := by decide +kernel
theorem c_275_80 : cd 275 80 = some (.iload_n 1, 1) := by decide +kernel
theorem c_275_81 : cd 275 81 = some (.invokevirtual 334, 3) := by decide +kernel
theorem c_275_84 : cd 275 84 = some (.ireturn, 1) := by decide +kernel
theorem c_275_85 : cd 275 85 = some (.aload_n 0, 1) := by decide +kernel
theorem c_275_86 : cd 275 86 = some (.iload_n 1, 1) := by decide +kernel
theorem c_275_87 : cd 275 87 = some (.iconst (5), 1) := by decide +kernel
theorem c_275_88 : cd 275 88 = some (.invokevirtual 316, 3) := by decide +kernel
theorem c_275_91 : cd 275 91 = some (.invokestatic 96, 3) := by decide +kernel
theorem c_275_94 : cd 275 94 = some (.ireturn, 1) := by decide +kernel
theorem c_275_95 : cd 275 95 = some (.aload_n 0, 1) := by decide +kernel
theorem c_275_96 : cd 275 96 = some (.iload_n 1, 1) := by decide +kernel
theorem c_275_97 : cd 275 97 = some (.bipush (6), 2) := by decide +kernel
theorem c_275_99 : cd 275 99 = some (.invokevirtual 316, 3) := by decide +kernel
theorem c_275_102 : cd 275 102 = some (.ireturn, 1) := by decide +kernel
theorem c_275_103 : cd 275 103 = some (.aload_n 0, 1) := by decide +kernel
theorem c_275_104 : cd 275 104 = some (.iload_n 1, 1) := by decide +kernel
theorem c_275_105 : cd 275 105 = some (.invokevirtual 337, 3) := by decide +kernel
theorem c_275_108 : cd 275 108 = some (.ifCond .eq (7), 3) := by decide +kernel
theorem c_275_111 : cd 275 111 = some (.iconst (1), 1) := by decide +kernel
theorem c_275_112 : cd 275 112 = some (.goto (4), 3) := by decide +kernel
theorem c_275_115 : cd 275 115 = some (.iconst (0), 1) := by decide +kernel
theorem c_275_116 : cd 275 116 = some (.ireturn, 1) := by decide +kernel
theorem c_275_117 : cd 275 117 = some (.aload_n 0, 1) := by decide +kernel
theorem c_275_118 : cd 275 118 = some (.iload_n 1, 1) := by decide +kernel
theorem c_275_119 : cd 275 119 = some (.iload_n 2, 1) := by decide +kernel
theorem c_275_120 : cd 275 120 = some (.iconst (1), 1) := by decide +kernel
theorem c_275_121 : cd 275 121 = some (.isub, 1) := by decide +kernel
theorem c_275_122 : cd 275 122 = some (.invokevirtual 316, 3) := by decide +kernel
theorem c_275_125 : cd 275 125 = some (.ireturn, 1) := by decide +kernel
def f_Mo_is_18 (σ : Mm) : Option Int32 := some (-1000000001 : Int32)
set_option maxRecDepth 100000 in
set_option maxHeartbeats 4000000 in
theorem t_Mo_is_18 {X : Xt} {S : Sh} (hS : ShOK S) {d : Nat} (hd : 3 ≤ d + 1) (σ : Mm) (u0 : Value) (u1 : Value) (u2 : Value) : Rf X S (emI σ) (f_Mo_is_18 σ) (d + 1) 275 18 [u0, u1, u2] [] σ := by
  unfold f_Mo_is_18
  refine rf_ldc (Or.inl ⟨rfl, rfl⟩) c_275_18 rfl kl_12_91 ?_
  exact rf_ret c_275_20 rfl rfl rfl rfl
def f_Mo_is_116 (σ : Mm) (y0 : Int32) : Option Int32 := some y0
set_option maxRecDepth 100000 in
set_option maxHeartbeats 4000000 in
theorem t_Mo_is_116 {X : Xt} {S : Sh} (hS : ShOK S) {d : Nat} (hd : 3 ≤ d + 1) (σ : Mm) (y0 : Int32) (u0 : Value) (u1 : Value) (u2 : Value) : Rf X S (emI σ) (f_Mo_is_116 σ y0) (d + 1) 275 116 [u0, u1, u2] [.int y0] σ := by
  unfold f_Mo_is_116
  exact rf_ret c_275_116 rfl rfl rfl rfl
def f_Mo_is (σ : Mm) (x0 : Nat) (x1 : Int32) (x2 : Int32) : Option Int32 := (f_Mo_isDecision σ x0 x1).bind fun v2 => (if v2 = 0 then (f_Mo_is_18 σ ) else ((f_Mo_in σ x2 (0 : Int32) (8 : Int32)).bind fun v12 => (if ¬ v12 = 0 then (if x2 = (0 : Int32) then ((f_Mo_decisionOf σ x0 x1 (0 : Int32)).bind fun v75 => some v75) else (if x2 = (1 : Int32) then ((f_Mo_thingOf σ x0 x1).bind fun v81 => some v81) else (if x2 = (2 : Int32) then ((f_Mo_decisionOf σ x0 x1 (x2 - (1 : Int32))).bind fun v122 => some v122) else (if x2 = (3 : Int32) then ((f_Mo_decisionOf σ x0 x1 (x2 - (1 : Int32))).bind fun v122 => some v122) else (if x2 = (4 : Int32) then ((f_Mo_decisionOf σ x0 x1 (x2 - (1 : Int32))).bind fun v122 => some v122) else (if x2 = (5 : Int32) then ((f_Mo_decisionOf σ x0 x1 (x2 - (1 : Int32))).bind fun v122 => some v122) else (if x2 = (6 : Int32) then ((f_Mo_decisionOf σ x0 x1 (5 : Int32)).bind fun v88 => (f_Mo_orNone σ v88).bind fun v91 => some v91) else (if x2 = (7 : Int32) then ((f_Mo_decisionOf σ x0 x1 (6 : Int32)).bind fun v99 => some v99) else (if x2 = (8 : Int32) then ((f_Mo_stands σ x0 x1).bind fun v105 => (if v105 = 0 then (f_Mo_is_116 σ (0 : Int32)) else (f_Mo_is_116 σ (1 : Int32)))) else ((f_Mo_decisionOf σ x0 x1 (x2 - (1 : Int32))).bind fun v122 => some v122)))))))))) else (f_Mo_is_18 σ ))))
set_option maxRecDepth 100000 in
set_option maxHeartbeats 4000000 in
theorem t_Mo_is_e {X : Xt} {S : Sh} (hS : ShOK S) {d : Nat} (hd : 3 ≤ d + 1) (σ : Mm) (x0 : Nat) (x1 : Int32) (x2 : Int32) (h_x0 : tgT x0 = 12) : Rf X S (emI σ) (f_Mo_is σ x0 x1 x2) (d + 1) 275 0 [.ref x0, .int x1, .int x2] [] σ := by
  unfold f_Mo_is
  refine rf_ald (i := 0) (Or.inr ⟨0, rfl, rfl, rfl⟩) c_275_0 rfl ?_
  refine rf_ild (i := 1) (Or.inr ⟨1, rfl, rfl, rfl⟩) c_275_1 rfl ?_
  refine rf_callI (as := [.ref x0, .int x1]) (kd := 1) c_275_2 rfl (by decide) rfl ml_12_331 (by decide) rfl (rcv_1 hS rfl rfl h_x0 (by decide)) (Nat.zero_le _) rfl rfl (t_Mo_isDecision hS (by omega) σ x0 x1 h_x0) (fun v2 => ?_)
  refine rf_ite (fun hc5 => ?_) (fun hc5 => ?_)
  · refine rf_b1t c_275_5 rfl (decide_eq_true hc5) ?_
    exact t_Mo_is_18 hS hd σ  (.ref x0) (.int x1) (.int x2)
  · refine rf_b1f c_275_5 rfl (decide_eq_false hc5) ?_
    refine rf_ild (i := 2) (Or.inr ⟨2, rfl, rfl, rfl⟩) c_275_8 rfl ?_
    refine rf_iconst c_275_9 ki_0 ?_
    refine rf_bipush c_275_10 kb_8 ?_
    refine rf_callI (as := [.int x2, .int (0 : Int32), .int (8 : Int32)]) (kd := 0) c_275_12 rfl (by decide) rfl ml_12_82 (by decide) rfl (rcv_0 rfl) (Nat.zero_le _) rfl rfl (t_Mo_in hS (by omega) σ x2 (0 : Int32) (8 : Int32)) (fun v12 => ?_)
    refine rf_ite (fun hc15 => ?_) (fun hc15 => ?_)
    · refine rf_b1t c_275_15 rfl (decide_eq_true hc15) ?_
      refine rf_ild (i := 2) (Or.inr ⟨2, rfl, rfl, rfl⟩) c_275_21 rfl ?_
      refine rf_ite (fun hs22_0 => ?_) (fun hs22_0 => ?_)
      · refine rf_tsw (o := 50) c_275_22 (by rw [hs22_0]; decide) rfl ?_
        refine rf_ald (i := 0) (Or.inr ⟨0, rfl, rfl, rfl⟩) c_275_72 rfl ?_
        refine rf_ild (i := 1) (Or.inr ⟨1, rfl, rfl, rfl⟩) c_275_73 rfl ?_
        refine rf_iconst c_275_74 ki_0 ?_
        refine rf_callI (as := [.ref x0, .int x1, .int (0 : Int32)]) (kd := 1) c_275_75 rfl (by decide) rfl ml_12_316 (by decide) rfl (rcv_1 hS rfl rfl h_x0 (by decide)) (Nat.zero_le _) rfl rfl (t_Mo_decisionOf hS (by omega) σ x0 x1 (0 : Int32) h_x0) (fun v75 => ?_)
        exact rf_ret c_275_78 rfl rfl rfl rfl
      · refine rf_ite (fun hs22_1 => ?_) (fun hs22_1 => ?_)
        · refine rf_tsw (o := 57) c_275_22 (by rw [hs22_1]; decide) rfl ?_
          refine rf_ald (i := 0) (Or.inr ⟨0, rfl, rfl, rfl⟩) c_275_79 rfl ?_
          refine rf_ild (i := 1) (Or.inr ⟨1, rfl, rfl, rfl⟩) c_275_80 rfl ?_
          refine rf_callI (as := [.ref x0, .int x1]) (kd := 1) c_275_81 rfl (by decide) rfl ml_12_334 (by decide) rfl (rcv_1 hS rfl rfl h_x0 (by decide)) (Nat.zero_le _) rfl rfl (t_Mo_thingOf hS (by omega) σ x0 x1 h_x0) (fun v81 => ?_)
          exact rf_ret c_275_84 rfl rfl rfl rfl
        · refine rf_ite (fun hs22_2 => ?_) (fun hs22_2 => ?_)
          · refine rf_tsw (o := 95) c_275_22 (by rw [hs22_2]; decide) rfl ?_
            refine rf_ald (i := 0) (Or.inr ⟨0, rfl, rfl, rfl⟩) c_275_117 rfl ?_
            refine rf_ild (i := 1) (Or.inr ⟨1, rfl, rfl, rfl⟩) c_275_118 rfl ?_
            refine rf_ild (i := 2) (Or.inr ⟨2, rfl, rfl, rfl⟩) c_275_119 rfl ?_
            refine rf_iconst c_275_120 ki_1 ?_
            refine rf_isub c_275_121 ?_
            refine rf_callI (as := [.ref x0, .int x1, .int (x2 - (1 : Int32))]) (kd := 1) c_275_122 rfl (by decide) rfl ml_12_316 (by decide) rfl (rcv_1 hS rfl rfl h_x0 (by decide)) (Nat.zero_le _) rfl rfl (t_Mo_decisionOf hS (by omega) σ x0 x1 (x2 - (1 : Int32)) h_x0) (fun v122 => ?_)
            exact rf_ret c_275_125 rfl rfl rfl rfl
          · refine rf_ite (fun hs22_3 => ?_) (fun hs22_3 => ?_)
            · refine rf_tsw (o := 95) c_275_22 (by rw [hs22_3]; decide) rfl ?_
              refine rf_ald (i := 0) (Or.inr ⟨0, rfl, rfl, rfl⟩) c_275_117 rfl ?_
              refine rf_ild (i := 1) (Or.inr ⟨1, rfl, rfl, rfl⟩) c_275_118 rfl ?_
              refine rf_ild (i := 2) (Or.inr ⟨2, rfl, rfl, rfl⟩) c_275_119 rfl ?_
              refine rf_iconst c_275_120 ki_1 ?_
              refine rf_isub c_275_121 ?_
              refine rf_callI (as := [.ref x0, .int x1, .int (x2 - (1 : Int32))]) (kd := 1) c_275_122 rfl (by decide) rfl ml_12_316 (by decide) rfl (rcv_1 hS rfl rfl h_x0 (by decide)) (Nat.zero_le _) rfl rfl (t_Mo_decisionOf hS (by omega) σ x0 x1 (x2 - (1 : Int32)) h_x0) (fun v122 => ?_)
              exact rf_ret c_275_125 rfl rfl rfl rfl
            · refine rf_ite (fun hs22_4 => ?_) (fun hs22_4 => ?_)
              · refine rf_tsw (o := 95) c_275_22 (by rw [hs22_4]; decide) rfl ?_
                refine rf_ald (i := 0) (Or.inr ⟨0, rfl, rfl, rfl⟩) c_275_117 rfl ?_
                refine rf_ild (i := 1) (Or.inr ⟨1, rfl, rfl, rfl⟩) c_275_118 rfl ?_
                refine rf_ild (i := 2) (Or.inr ⟨2, rfl, rfl, rfl⟩) c_275_119 rfl ?_
                refine rf_iconst c_275_120 ki_1 ?_
                refine rf_isub c_275_121 ?_
                refine rf_callI (as := [.ref x0, .int x1, .int (x2 - (1 : Int32))]) (kd := 1) c_275_122 rfl (by decide) rfl ml_12_316 (by decide) rfl (rcv_1 hS rfl rfl h_x0 (by decide)) (Nat.zero_le _) rfl rfl (t_Mo_decisionOf hS (by omega) σ x0 x1 (x2 - (1 : Int32)) h_x0) (fun v122 => ?_)
                exact rf_ret c_275_125 rfl rfl rfl rfl
              · refine rf_ite (fun hs22_5 => ?_) (fun hs22_5 => ?_)
                · refine rf_tsw (o := 95) c_275_22 (by rw [hs22_5]; decide) rfl ?_
                  refine rf_ald (i := 0) (Or.inr ⟨0, rfl, rfl, rfl⟩) c_275_117 rfl ?_
                  refine rf_ild (i := 1) (Or.inr ⟨1, rfl, rfl, rfl⟩) c_275_118 rfl ?_
                  refine rf_ild (i := 2) (Or.inr ⟨2, rfl, rfl, rfl⟩) c_275_119 rfl ?_
                  refine rf_iconst c_275_120 ki_1 ?_
                  refine rf_isub c_275_121 ?_
                  refine rf_callI (as := [.ref x0, .int x1, .int (x2 - (1 : Int32))]) (kd := 1) c_275_122 rfl (by decide) rfl ml_12_316 (by decide) rfl (rcv_1 hS rfl rfl h_x0 (by decide)) (Nat.zero_le _) rfl rfl (t_Mo_decisionOf hS (by omega) σ x0 x1 (x2 - (1 : Int32)) h_x0) (fun v122 => ?_)
                  exact rf_ret c_275_125 rfl rfl rfl rfl
                · refine rf_ite (fun hs22_6 => ?_) (fun hs22_6 => ?_)
                  · refine rf_tsw (o := 63) c_275_22 (by rw [hs22_6]; decide) rfl ?_
                    refine rf_ald (i := 0) (Or.inr ⟨0, rfl, rfl, rfl⟩) c_275_85 rfl ?_
                    refine rf_ild (i := 1) (Or.inr ⟨1, rfl, rfl, rfl⟩) c_275_86 rfl ?_
                    refine rf_iconst c_275_87 ki_5 ?_
                    refine rf_callI (as := [.ref x0, .int x1, .int (5 : Int32)]) (kd := 1) c_275_88 rfl (by decide) rfl ml_12_316 (by decide) rfl (rcv_1 hS rfl rfl h_x0 (by decide)) (Nat.zero_le _) rfl rfl (t_Mo_decisionOf hS (by omega) σ x0 x1 (5 : Int32) h_x0) (fun v88 => ?_)
                    refine rf_callI (as := [.int v88]) (kd := 0) c_275_91 rfl (by decide) rfl ml_12_96 (by decide) rfl (rcv_0 rfl) (Nat.zero_le _) rfl rfl (t_Mo_orNone hS (by omega) σ v88) (fun v91 => ?_)
                    exact rf_ret c_275_94 rfl rfl rfl rfl
                  · refine rf_ite (fun hs22_7 => ?_) (fun hs22_7 => ?_)
                    · refine rf_tsw (o := 73) c_275_22 (by rw [hs22_7]; decide) rfl ?_
                      refine rf_ald (i := 0) (Or.inr ⟨0, rfl, rfl, rfl⟩) c_275_95 rfl ?_
                      refine rf_ild (i := 1) (Or.inr ⟨1, rfl, rfl, rfl⟩) c_275_96 rfl ?_
                      refine rf_bipush c_275_97 kb_6 ?_
                      refine rf_callI (as := [.ref x0, .int x1, .int (6 : Int32)]) (kd := 1) c_275_99 rfl (by decide) rfl ml_12_316 (by decide) rfl (rcv_1 hS rfl rfl h_x0 (by decide)) (Nat.zero_le _) rfl rfl (t_Mo_decisionOf hS (by omega) σ x0 x1 (6 : Int32) h_x0) (fun v99 => ?_)
                      exact rf_ret c_275_102 rfl rfl rfl rfl
                    · refine rf_ite (fun hs22_8 => ?_) (fun hs22_8 => ?_)
                      · refine rf_tsw (o := 81) c_275_22 (by rw [hs22_8]; decide) rfl ?_
                        refine rf_ald (i := 0) (Or.inr ⟨0, rfl, rfl, rfl⟩) c_275_103 rfl ?_
                        refine rf_ild (i := 1) (Or.inr ⟨1, rfl, rfl, rfl⟩) c_275_104 rfl ?_
                        refine rf_callI (as := [.ref x0, .int x1]) (kd := 1) c_275_105 rfl (by decide) rfl ml_12_337 (by decide) rfl (rcv_1 hS rfl rfl h_x0 (by decide)) (Nat.zero_le _) rfl rfl (t_Mo_stands hS (by omega) σ x0 x1 h_x0) (fun v105 => ?_)
                        refine rf_ite (fun hc108 => ?_) (fun hc108 => ?_)
                        · refine rf_b1t c_275_108 rfl (decide_eq_true hc108) ?_
                          refine rf_iconst c_275_115 ki_0 ?_
                          exact t_Mo_is_116 hS hd σ  (0 : Int32) (.ref x0) (.int x1) (.int x2)
                        · refine rf_b1f c_275_108 rfl (decide_eq_false hc108) ?_
                          refine rf_iconst c_275_111 ki_1 ?_
                          refine rf_goto c_275_112 rfl ?_
                          exact t_Mo_is_116 hS hd σ  (1 : Int32) (.ref x0) (.int x1) (.int x2)
                      · refine rf_tsw c_275_22 (if_pos (by have e0 := lv_neT hs22_0 (a := 0) (by decide); have e1 := lv_neT hs22_1 (a := 1) (by decide); have e2 := lv_neT hs22_2 (a := 2) (by decide); have e3 := lv_neT hs22_3 (a := 3) (by decide); have e4 := lv_neT hs22_4 (a := 4) (by decide); have e5 := lv_neT hs22_5 (a := 5) (by decide); have e6 := lv_neT hs22_6 (a := 6) (by decide); have e7 := lv_neT hs22_7 (a := 7) (by decide); have e8 := lv_neT hs22_8 (a := 8) (by decide); omega)) rfl ?_
                        refine rf_ald (i := 0) (Or.inr ⟨0, rfl, rfl, rfl⟩) c_275_117 rfl ?_
                        refine rf_ild (i := 1) (Or.inr ⟨1, rfl, rfl, rfl⟩) c_275_118 rfl ?_
                        refine rf_ild (i := 2) (Or.inr ⟨2, rfl, rfl, rfl⟩) c_275_119 rfl ?_
                        refine rf_iconst c_275_120 ki_1 ?_
                        refine rf_isub c_275_121 ?_
                        refine rf_callI (as := [.ref x0, .int x1, .int (x2 - (1 : Int32))]) (kd := 1) c_275_122 rfl (by decide) rfl ml_12_316 (by decide) rfl (rcv_1 hS rfl rfl h_x0 (by decide)) (Nat.zero_le _) rfl rfl (t_Mo_decisionOf hS (by omega) σ x0 x1 (x2 - (1 : Int32)) h_x0) (fun v122 => ?_)
                        exact rf_ret c_275_125 rfl rfl rfl rfl
    · refine rf_b1f c_275_15 rfl (decide_eq_false hc15) ?_
      exact t_Mo_is_18 hS hd σ  (.ref x0) (.int x1) (.int x2)
theorem t_Mo_is {X : Xt} {S : Sh} (hS : ShOK S) {d : Nat} (hd : 3 ≤ d) (σ : Mm) (x0 : Nat) (x1 : Int32) (x2 : Int32) (h_x0 : tgT x0 = 12) : Rf X S (emI σ) (f_Mo_is σ x0 x1 x2) d 275 0 [.ref x0, .int x1, .int x2] [] σ := by
  obtain ⟨d1, rfl⟩ : ∃ d1, d = d1 + 1 := ⟨d - 1, by omega⟩
  exact t_Mo_is_e hS hd σ x0 x1 x2 h_x0
theorem c_276_0 : cd 276 0 = some (.aload_n 0, 1) := by decide +kernel
theorem c_276_1 : cd 276 1 = some (.aload_n 0, 1) := by decide +kernel
theorem c_276_2 : cd 276 2 = some (.getfield 9, 3) := by decide +kernel
theorem c_276_5 : cd 276 5 = some (.iconst (0), 1) := by decide +kernel
theorem c_276_6 : cd 276 6 = some (.iaload, 1) := by decide +kernel
theorem c_276_7 : cd 276 7 = some (.invokevirtual 328, 3) := by decide +kernel
theorem c_276_10 : cd 276 10 = some (.istore_n 2, 1) := by decide +kernel
theorem c_276_11 : cd 276 11 = some (.aload_n 0, 1) := by decide +kernel
theorem c_276_12 : cd 276 12 = some (.iload_n 1, 1) := by decide +kernel
theorem c_276_13 : cd 276 13 = some (.iconst (5), 1) := by decide +kernel
theorem c_276_14 : cd 276 14 = some (.invokevirtual 316, 3) := by decide +kernel
theorem c_276_17 : cd 276 17 = some (.istore_n 3, 1) := by decide +kernel
theorem c_276_18 : cd 276 18 = some (.aload_n 0, 1) := by decide +kernel
theorem c_276_19 : cd 276 19 = some (.getfield 9, 3) := by decide +kernel
theorem c_276_22 : cd 276 22 = some (.sipush (5242), 3) := by decide +kernel
theorem c_276_25 : cd 276 25 = some (.bipush (7), 2) := by decide +kernel
theorem c_276_27 : cd 276 27 = some (.iload_n 1, 1) := by decide +kernel
theorem c_276_28 : cd 276 28 = some (.imul, 1) := by decide +kernel
theorem c_276_29 : cd 276 29 = some (.iadd, 1) := by decide +kernel
theorem c_276_30 : cd 276 30 = some (.iconst (5), 1) := by decide +kernel
theorem c_276_31 : cd 276 31 = some (.iadd, 1) := by decide +kernel
theorem c_276_32 : cd 276 32 = some (.aload_n 0, 1) := by decide +kernel
theorem c_276_33 : cd 276 33 = some (.getfield 9, 3) := by decide +kernel
theorem c_276_36 : cd 276 36 = some (.iconst (0), 1) := by decide +kernel
theorem c_276_37 : cd 276 37 = some (.iaload, 1) := by decide +kernel
theorem c_276_38 : cd 276 38 = some (.iastore, 1) := by decide +kernel
theorem c_276_39 : cd 276 39 = some (.aload_n 0, 1) := by decide +kernel
theorem c_276_40 : cd 276 40 = some (.aload_n 0, 1) := by decide +kernel
theorem c_276_41 : cd 276 41 = some (.getfield 9, 3) := by decide +kernel
theorem c_276_44 : cd 276 44 = some (.iconst (0), 1) := by decide +kernel
theorem c_276_45 : cd 276 45 = some (.iaload, 1) := by decide +kernel
theorem c_276_46 : cd 276 46 = some (.invokevirtual 328, 3) := by decide +kernel
theorem c_276_49 : cd 276 49 = some (.istore 4, 2) := by decide +kernel
theorem c_276_51 : cd 276 51 = some (.aload_n 0, 1) := by decide +kernel
theorem c_276_52 : cd 276 52 = some (.getfield 9, 3) := by decide +kernel
theorem c_276_55 : cd 276 55 = some (.sipush (5242), 3) := by decide +kernel
theorem c_276_58 : cd 276 58 = some (.bipush (7), 2) := by decide +kernel
theorem c_276_60 : cd 276 60 = some (.iload_n 1, 1) := by decide +kernel
theorem c_276_61 : cd 276 61 = some (.imul, 1) := by decide +kernel
theorem c_276_62 : cd 276 62 = some (.iadd, 1) := by decide +kernel
theorem c_276_63 : cd 276 63 = some (.iconst (5), 1) := by decide +kernel
theorem c_276_64 : cd 276 64 = some (.iadd, 1) := by decide +kernel
theorem c_276_65 : cd 276 65 = some (.iload_n 3, 1) := by decide +kernel
theorem c_276_66 : cd 276 66 = some (.iastore, 1) := by decide +kernel
theorem c_276_67 : cd 276 67 = some (.iload_n 2, 1) := by decide +kernel
theorem c_276_68 : cd 276 68 = some (.iload 4, 2) := by decide +kernel
theorem c_276_70 : cd 276 70 = some (.iconst (-1), 1) := by decide +kernel
theorem c_276_71 : cd 276 71 = some (.ixor, 1) := by decide +kernel
theorem c_276_72 : cd 276 72 = some (.iand, 1) := by decide +kernel
theorem c_276_73 : cd 276 73 = some (.ireturn, 1) := by decide +kernel
def f_Mo_fallsWith (x0 : Nat) (x1 : Int32) (σ : Mm) : Option (Int32 × Mm) := (f_Mo_standing σ x0 (σ (rfT x0 0) (ix (0 : Int32)))).bind fun v7 => (f_Mo_decisionOf σ x0 x1 (5 : Int32)).bind fun v14 => if inbB (((5242 : Int32) + ((7 : Int32) * x1)) + (5 : Int32)) 5528 = true then nmM (up2 σ (rfT x0 0) (ix (((5242 : Int32) + ((7 : Int32) * x1)) + (5 : Int32))) (σ (rfT x0 0) (ix (0 : Int32)))) fun σ38 => (f_Mo_standing σ38 x0 (σ38 (rfT x0 0) (ix (0 : Int32)))).bind fun v46 => if inbB (((5242 : Int32) + ((7 : Int32) * x1)) + (5 : Int32)) 5528 = true then nmM (up2 σ38 (rfT x0 0) (ix (((5242 : Int32) + ((7 : Int32) * x1)) + (5 : Int32))) v14) fun σ66 => some ((v7 &&& (v46 ^^^ (-1 : Int32))), σ66) else none else none
set_option maxRecDepth 100000 in
set_option maxHeartbeats 4000000 in
theorem t_Mo_fallsWith_e {X : Xt} {S : Sh} (hS : ShOK S) {d : Nat} (hd : 2 ≤ d + 1) (x0 : Nat) (x1 : Int32) (σ : Mm) (h_x0 : tgT x0 = 12) : Rf X S emM (f_Mo_fallsWith x0 x1 σ) (d + 1) 276 0 [.ref x0, .int x1, unset0, unset0, unset0] [] σ := by
  unfold f_Mo_fallsWith
  refine rf_ald (i := 0) (Or.inr ⟨0, rfl, rfl, rfl⟩) c_276_0 rfl ?_
  refine rf_ald (i := 0) (Or.inr ⟨0, rfl, rfl, rfl⟩) c_276_1 rfl ?_
  refine rf_getr hS c_276_2 rfl fl_12_9 rfl h_x0 ?_
  refine rf_iconst c_276_5 ki_0 ?_
  refine rf_iald hS c_276_6 (tf_12_0 h_x0) (lf_12_0 h_x0) (by decide) ?_
  refine rf_callI (as := [.ref x0, .int (σ (rfT x0 0) (ix (0 : Int32)))]) (kd := 1) c_276_7 rfl (by decide) rfl ml_12_328 (by decide) rfl (rcv_1 hS rfl rfl h_x0 (by decide)) (Nat.zero_le _) rfl rfl (t_Mo_standing hS (by omega) σ x0 (σ (rfT x0 0) (ix (0 : Int32))) h_x0) (fun v7 => ?_)
  refine rf_ist (i := 2) (Or.inr ⟨2, rfl, rfl, rfl⟩) c_276_10 (Nat.le_of_ble_eq_true rfl) rfl ?_
  refine rf_ald (i := 0) (Or.inr ⟨0, rfl, rfl, rfl⟩) c_276_11 rfl ?_
  refine rf_ild (i := 1) (Or.inr ⟨1, rfl, rfl, rfl⟩) c_276_12 rfl ?_
  refine rf_iconst c_276_13 ki_5 ?_
  refine rf_callI (as := [.ref x0, .int x1, .int (5 : Int32)]) (kd := 1) c_276_14 rfl (by decide) rfl ml_12_316 (by decide) rfl (rcv_1 hS rfl rfl h_x0 (by decide)) (Nat.zero_le _) rfl rfl (t_Mo_decisionOf hS (by omega) σ x0 x1 (5 : Int32) h_x0) (fun v14 => ?_)
  refine rf_ist (i := 3) (Or.inr ⟨3, rfl, rfl, rfl⟩) c_276_17 (Nat.le_of_ble_eq_true rfl) rfl ?_
  refine rf_ald (i := 0) (Or.inr ⟨0, rfl, rfl, rfl⟩) c_276_18 rfl ?_
  refine rf_getr hS c_276_19 rfl fl_12_9 rfl h_x0 ?_
  refine rf_sipush c_276_22 ks_5242 ?_
  refine rf_bipush c_276_25 kb_7 ?_
  refine rf_ild (i := 1) (Or.inr ⟨1, rfl, rfl, rfl⟩) c_276_27 rfl ?_
  refine rf_imul c_276_28 ?_
  refine rf_iadd c_276_29 ?_
  refine rf_iconst c_276_30 ki_5 ?_
  refine rf_iadd c_276_31 ?_
  refine rf_ald (i := 0) (Or.inr ⟨0, rfl, rfl, rfl⟩) c_276_32 rfl ?_
  refine rf_getr hS c_276_33 rfl fl_12_9 rfl h_x0 ?_
  refine rf_iconst c_276_36 ki_0 ?_
  refine rf_iald hS c_276_37 (tf_12_0 h_x0) (lf_12_0 h_x0) (by decide) ?_
  refine rf_ite (fun hb38 => ?_) (fun _ => rf_none)
  refine rf_iast hS c_276_38 (tf_12_0 h_x0) (lf_12_0 h_x0) hb38 ?_
  refine rf_nm (fun σ38 => ?_)
  refine rf_ald (i := 0) (Or.inr ⟨0, rfl, rfl, rfl⟩) c_276_39 rfl ?_
  refine rf_ald (i := 0) (Or.inr ⟨0, rfl, rfl, rfl⟩) c_276_40 rfl ?_
  refine rf_getr hS c_276_41 rfl fl_12_9 rfl h_x0 ?_
  refine rf_iconst c_276_44 ki_0 ?_
  refine rf_iald hS c_276_45 (tf_12_0 h_x0) (lf_12_0 h_x0) (by decide) ?_
  refine rf_callI (as := [.ref x0, .int (σ38 (rfT x0 0) (ix (0 : Int32)))]) (kd := 1) c_276_46 rfl (by decide) rfl ml_12_328 (by decide) rfl (rcv_1 hS rfl rfl h_x0 (by decide)) (Nat.zero_le _) rfl rfl (t_Mo_standing hS (by omega) σ38 x0 (σ38 (rfT x0 0) (ix (0 : Int32))) h_x0) (fun v46 => ?_)
  refine rf_ist (i := 4) (Or.inl ⟨rfl, rfl⟩) c_276_49 (Nat.le_of_ble_eq_true rfl) rfl ?_
  refine rf_ald (i := 0) (Or.inr ⟨0, rfl, rfl, rfl⟩) c_276_51 rfl ?_
  refine rf_getr hS c_276_52 rfl fl_12_9 rfl h_x0 ?_
  refine rf_sipush c_276_55 ks_5242 ?_
  refine rf_bipush c_276_58 kb_7 ?_
  refine rf_ild (i := 1) (Or.inr ⟨1, rfl, rfl, rfl⟩) c_276_60 rfl ?_
  refine rf_imul c_276_61 ?_
  refine rf_iadd c_276_62 ?_
  refine rf_iconst c_276_63 ki_5 ?_
  refine rf_iadd c_276_64 ?_
  refine rf_ild (i := 3) (Or.inr ⟨3, rfl, rfl, rfl⟩) c_276_65 rfl ?_
  refine rf_ite (fun hb66 => ?_) (fun _ => rf_none)
  refine rf_iast hS c_276_66 (tf_12_0 h_x0) (lf_12_0 h_x0) hb66 ?_
  refine rf_nm (fun σ66 => ?_)
  refine rf_ild (i := 2) (Or.inr ⟨2, rfl, rfl, rfl⟩) c_276_67 rfl ?_
  refine rf_ild (i := 4) (Or.inl ⟨rfl, rfl⟩) c_276_68 rfl ?_
  refine rf_iconst c_276_70 ki_m1 ?_
  refine rf_ixor c_276_71 ?_
  refine rf_iand c_276_72 ?_
  exact rf_ret c_276_73 rfl rfl rfl rfl
theorem t_Mo_fallsWith {X : Xt} {S : Sh} (hS : ShOK S) {d : Nat} (hd : 2 ≤ d) (x0 : Nat) (x1 : Int32) (σ : Mm) (h_x0 : tgT x0 = 12) : Rf X S emM (f_Mo_fallsWith x0 x1 σ) d 276 0 [.ref x0, .int x1, unset0, unset0, unset0] [] σ := by
  obtain ⟨d1, rfl⟩ : ∃ d1, d = d1 + 1 := ⟨d - 1, by omega⟩
  exact t_Mo_fallsWith_e hS hd x0 x1 σ h_x0
theorem c_277_0 : cd 277 0 = some (.aload_n 0, 1) := by decide +kernel
theorem c_277_1 : cd 277 1 = some (.iload_n 1, 1) := by decide +kernel
theorem c_277_2 : cd 277 2 = some (.invokevirtual 331, 3) := by decide +kernel
theorem c_277_5 : cd 277 5 = some (.ifCond .ne (6), 3) := by decide +kernel
theorem c_277_8 : cd 277 8 = some (.ldc 91, 2) := by decide +kernel
theorem c_277_10 : cd 277 10 = some (.ireturn, 1) := by decide +kernel
theorem c_277_11 : cd 277 11 = some (.aload_n 0, 1) := by decide +kernel
theorem c_277_12 : cd 277 12 = some (.iload_n 1, 1) := by decide +kernel
theorem c_277_13 : cd 277 13 = some (.invokevirtual 337, 3) := by decide +kernel
theorem c_277_16 : cd 277 16 = some (.ifCond .eq (11), 3) := by decide +kernel
theorem c_277_19 : cd 277 19 = some (.aload_n 0, 1) := by decide +kernel
theorem c_277_20 : cd 277 20 = some (.iload_n 1, 1) := by decide +kernel
theorem c_277_21 : cd 277 21 = some (.invokevirtual 340, 3) := by decide +kernel
theorem c_277_24 : cd 277 24 = some (.goto (5), 3) := by decide +kernel
theorem c_277_27 : cd 277 27 = some (.ldc 155, 2) := by decide +kernel
theorem c_277_29 : cd 277 29 = some (.ireturn, 1) := by decide +kernel
def f_Mo_falls_29 (y0 : Int32) (σ : Mm) : Option (Int32 × Mm) := some (y0, σ)
set_option maxRecDepth 100000 in
set_option maxHeartbeats 4000000 in
theorem t_Mo_falls_29 {X : Xt} {S : Sh} (hS : ShOK S) {d : Nat} (hd : 3 ≤ d + 1) (y0 : Int32) (u0 : Value) (u1 : Value) (σ : Mm) : Rf X S emM (f_Mo_falls_29 y0 σ) (d + 1) 277 29 [u0, u1] [.int y0] σ := by
  unfold f_Mo_falls_29
  exact rf_ret c_277_29 rfl rfl rfl rfl
def f_Mo_falls (x0 : Nat) (x1 : Int32) (σ : Mm) : Option (Int32 × Mm) := (f_Mo_isDecision σ x0 x1).bind fun v2 => (if ¬ v2 = 0 then ((f_Mo_stands σ x0 x1).bind fun v13 => (if v13 = 0 then (f_Mo_falls_29  (-1000000002 : Int32) σ) else ((f_Mo_fallsWith x0 x1 σ).bind fun v21 => f_Mo_falls_29  v21.1 v21.2))) else (some ((-1000000001 : Int32), σ)))
set_option maxRecDepth 100000 in
set_option maxHeartbeats 4000000 in
theorem t_Mo_falls_e {X : Xt} {S : Sh} (hS : ShOK S) {d : Nat} (hd : 3 ≤ d + 1) (x0 : Nat) (x1 : Int32) (σ : Mm) (h_x0 : tgT x0 = 12) : Rf X S emM (f_Mo_falls x0 x1 σ) (d + 1) 277 0 [.ref x0, .int x1] [] σ := by
  unfold f_Mo_falls
  refine rf_ald (i := 0) (Or.inr ⟨0, rfl, rfl, rfl⟩) c_277_0 rfl ?_
  refine rf_ild (i := 1) (Or.inr ⟨1, rfl, rfl, rfl⟩) c_277_1 rfl ?_
  refine rf_callI (as := [.ref x0, .int x1]) (kd := 1) c_277_2 rfl (by decide) rfl ml_12_331 (by decide) rfl (rcv_1 hS rfl rfl h_x0 (by decide)) (Nat.zero_le _) rfl rfl (t_Mo_isDecision hS (by omega) σ x0 x1 h_x0) (fun v2 => ?_)
  refine rf_ite (fun hc5 => ?_) (fun hc5 => ?_)
  · refine rf_b1t c_277_5 rfl (decide_eq_true hc5) ?_
    refine rf_ald (i := 0) (Or.inr ⟨0, rfl, rfl, rfl⟩) c_277_11 rfl ?_
    refine rf_ild (i := 1) (Or.inr ⟨1, rfl, rfl, rfl⟩) c_277_12 rfl ?_
    refine rf_callI (as := [.ref x0, .int x1]) (kd := 1) c_277_13 rfl (by decide) rfl ml_12_337 (by decide) rfl (rcv_1 hS rfl rfl h_x0 (by decide)) (Nat.zero_le _) rfl rfl (t_Mo_stands hS (by omega) σ x0 x1 h_x0) (fun v13 => ?_)
    refine rf_ite (fun hc16 => ?_) (fun hc16 => ?_)
    · refine rf_b1t c_277_16 rfl (decide_eq_true hc16) ?_
      refine rf_ldc (Or.inl ⟨rfl, rfl⟩) c_277_27 rfl kl_12_155 ?_
      exact t_Mo_falls_29 hS hd  (-1000000002 : Int32) (.ref x0) (.int x1) σ
    · refine rf_b1f c_277_16 rfl (decide_eq_false hc16) ?_
      refine rf_ald (i := 0) (Or.inr ⟨0, rfl, rfl, rfl⟩) c_277_19 rfl ?_
      refine rf_ild (i := 1) (Or.inr ⟨1, rfl, rfl, rfl⟩) c_277_20 rfl ?_
      refine rf_callM (as := [.ref x0, .int x1]) (kd := 1) c_277_21 rfl (by decide) rfl ml_12_340 (by decide) rfl (rcv_1 hS rfl rfl h_x0 (by decide)) (Nat.zero_le _) rfl rfl (t_Mo_fallsWith hS (by omega) x0 x1 σ h_x0) (fun v21 => ?_)
      refine rf_goto c_277_24 rfl ?_
      exact t_Mo_falls_29 hS hd  v21.1 (.ref x0) (.int x1) v21.2
  · refine rf_b1f c_277_5 rfl (decide_eq_false hc5) ?_
    refine rf_ldc (Or.inl ⟨rfl, rfl⟩) c_277_8 rfl kl_12_91 ?_
    exact rf_ret c_277_10 rfl rfl rfl rfl
theorem t_Mo_falls {X : Xt} {S : Sh} (hS : ShOK S) {d : Nat} (hd : 3 ≤ d) (x0 : Nat) (x1 : Int32) (σ : Mm) (h_x0 : tgT x0 = 12) : Rf X S emM (f_Mo_falls x0 x1 σ) d 277 0 [.ref x0, .int x1] [] σ := by
  obtain ⟨d1, rfl⟩ : ∃ d1, d = d1 + 1 := ⟨d - 1, by omega⟩
  exact t_Mo_falls_e hS hd x0 x1 σ h_x0
theorem c_278_0 : cd 278 0 = some (.aload_n 0, 1) := by decide +kernel
theorem c_278_1 : cd 278 1 = some (.iload_n 1, 1) := by decide +kernel
theorem c_278_2 : cd 278 2 = some (.invokevirtual 331, 3) := by decide +kernel
theorem c_278_5 : cd 278 5 = some (.ifCond .ne (6), 3) := by decide +kernel
theorem c_278_8 : cd 278 8 = some (.ldc 91, 2) := by decide +kernel
theorem c_278_10 : cd 278 10 = some (.ireturn, 1) := by decide +kernel
theorem c_278_11 : cd 278 11 = some (.aload_n 0, 1) := by decide +kernel
theorem c_278_12 : cd 278 12 = some (.iload_n 1, 1) := by decide +kernel
theorem c_278_13 : cd 278 13 = some (.invokevirtual 337, 3) := by decide +kernel
theorem c_278_16 : cd 278 16 = some (.ifCond .ne (6), 3) := by decide +kernel
theorem c_278_19 : cd 278 19 = some (.ldc 155, 2) := by decide +kernel
theorem c_278_21 : cd 278 21 = some (.ireturn, 1) := by decide +kernel
theorem c_278_22 : cd 278 22 = some (.aload_n 0, 1) := by decide +kernel
theorem c_278_23 : cd 278 23 = some (.iload_n 1, 1) := by decide +kernel
theorem c_278_24 : cd 278 24 = some (.invokevirtual 340, 3) := by decide +kernel
theorem c_278_27 : cd 278 27 = some (.istore_n 2, 1) := by decide +kernel
theorem c_278_28 : cd 278 28 = some (.aload_n 0, 1) := by decide +kernel
theorem c_278_29 : cd 278 29 = some (.getfield 9, 3) := by decide +kernel
theorem c_278_32 : cd 278 32 = some (.sipush (5242), 3) := by decide +kernel
theorem c_278_35 : cd 278 35 = some (.bipush (7), 2) := by decide +kernel
theorem c_278_37 : cd 278 37 = some (.iload_n 1, 1) := by decide +kernel
theorem c_278_38 : cd 278 38 = some (.imul, 1) := by decide +kernel
theorem c_278_39 : cd 278 39 = some (.iadd, 1) := by decide +kernel
theorem c_278_40 : cd 278 40 = some (.iconst (5), 1) := by decide +kernel
theorem c_278_41 : cd 278 41 = some (.iadd, 1) := by decide +kernel
theorem c_278_42 : cd 278 42 = some (.aload_n 0, 1) := by decide +kernel
theorem c_278_43 : cd 278 43 = some (.getfield 9, 3) := by decide +kernel
theorem c_278_46 : cd 278 46 = some (.iconst (0), 1) := by decide +kernel
theorem c_278_47 : cd 278 47 = some (.iaload, 1) := by decide +kernel
theorem c_278_48 : cd 278 48 = some (.iastore, 1) := by decide +kernel
theorem c_278_49 : cd 278 49 = some (.iload_n 2, 1) := by decide +kernel
theorem c_278_50 : cd 278 50 = some (.ireturn, 1) := by decide +kernel
def f_Mo_reopen (x0 : Nat) (x1 : Int32) (σ : Mm) : Option (Int32 × Mm) := (f_Mo_isDecision σ x0 x1).bind fun v2 => (if ¬ v2 = 0 then ((f_Mo_stands σ x0 x1).bind fun v13 => (if ¬ v13 = 0 then ((f_Mo_fallsWith x0 x1 σ).bind fun v24 => if inbB (((5242 : Int32) + ((7 : Int32) * x1)) + (5 : Int32)) 5528 = true then nmM (up2 v24.2 (rfT x0 0) (ix (((5242 : Int32) + ((7 : Int32) * x1)) + (5 : Int32))) (v24.2 (rfT x0 0) (ix (0 : Int32)))) fun σ48 => some (v24.1, σ48) else none) else (some ((-1000000002 : Int32), σ)))) else (some ((-1000000001 : Int32), σ)))
set_option maxRecDepth 100000 in
set_option maxHeartbeats 4000000 in
theorem t_Mo_reopen_e {X : Xt} {S : Sh} (hS : ShOK S) {d : Nat} (hd : 3 ≤ d + 1) (x0 : Nat) (x1 : Int32) (σ : Mm) (h_x0 : tgT x0 = 12) : Rf X S emM (f_Mo_reopen x0 x1 σ) (d + 1) 278 0 [.ref x0, .int x1, unset0] [] σ := by
  unfold f_Mo_reopen
  refine rf_ald (i := 0) (Or.inr ⟨0, rfl, rfl, rfl⟩) c_278_0 rfl ?_
  refine rf_ild (i := 1) (Or.inr ⟨1, rfl, rfl, rfl⟩) c_278_1 rfl ?_
  refine rf_callI (as := [.ref x0, .int x1]) (kd := 1) c_278_2 rfl (by decide) rfl ml_12_331 (by decide) rfl (rcv_1 hS rfl rfl h_x0 (by decide)) (Nat.zero_le _) rfl rfl (t_Mo_isDecision hS (by omega) σ x0 x1 h_x0) (fun v2 => ?_)
  refine rf_ite (fun hc5 => ?_) (fun hc5 => ?_)
  · refine rf_b1t c_278_5 rfl (decide_eq_true hc5) ?_
    refine rf_ald (i := 0) (Or.inr ⟨0, rfl, rfl, rfl⟩) c_278_11 rfl ?_
    refine rf_ild (i := 1) (Or.inr ⟨1, rfl, rfl, rfl⟩) c_278_12 rfl ?_
    refine rf_callI (as := [.ref x0, .int x1]) (kd := 1) c_278_13 rfl (by decide) rfl ml_12_337 (by decide) rfl (rcv_1 hS rfl rfl h_x0 (by decide)) (Nat.zero_le _) rfl rfl (t_Mo_stands hS (by omega) σ x0 x1 h_x0) (fun v13 => ?_)
    refine rf_ite (fun hc16 => ?_) (fun hc16 => ?_)
    · refine rf_b1t c_278_16 rfl (decide_eq_true hc16) ?_
      refine rf_ald (i := 0) (Or.inr ⟨0, rfl, rfl, rfl⟩) c_278_22 rfl ?_
      refine rf_ild (i := 1) (Or.inr ⟨1, rfl, rfl, rfl⟩) c_278_23 rfl ?_
      refine rf_callM (as := [.ref x0, .int x1]) (kd := 1) c_278_24 rfl (by decide) rfl ml_12_340 (by decide) rfl (rcv_1 hS rfl rfl h_x0 (by decide)) (Nat.zero_le _) rfl rfl (t_Mo_fallsWith hS (by omega) x0 x1 σ h_x0) (fun v24 => ?_)
      refine rf_ist (i := 2) (Or.inr ⟨2, rfl, rfl, rfl⟩) c_278_27 (Nat.le_of_ble_eq_true rfl) rfl ?_
      refine rf_ald (i := 0) (Or.inr ⟨0, rfl, rfl, rfl⟩) c_278_28 rfl ?_
      refine rf_getr hS c_278_29 rfl fl_12_9 rfl h_x0 ?_
      refine rf_sipush c_278_32 ks_5242 ?_
      refine rf_bipush c_278_35 kb_7 ?_
      refine rf_ild (i := 1) (Or.inr ⟨1, rfl, rfl, rfl⟩) c_278_37 rfl ?_
      refine rf_imul c_278_38 ?_
      refine rf_iadd c_278_39 ?_
      refine rf_iconst c_278_40 ki_5 ?_
      refine rf_iadd c_278_41 ?_
      refine rf_ald (i := 0) (Or.inr ⟨0, rfl, rfl, rfl⟩) c_278_42 rfl ?_
      refine rf_getr hS c_278_43 rfl fl_12_9 rfl h_x0 ?_
      refine rf_iconst c_278_46 ki_0 ?_
      refine rf_iald hS c_278_47 (tf_12_0 h_x0) (lf_12_0 h_x0) (by decide) ?_
      refine rf_ite (fun hb48 => ?_) (fun _ => rf_none)
      refine rf_iast hS c_278_48 (tf_12_0 h_x0) (lf_12_0 h_x0) hb48 ?_
      refine rf_nm (fun σ48 => ?_)
      refine rf_ild (i := 2) (Or.inr ⟨2, rfl, rfl, rfl⟩) c_278_49 rfl ?_
      exact rf_ret c_278_50 rfl rfl rfl rfl
    · refine rf_b1f c_278_16 rfl (decide_eq_false hc16) ?_
      refine rf_ldc (Or.inl ⟨rfl, rfl⟩) c_278_19 rfl kl_12_155 ?_
      exact rf_ret c_278_21 rfl rfl rfl rfl
  · refine rf_b1f c_278_5 rfl (decide_eq_false hc5) ?_
    refine rf_ldc (Or.inl ⟨rfl, rfl⟩) c_278_8 rfl kl_12_91 ?_
    exact rf_ret c_278_10 rfl rfl rfl rfl
theorem t_Mo_reopen {X : Xt} {S : Sh} (hS : ShOK S) {d : Nat} (hd : 3 ≤ d) (x0 : Nat) (x1 : Int32) (σ : Mm) (h_x0 : tgT x0 = 12) : Rf X S emM (f_Mo_reopen x0 x1 σ) d 278 0 [.ref x0, .int x1, unset0] [] σ := by
  obtain ⟨d1, rfl⟩ : ∃ d1, d = d1 + 1 := ⟨d - 1, by omega⟩
  exact t_Mo_reopen_e hS hd x0 x1 σ h_x0
theorem c_279_0 : cd 279 0 = some (.aload_n 0, 1) := by decide +kernel
theorem c_279_1 : cd 279 1 = some (.iload_n 2, 1) := by decide +kernel
theorem c_279_2 : cd 279 2 = some (.invokevirtual 328, 3) := by decide +kernel
theorem c_279_5 : cd 279 5 = some (.istore_n 3, 1) := by decide +kernel
theorem c_279_6 : cd 279 6 = some (.iconst (-1), 1) := by decide +kernel
theorem c_279_7 : cd 279 7 = some (.istore 4, 2) := by decide +kernel
theorem c_279_9 : cd 279 9 = some (.iconst (0), 1) := by decide +kernel
theorem c_279_10 : cd 279 10 = some (.istore 5, 2) := by decide +kernel
theorem c_279_12 : cd 279 12 = some (.iload 5, 2) := by decide +kernel
theorem c_279_14 : cd 279 14 = some (.aload_n 0, 1) := by decide +kernel
theorem c_279_15 : cd 279 15 = some (.getfield 9, 3) := by decide +kernel
theorem c_279_18 : cd 279 18 = some (.bipush (6), 2) := by decide +kernel
theorem c_279_20 : cd 279 20 = some (.iaload, 1) := by decide +kernel
theorem c_279_21 : cd 279 21 = some (.if_icmp .ge (38), 3) := by decide +kernel
theorem c_279_24 : cd 279 24 = some (.iload_n 3, 1) := by decide +kernel
theorem c_279_25 : cd 279 25 = some (.iload 5, 2) := by decide +kernel
theorem c_279_27 : cd 279 27 = some (.ishr, 1) := by decide +kernel
theorem c_279_28 : cd 279 28 = some (.iconst (1), 1) := by decide +kernel
theorem c_279_29 : cd 279 29 = some (.iand, 1) := by decide +kernel
theorem c_279_30 : cd 279 30 = some (.iconst (1), 1) := by decide +kernel
theorem c_279_31 : cd 279 31 = some (.if_icmp .ne (18), 3) := by decide +kernel
theorem c_279_34 : cd 279 34 = some (.aload_n 0, 1) := by decide +kernel
theorem c_279_35 : cd 279 35 = some (.iload 5, 2) := by decide +kernel
theorem c_279_37 : cd 279 37 = some (.invokevirtual 334, 3) := by decide +kernel
theorem c_279_40 : cd 279 40 = some (.iload_n 1, 1) := by decide +kernel
theorem c_279_41 : cd 279 41 = some (.if_icmp .ne (8), 3) := by decide +kernel
theorem c_279_44 : cd 279 44 = some (.iload 5, 2) := by decide +kernel
theorem c_279_46 : cd 279 46 = some (.goto (5), 3) := by decide +kernel
theorem c_279_49 : cd 279 49 = some (.iload 4, 2) := by decide +kernel
theorem c_279_51 : cd 279 51 = some (.istore 4, 2) := by decide +kernel
theorem c_279_53 : cd 279 53 = some (.iinc 5 (1), 3) := by decide +kernel
theorem c_279_56 : cd 279 56 = some (.goto (-44), 3) := by decide +kernel
theorem c_279_59 : cd 279 59 = some (.iload 4, 2) := by decide +kernel
theorem c_279_61 : cd 279 61 = some (.ireturn, 1) := by decide +kernel
def f_Mo_currentOf_51 (σ : Mm) (k12 : Nat → Int32 → Int32 → Int32 → Int32 → Option (Int32)) (x0 : Nat) (x1 : Int32) (x3 : Int32) (x5 : Int32) (y0 : Int32) : Option Int32 := k12 x0 x1 x3 y0 (x5 + (1 : Int32))
set_option maxRecDepth 100000 in
set_option maxHeartbeats 4000000 in
theorem t_Mo_currentOf_51 {X : Xt} {S : Sh} (hS : ShOK S) {d : Nat} (hd : 2 ≤ d + 1) (σ : Mm) {k12 : Nat → Int32 → Int32 → Int32 → Int32 → Option (Int32)} (hk12 : ∀ (x0 : Nat) (x1 : Int32) (x3 : Int32) (x4 : Int32) (x5 : Int32) (u2 : Value) (h_x0 : tgT x0 = 12), Rf X S (emI σ) (k12 x0 x1 x3 x4 x5) (d + 1) 279 12 [.ref x0, .int x1, u2, .int x3, .int x4, .int x5] [] σ) (x0 : Nat) (x1 : Int32) (x3 : Int32) (x5 : Int32) (y0 : Int32) (u2 : Value) (u4 : Value) (h_x0 : tgT x0 = 12) : Rf X S (emI σ) (f_Mo_currentOf_51 σ k12 x0 x1 x3 x5 y0) (d + 1) 279 51 [.ref x0, .int x1, u2, .int x3, u4, .int x5] [.int y0] σ := by
  unfold f_Mo_currentOf_51
  refine rf_ist (i := 4) (Or.inl ⟨rfl, rfl⟩) c_279_51 (Nat.le_of_ble_eq_true rfl) rfl ?_
  refine rf_iinc c_279_53 rfl ki_1 rfl ?_
  refine rf_goto c_279_56 rfl ?_
  exact hk12 x0 x1 x3 y0 (x5 + (1 : Int32)) (u2) h_x0
def f_Mo_currentOf_49 (σ : Mm) (k12 : Nat → Int32 → Int32 → Int32 → Int32 → Option (Int32)) (x0 : Nat) (x1 : Int32) (x3 : Int32) (x4 : Int32) (x5 : Int32) : Option Int32 := f_Mo_currentOf_51 σ k12 x0 x1 x3 x5 x4
set_option maxRecDepth 100000 in
set_option maxHeartbeats 4000000 in
theorem t_Mo_currentOf_49 {X : Xt} {S : Sh} (hS : ShOK S) {d : Nat} (hd : 2 ≤ d + 1) (σ : Mm) {k12 : Nat → Int32 → Int32 → Int32 → Int32 → Option (Int32)} (hk12 : ∀ (x0 : Nat) (x1 : Int32) (x3 : Int32) (x4 : Int32) (x5 : Int32) (u2 : Value) (h_x0 : tgT x0 = 12), Rf X S (emI σ) (k12 x0 x1 x3 x4 x5) (d + 1) 279 12 [.ref x0, .int x1, u2, .int x3, .int x4, .int x5] [] σ) (x0 : Nat) (x1 : Int32) (x3 : Int32) (x4 : Int32) (x5 : Int32) (u2 : Value) (h_x0 : tgT x0 = 12) : Rf X S (emI σ) (f_Mo_currentOf_49 σ k12 x0 x1 x3 x4 x5) (d + 1) 279 49 [.ref x0, .int x1, u2, .int x3, .int x4, .int x5] [] σ := by
  unfold f_Mo_currentOf_49
  refine rf_ild (i := 4) (Or.inl ⟨rfl, rfl⟩) c_279_49 rfl ?_
  exact t_Mo_currentOf_51 hS hd σ hk12 x0 x1 x3 x5 x4 (u2) (.int x4) h_x0
def f_Mo_currentOf_12 (σ : Mm) : Nat → Nat → Int32 → Int32 → Int32 → Int32 → Option Int32
  | 0, _, _, _, _, _ => none
  | n + 1, x0, x1, x3, x4, x5 => (if (σ (rfT x0 0) (ix (6 : Int32))) ≤ x5 then (some x4) else (if ¬ ((x3 >>> (x5 &&& 31)) &&& (1 : Int32)) = (1 : Int32) then (f_Mo_currentOf_49 σ (f_Mo_currentOf_12 σ n) x0 x1 x3 x4 x5) else ((f_Mo_thingOf σ x0 x5).bind fun v37 => (if ¬ v37 = x1 then (f_Mo_currentOf_49 σ (f_Mo_currentOf_12 σ n) x0 x1 x3 x4 x5) else (f_Mo_currentOf_51 σ (f_Mo_currentOf_12 σ n) x0 x1 x3 x5 x5)))))
set_option maxRecDepth 100000 in
set_option maxHeartbeats 4000000 in
theorem t_Mo_currentOf_12 {X : Xt} {S : Sh} (hS : ShOK S) {d : Nat} (hd : 2 ≤ d + 1) (σ : Mm) : ∀ (n : Nat) (x0 : Nat) (x1 : Int32) (x3 : Int32) (x4 : Int32) (x5 : Int32) (u2 : Value) (h_x0 : tgT x0 = 12), Rf X S (emI σ) (f_Mo_currentOf_12 σ n x0 x1 x3 x4 x5) (d + 1) 279 12 [.ref x0, .int x1, u2, .int x3, .int x4, .int x5] [] σ := by
  intro n
  induction n with
  | zero => intro x0 x1 x3 x4 x5 u2 h_x0; exact rf_none
  | succ n ih =>
    intro x0 x1 x3 x4 x5 u2 h_x0
    rw [f_Mo_currentOf_12]
    refine rf_ild (i := 5) (Or.inl ⟨rfl, rfl⟩) c_279_12 rfl ?_
    refine rf_ald (i := 0) (Or.inr ⟨0, rfl, rfl, rfl⟩) c_279_14 rfl ?_
    refine rf_getr hS c_279_15 rfl fl_12_9 rfl h_x0 ?_
    refine rf_bipush c_279_18 kb_6 ?_
    refine rf_iald hS c_279_20 (tf_12_0 h_x0) (lf_12_0 h_x0) (by decide) ?_
    refine rf_ite (fun hc21 => ?_) (fun hc21 => ?_)
    · refine rf_b2t c_279_21 rfl (decide_eq_true hc21) ?_
      refine rf_ild (i := 4) (Or.inl ⟨rfl, rfl⟩) c_279_59 rfl ?_
      exact rf_ret c_279_61 rfl rfl rfl rfl
    · refine rf_b2f c_279_21 rfl (decide_eq_false hc21) ?_
      refine rf_ild (i := 3) (Or.inr ⟨3, rfl, rfl, rfl⟩) c_279_24 rfl ?_
      refine rf_ild (i := 5) (Or.inl ⟨rfl, rfl⟩) c_279_25 rfl ?_
      refine rf_ishr c_279_27 ?_
      refine rf_iconst c_279_28 ki_1 ?_
      refine rf_iand c_279_29 ?_
      refine rf_iconst c_279_30 ki_1 ?_
      refine rf_ite (fun hc31 => ?_) (fun hc31 => ?_)
      · refine rf_b2t c_279_31 rfl (decide_eq_true hc31) ?_
        exact t_Mo_currentOf_49 hS hd σ ih x0 x1 x3 x4 x5 (u2) h_x0
      · refine rf_b2f c_279_31 rfl (decide_eq_false hc31) ?_
        refine rf_ald (i := 0) (Or.inr ⟨0, rfl, rfl, rfl⟩) c_279_34 rfl ?_
        refine rf_ild (i := 5) (Or.inl ⟨rfl, rfl⟩) c_279_35 rfl ?_
        refine rf_callI (as := [.ref x0, .int x5]) (kd := 1) c_279_37 rfl (by decide) rfl ml_12_334 (by decide) rfl (rcv_1 hS rfl rfl h_x0 (by decide)) (Nat.zero_le _) rfl rfl (t_Mo_thingOf hS (by omega) σ x0 x5 h_x0) (fun v37 => ?_)
        refine rf_ild (i := 1) (Or.inr ⟨1, rfl, rfl, rfl⟩) c_279_40 rfl ?_
        refine rf_ite (fun hc41 => ?_) (fun hc41 => ?_)
        · refine rf_b2t c_279_41 rfl (decide_eq_true hc41) ?_
          exact t_Mo_currentOf_49 hS hd σ ih x0 x1 x3 x4 x5 (u2) h_x0
        · refine rf_b2f c_279_41 rfl (decide_eq_false hc41) ?_
          refine rf_ild (i := 5) (Or.inl ⟨rfl, rfl⟩) c_279_44 rfl ?_
          refine rf_goto c_279_46 rfl ?_
          exact t_Mo_currentOf_51 hS hd σ ih x0 x1 x3 x5 x5 (u2) (.int x4) h_x0
def f_Mo_currentOf (σ : Mm) (x0 : Nat) (x1 : Int32) (x2 : Int32) : Option Int32 := (f_Mo_standing σ x0 x2).bind fun v2 => f_Mo_currentOf_12 σ NN x0 x1 v2 (-1 : Int32) (0 : Int32)
set_option maxRecDepth 100000 in
set_option maxHeartbeats 4000000 in
theorem t_Mo_currentOf_e {X : Xt} {S : Sh} (hS : ShOK S) {d : Nat} (hd : 2 ≤ d + 1) (σ : Mm) (x0 : Nat) (x1 : Int32) (x2 : Int32) (h_x0 : tgT x0 = 12) : Rf X S (emI σ) (f_Mo_currentOf σ x0 x1 x2) (d + 1) 279 0 [.ref x0, .int x1, .int x2, unset0, unset0, unset0] [] σ := by
  unfold f_Mo_currentOf
  refine rf_ald (i := 0) (Or.inr ⟨0, rfl, rfl, rfl⟩) c_279_0 rfl ?_
  refine rf_ild (i := 2) (Or.inr ⟨2, rfl, rfl, rfl⟩) c_279_1 rfl ?_
  refine rf_callI (as := [.ref x0, .int x2]) (kd := 1) c_279_2 rfl (by decide) rfl ml_12_328 (by decide) rfl (rcv_1 hS rfl rfl h_x0 (by decide)) (Nat.zero_le _) rfl rfl (t_Mo_standing hS (by omega) σ x0 x2 h_x0) (fun v2 => ?_)
  refine rf_ist (i := 3) (Or.inr ⟨3, rfl, rfl, rfl⟩) c_279_5 (Nat.le_of_ble_eq_true rfl) rfl ?_
  refine rf_iconst c_279_6 ki_m1 ?_
  refine rf_ist (i := 4) (Or.inl ⟨rfl, rfl⟩) c_279_7 (Nat.le_of_ble_eq_true rfl) rfl ?_
  refine rf_iconst c_279_9 ki_0 ?_
  refine rf_ist (i := 5) (Or.inl ⟨rfl, rfl⟩) c_279_10 (Nat.le_of_ble_eq_true rfl) rfl ?_
  exact t_Mo_currentOf_12 hS hd σ  NN x0 x1 v2 (-1 : Int32) (0 : Int32) (.int x2) h_x0
theorem t_Mo_currentOf {X : Xt} {S : Sh} (hS : ShOK S) {d : Nat} (hd : 2 ≤ d) (σ : Mm) (x0 : Nat) (x1 : Int32) (x2 : Int32) (h_x0 : tgT x0 = 12) : Rf X S (emI σ) (f_Mo_currentOf σ x0 x1 x2) d 279 0 [.ref x0, .int x1, .int x2, unset0, unset0, unset0] [] σ := by
  obtain ⟨d1, rfl⟩ : ∃ d1, d = d1 + 1 := ⟨d - 1, by omega⟩
  exact t_Mo_currentOf_e hS hd σ x0 x1 x2 h_x0
theorem c_280_0 : cd 280 0 = some (.iload_n 1, 1) := by decide +kernel
theorem c_280_1 : cd 280 1 = some (.invokestatic 134, 3) := by decide +kernel
theorem c_280_4 : cd 280 4 = some (.ifCond .eq (22), 3) := by decide +kernel
theorem c_280_7 : cd 280 7 = some (.iload_n 2, 1) := by decide +kernel
theorem c_280_8 : cd 280 8 = some (.invokestatic 100, 3) := by decide +kernel
theorem c_280_11 : cd 280 11 = some (.ifCond .eq (15), 3) := by decide +kernel
theorem c_280_14 : cd 280 14 = some (.aload_n 0, 1) := by decide +kernel
theorem c_280_15 : cd 280 15 = some (.iload_n 1, 1) := by decide +kernel
theorem c_280_16 : cd 280 16 = some (.iload_n 2, 1) := by decide +kernel
theorem c_280_17 : cd 280 17 = some (.invokevirtual 343, 3) := by decide +kernel
theorem c_280_20 : cd 280 20 = some (.invokestatic 96, 3) := by decide +kernel
theorem c_280_23 : cd 280 23 = some (.goto (5), 3) := by decide +kernel
theorem c_280_26 : cd 280 26 = some (.ldc 91, 2) := by decide +kernel
theorem c_280_28 : cd 280 28 = some (.ireturn, 1) := by decide +kernel
def f_Mo_current_28 (σ : Mm) (y0 : Int32) : Option Int32 := some y0
set_option maxRecDepth 100000 in
set_option maxHeartbeats 4000000 in
theorem t_Mo_current_28 {X : Xt} {S : Sh} (hS : ShOK S) {d : Nat} (hd : 3 ≤ d + 1) (σ : Mm) (y0 : Int32) (u0 : Value) (u1 : Value) (u2 : Value) : Rf X S (emI σ) (f_Mo_current_28 σ y0) (d + 1) 280 28 [u0, u1, u2] [.int y0] σ := by
  unfold f_Mo_current_28
  exact rf_ret c_280_28 rfl rfl rfl rfl
def f_Mo_current_26 (σ : Mm) : Option Int32 := f_Mo_current_28 σ (-1000000001 : Int32)
set_option maxRecDepth 100000 in
set_option maxHeartbeats 4000000 in
theorem t_Mo_current_26 {X : Xt} {S : Sh} (hS : ShOK S) {d : Nat} (hd : 3 ≤ d + 1) (σ : Mm) (u0 : Value) (u1 : Value) (u2 : Value) : Rf X S (emI σ) (f_Mo_current_26 σ) (d + 1) 280 26 [u0, u1, u2] [] σ := by
  unfold f_Mo_current_26
  refine rf_ldc (Or.inl ⟨rfl, rfl⟩) c_280_26 rfl kl_12_91 ?_
  exact t_Mo_current_28 hS hd σ  (-1000000001 : Int32) (u0) (u1) (u2)
def f_Mo_current (σ : Mm) (x0 : Nat) (x1 : Int32) (x2 : Int32) : Option Int32 := (f_Mo_isThing σ x1).bind fun v1 => (if v1 = 0 then (f_Mo_current_26 σ ) else ((f_Mo_isDay σ x2).bind fun v8 => (if v8 = 0 then (f_Mo_current_26 σ ) else ((f_Mo_currentOf σ x0 x1 x2).bind fun v17 => (f_Mo_orNone σ v17).bind fun v20 => f_Mo_current_28 σ v20))))
set_option maxRecDepth 100000 in
set_option maxHeartbeats 4000000 in
theorem t_Mo_current_e {X : Xt} {S : Sh} (hS : ShOK S) {d : Nat} (hd : 3 ≤ d + 1) (σ : Mm) (x0 : Nat) (x1 : Int32) (x2 : Int32) (h_x0 : tgT x0 = 12) : Rf X S (emI σ) (f_Mo_current σ x0 x1 x2) (d + 1) 280 0 [.ref x0, .int x1, .int x2] [] σ := by
  unfold f_Mo_current
  refine rf_ild (i := 1) (Or.inr ⟨1, rfl, rfl, rfl⟩) c_280_0 rfl ?_
  refine rf_callI (as := [.int x1]) (kd := 0) c_280_1 rfl (by decide) rfl ml_12_134 (by decide) rfl (rcv_0 rfl) (Nat.zero_le _) rfl rfl (t_Mo_isThing hS (by omega) σ x1) (fun v1 => ?_)
  refine rf_ite (fun hc4 => ?_) (fun hc4 => ?_)
  · refine rf_b1t c_280_4 rfl (decide_eq_true hc4) ?_
    exact t_Mo_current_26 hS hd σ  (.ref x0) (.int x1) (.int x2)
  · refine rf_b1f c_280_4 rfl (decide_eq_false hc4) ?_
    refine rf_ild (i := 2) (Or.inr ⟨2, rfl, rfl, rfl⟩) c_280_7 rfl ?_
    refine rf_callI (as := [.int x2]) (kd := 0) c_280_8 rfl (by decide) rfl ml_12_100 (by decide) rfl (rcv_0 rfl) (Nat.zero_le _) rfl rfl (t_Mo_isDay hS (by omega) σ x2) (fun v8 => ?_)
    refine rf_ite (fun hc11 => ?_) (fun hc11 => ?_)
    · refine rf_b1t c_280_11 rfl (decide_eq_true hc11) ?_
      exact t_Mo_current_26 hS hd σ  (.ref x0) (.int x1) (.int x2)
    · refine rf_b1f c_280_11 rfl (decide_eq_false hc11) ?_
      refine rf_ald (i := 0) (Or.inr ⟨0, rfl, rfl, rfl⟩) c_280_14 rfl ?_
      refine rf_ild (i := 1) (Or.inr ⟨1, rfl, rfl, rfl⟩) c_280_15 rfl ?_
      refine rf_ild (i := 2) (Or.inr ⟨2, rfl, rfl, rfl⟩) c_280_16 rfl ?_
      refine rf_callI (as := [.ref x0, .int x1, .int x2]) (kd := 1) c_280_17 rfl (by decide) rfl ml_12_343 (by decide) rfl (rcv_1 hS rfl rfl h_x0 (by decide)) (Nat.zero_le _) rfl rfl (t_Mo_currentOf hS (by omega) σ x0 x1 x2 h_x0) (fun v17 => ?_)
      refine rf_callI (as := [.int v17]) (kd := 0) c_280_20 rfl (by decide) rfl ml_12_96 (by decide) rfl (rcv_0 rfl) (Nat.zero_le _) rfl rfl (t_Mo_orNone hS (by omega) σ v17) (fun v20 => ?_)
      refine rf_goto c_280_23 rfl ?_
      exact t_Mo_current_28 hS hd σ  v20 (.ref x0) (.int x1) (.int x2)
theorem t_Mo_current {X : Xt} {S : Sh} (hS : ShOK S) {d : Nat} (hd : 3 ≤ d) (σ : Mm) (x0 : Nat) (x1 : Int32) (x2 : Int32) (h_x0 : tgT x0 = 12) : Rf X S (emI σ) (f_Mo_current σ x0 x1 x2) d 280 0 [.ref x0, .int x1, .int x2] [] σ := by
  obtain ⟨d1, rfl⟩ : ∃ d1, d = d1 + 1 := ⟨d - 1, by omega⟩
  exact t_Mo_current_e hS hd σ x0 x1 x2 h_x0
theorem c_281_0 : cd 281 0 = some (.aload_n 0, 1) := by decide +kernel
theorem c_281_1 : cd 281 1 = some (.iload_n 1, 1) := by decide +kernel
theorem c_281_2 : cd 281 2 = some (.invokevirtual 87, 3) := by decide +kernel
theorem c_281_5 : cd 281 5 = some (.ifCond .eq (10), 3) := by decide +kernel
theorem c_281_8 : cd 281 8 = some (.iload_n 2, 1) := by decide +kernel
theorem c_281_9 : cd 281 9 = some (.invokestatic 134, 3) := by decide +kernel
theorem c_281_12 : cd 281 12 = some (.ifCond .ne (6), 3) := by decide +kernel
theorem c_281_15 : cd 281 15 = some (.ldc 91, 2) := by decide +kernel
theorem c_281_17 : cd 281 17 = some (.ireturn, 1) := by decide +kernel
theorem c_281_18 : cd 281 18 = some (.aload_n 0, 1) := by decide +kernel
theorem c_281_19 : cd 281 19 = some (.aload_n 0, 1) := by decide +kernel
theorem c_281_20 : cd 281 20 = some (.getfield 9, 3) := by decide +kernel
theorem c_281_23 : cd 281 23 = some (.iconst (0), 1) := by decide +kernel
theorem c_281_24 : cd 281 24 = some (.iaload, 1) := by decide +kernel
theorem c_281_25 : cd 281 25 = some (.invokevirtual 328, 3) := by decide +kernel
theorem c_281_28 : cd 281 28 = some (.istore_n 3, 1) := by decide +kernel
theorem c_281_29 : cd 281 29 = some (.ldc 81, 2) := by decide +kernel
theorem c_281_31 : cd 281 31 = some (.istore 4, 2) := by decide +kernel
theorem c_281_33 : cd 281 33 = some (.iconst (0), 1) := by decide +kernel
theorem c_281_34 : cd 281 34 = some (.istore 5, 2) := by decide +kernel
theorem c_281_36 : cd 281 36 = some (.iload 5, 2) := by decide +kernel
theorem c_281_38 : cd 281 38 = some (.aload_n 0, 1) := by decide +kernel
theorem c_281_39 : cd 281 39 = some (.getfield 9, 3) := by decide +kernel
theorem c_281_42 : cd 281 42 = some (.bipush (6), 2) := by decide +kernel
theorem c_281_44 : cd 281 44 = some (.iaload, 1) := by decide +kernel
theorem c_281_45 : cd 281 45 = some (.if_icmp .ge (65), 3) := by decide +kernel
theorem c_281_48 : cd 281 48 = some (.iload_n 3, 1) := by decide +kernel
theorem c_281_49 : cd 281 49 = some (.iload 5, 2) := by decide +kernel
theorem c_281_51 : cd 281 51 = some (.ishr, 1) := by decide +kernel
theorem c_281_52 : cd 281 52 = some (.iconst (1), 1) := by decide +kernel
theorem c_281_53 : cd 281 53 = some (.iand, 1) := by decide +kernel
theorem c_281_54 : cd 281 54 = some (.iconst (1), 1) := by decide +kernel
theorem c_281_55 : cd 281 55 = some (.if_icmp .ne (32), 3) := by decide +kernel
theorem c_281_58 : cd 281 58 = some (.aload_n 0, 1) := by decide +kernel
theorem c_281_59 : cd 281 59 = some (.iload 5, 2) := by decide +kernel
theorem c_281_61 : cd 281 61 = some (.invokevirtual 334, 3) := by decide +kernel
theorem c_281_64 : cd 281 64 = some (.iload_n 2, 1) := by decide +kernel
theorem c_281_65 : cd 281 65 = some (.if_icmp .ne (22), 3) := by decide +kernel
theorem c_281_68 : cd 281 68 = some (.aload_n 0, 1) := by decide +kernel
theorem c_281_69 : cd 281 69 = some (.iload 5, 2) := by decide +kernel
theorem c_281_71 : cd 281 71 = some (.iconst (3), 1) := by decide +kernel
theorem c_281_72 : cd 281 72 = some (.invokevirtual 316, 3) := by decide +kernel
theorem c_281_75 : cd 281 75 = some (.iload_n 1, 1) := by decide +kernel
theorem c_281_76 : cd 281 76 = some (.ishr, 1) := by decide +kernel
theorem c_281_77 : cd 281 77 = some (.iconst (1), 1) := by decide +kernel
theorem c_281_78 : cd 281 78 = some (.iand, 1) := by decide +kernel
theorem c_281_79 : cd 281 79 = some (.iconst (1), 1) := by decide +kernel
theorem c_281_80 : cd 281 80 = some (.if_icmp .ne (7), 3) := by decide +kernel
theorem c_281_83 : cd 281 83 = some (.iconst (1), 1) := by decide +kernel
theorem c_281_84 : cd 281 84 = some (.goto (4), 3) := by decide +kernel
theorem c_281_87 : cd 281 87 = some (.iconst (0), 1) := by decide +kernel
theorem c_281_88 : cd 281 88 = some (.istore 6, 2) := by decide +kernel
theorem c_281_90 : cd 281 90 = some (.iload 6, 2) := by decide +kernel
theorem c_281_92 : cd 281 92 = some (.ifCond .eq (8), 3) := by decide +kernel
theorem c_281_95 : cd 281 95 = some (.iload 5, 2) := by decide +kernel
theorem c_281_97 : cd 281 97 = some (.goto (5), 3) := by decide +kernel
theorem c_281_100 : cd 281 100 = some (.iload 4, 2) := by decide +kernel
theorem c_281_102 : cd 281 102 = some (.istore 4, 2) := by decide +kernel
theorem c_281_104 : cd 281 104 = some (.iinc 5 (1), 3) := by decide +kernel
theorem c_281_107 : cd 281 107 = some (.goto (-71), 3) := by decide +kernel
theorem c_281_110 : cd 281 110 = some (.iload 4, 2) := by decide +kernel
theorem c_281_112 : cd 281 112 = some (.ireturn, 1) := by decide +kernel
def f_Mo_bound_15 (σ : Mm) : Option Int32 := some (-1000000001 : Int32)
set_option maxRecDepth 100000 in
set_option maxHeartbeats 4000000 in
theorem t_Mo_bound_15 {X : Xt} {S : Sh} (hS : ShOK S) {d : Nat} (hd : 2 ≤ d + 1) (σ : Mm) (u0 : Value) (u1 : Value) (u2 : Value) (u3 : Value) (u4 : Value) (u5 : Value) (u6 : Value) : Rf X S (emI σ) (f_Mo_bound_15 σ) (d + 1) 281 15 [u0, u1, u2, u3, u4, u5, u6] [] σ := by
  unfold f_Mo_bound_15
  refine rf_ldc (Or.inl ⟨rfl, rfl⟩) c_281_15 rfl kl_12_91 ?_
  exact rf_ret c_281_17 rfl rfl rfl rfl
def f_Mo_bound_102 (σ : Mm) (k36 : Nat → Int32 → Int32 → Int32 → Int32 → Int32 → Option (Int32)) (x0 : Nat) (x1 : Int32) (x2 : Int32) (x3 : Int32) (x5 : Int32) (y0 : Int32) : Option Int32 := k36 x0 x1 x2 x3 y0 (x5 + (1 : Int32))
set_option maxRecDepth 100000 in
set_option maxHeartbeats 4000000 in
theorem t_Mo_bound_102 {X : Xt} {S : Sh} (hS : ShOK S) {d : Nat} (hd : 2 ≤ d + 1) (σ : Mm) {k36 : Nat → Int32 → Int32 → Int32 → Int32 → Int32 → Option (Int32)} (hk36 : ∀ (x0 : Nat) (x1 : Int32) (x2 : Int32) (x3 : Int32) (x4 : Int32) (x5 : Int32) (u6 : Value) (h_x0 : tgT x0 = 12), Rf X S (emI σ) (k36 x0 x1 x2 x3 x4 x5) (d + 1) 281 36 [.ref x0, .int x1, .int x2, .int x3, .int x4, .int x5, u6] [] σ) (x0 : Nat) (x1 : Int32) (x2 : Int32) (x3 : Int32) (x5 : Int32) (y0 : Int32) (u4 : Value) (u6 : Value) (h_x0 : tgT x0 = 12) : Rf X S (emI σ) (f_Mo_bound_102 σ k36 x0 x1 x2 x3 x5 y0) (d + 1) 281 102 [.ref x0, .int x1, .int x2, .int x3, u4, .int x5, u6] [.int y0] σ := by
  unfold f_Mo_bound_102
  refine rf_ist (i := 4) (Or.inl ⟨rfl, rfl⟩) c_281_102 (Nat.le_of_ble_eq_true rfl) rfl ?_
  refine rf_iinc c_281_104 rfl ki_1 rfl ?_
  refine rf_goto c_281_107 rfl ?_
  exact hk36 x0 x1 x2 x3 y0 (x5 + (1 : Int32)) (u6) h_x0
def f_Mo_bound_88 (σ : Mm) (k36 : Nat → Int32 → Int32 → Int32 → Int32 → Int32 → Option (Int32)) (x0 : Nat) (x1 : Int32) (x2 : Int32) (x3 : Int32) (x4 : Int32) (x5 : Int32) (y0 : Int32) : Option Int32 := (if y0 = 0 then (f_Mo_bound_102 σ k36 x0 x1 x2 x3 x5 x4) else (f_Mo_bound_102 σ k36 x0 x1 x2 x3 x5 x5))
set_option maxRecDepth 100000 in
set_option maxHeartbeats 4000000 in
theorem t_Mo_bound_88 {X : Xt} {S : Sh} (hS : ShOK S) {d : Nat} (hd : 2 ≤ d + 1) (σ : Mm) {k36 : Nat → Int32 → Int32 → Int32 → Int32 → Int32 → Option (Int32)} (hk36 : ∀ (x0 : Nat) (x1 : Int32) (x2 : Int32) (x3 : Int32) (x4 : Int32) (x5 : Int32) (u6 : Value) (h_x0 : tgT x0 = 12), Rf X S (emI σ) (k36 x0 x1 x2 x3 x4 x5) (d + 1) 281 36 [.ref x0, .int x1, .int x2, .int x3, .int x4, .int x5, u6] [] σ) (x0 : Nat) (x1 : Int32) (x2 : Int32) (x3 : Int32) (x4 : Int32) (x5 : Int32) (y0 : Int32) (u6 : Value) (h_x0 : tgT x0 = 12) : Rf X S (emI σ) (f_Mo_bound_88 σ k36 x0 x1 x2 x3 x4 x5 y0) (d + 1) 281 88 [.ref x0, .int x1, .int x2, .int x3, .int x4, .int x5, u6] [.int y0] σ := by
  unfold f_Mo_bound_88
  refine rf_ist (i := 6) (Or.inl ⟨rfl, rfl⟩) c_281_88 (Nat.le_of_ble_eq_true rfl) rfl ?_
  refine rf_ild (i := 6) (Or.inl ⟨rfl, rfl⟩) c_281_90 rfl ?_
  refine rf_ite (fun hc92 => ?_) (fun hc92 => ?_)
  · refine rf_b1t c_281_92 rfl (decide_eq_true hc92) ?_
    refine rf_ild (i := 4) (Or.inl ⟨rfl, rfl⟩) c_281_100 rfl ?_
    exact t_Mo_bound_102 hS hd σ hk36 x0 x1 x2 x3 x5 x4 (.int x4) (.int y0) h_x0
  · refine rf_b1f c_281_92 rfl (decide_eq_false hc92) ?_
    refine rf_ild (i := 5) (Or.inl ⟨rfl, rfl⟩) c_281_95 rfl ?_
    refine rf_goto c_281_97 rfl ?_
    exact t_Mo_bound_102 hS hd σ hk36 x0 x1 x2 x3 x5 x5 (.int x4) (.int y0) h_x0
def f_Mo_bound_87 (σ : Mm) (k36 : Nat → Int32 → Int32 → Int32 → Int32 → Int32 → Option (Int32)) (x0 : Nat) (x1 : Int32) (x2 : Int32) (x3 : Int32) (x4 : Int32) (x5 : Int32) : Option Int32 := f_Mo_bound_88 σ k36 x0 x1 x2 x3 x4 x5 (0 : Int32)
set_option maxRecDepth 100000 in
set_option maxHeartbeats 4000000 in
theorem t_Mo_bound_87 {X : Xt} {S : Sh} (hS : ShOK S) {d : Nat} (hd : 2 ≤ d + 1) (σ : Mm) {k36 : Nat → Int32 → Int32 → Int32 → Int32 → Int32 → Option (Int32)} (hk36 : ∀ (x0 : Nat) (x1 : Int32) (x2 : Int32) (x3 : Int32) (x4 : Int32) (x5 : Int32) (u6 : Value) (h_x0 : tgT x0 = 12), Rf X S (emI σ) (k36 x0 x1 x2 x3 x4 x5) (d + 1) 281 36 [.ref x0, .int x1, .int x2, .int x3, .int x4, .int x5, u6] [] σ) (x0 : Nat) (x1 : Int32) (x2 : Int32) (x3 : Int32) (x4 : Int32) (x5 : Int32) (u6 : Value) (h_x0 : tgT x0 = 12) : Rf X S (emI σ) (f_Mo_bound_87 σ k36 x0 x1 x2 x3 x4 x5) (d + 1) 281 87 [.ref x0, .int x1, .int x2, .int x3, .int x4, .int x5, u6] [] σ := by
  unfold f_Mo_bound_87
  refine rf_iconst c_281_87 ki_0 ?_
  exact t_Mo_bound_88 hS hd σ hk36 x0 x1 x2 x3 x4 x5 (0 : Int32) (u6) h_x0
def f_Mo_bound_36 (σ : Mm) : Nat → Nat → Int32 → Int32 → Int32 → Int32 → Int32 → Option Int32
  | 0, _, _, _, _, _, _ => none
  | n + 1, x0, x1, x2, x3, x4, x5 => (if (σ (rfT x0 0) (ix (6 : Int32))) ≤ x5 then (some x4) else (if ¬ ((x3 >>> (x5 &&& 31)) &&& (1 : Int32)) = (1 : Int32) then (f_Mo_bound_87 σ (f_Mo_bound_36 σ n) x0 x1 x2 x3 x4 x5) else ((f_Mo_thingOf σ x0 x5).bind fun v61 => (if ¬ v61 = x2 then (f_Mo_bound_87 σ (f_Mo_bound_36 σ n) x0 x1 x2 x3 x4 x5) else ((f_Mo_decisionOf σ x0 x5 (3 : Int32)).bind fun v72 => (if ¬ ((v72 >>> (x1 &&& 31)) &&& (1 : Int32)) = (1 : Int32) then (f_Mo_bound_87 σ (f_Mo_bound_36 σ n) x0 x1 x2 x3 x4 x5) else (f_Mo_bound_88 σ (f_Mo_bound_36 σ n) x0 x1 x2 x3 x4 x5 (1 : Int32))))))))
set_option maxRecDepth 100000 in
set_option maxHeartbeats 4000000 in
theorem t_Mo_bound_36 {X : Xt} {S : Sh} (hS : ShOK S) {d : Nat} (hd : 2 ≤ d + 1) (σ : Mm) : ∀ (n : Nat) (x0 : Nat) (x1 : Int32) (x2 : Int32) (x3 : Int32) (x4 : Int32) (x5 : Int32) (u6 : Value) (h_x0 : tgT x0 = 12), Rf X S (emI σ) (f_Mo_bound_36 σ n x0 x1 x2 x3 x4 x5) (d + 1) 281 36 [.ref x0, .int x1, .int x2, .int x3, .int x4, .int x5, u6] [] σ := by
  intro n
  induction n with
  | zero => intro x0 x1 x2 x3 x4 x5 u6 h_x0; exact rf_none
  | succ n ih =>
    intro x0 x1 x2 x3 x4 x5 u6 h_x0
    rw [f_Mo_bound_36]
    refine rf_ild (i := 5) (Or.inl ⟨rfl, rfl⟩) c_281_36 rfl ?_
    refine rf_ald (i := 0) (Or.inr ⟨0, rfl, rfl, rfl⟩) c_281_38 rfl ?_
    refine rf_getr hS c_281_39 rfl fl_12_9 rfl h_x0 ?_
    refine rf_bipush c_281_42 kb_6 ?_
    refine rf_iald hS c_281_44 (tf_12_0 h_x0) (lf_12_0 h_x0) (by decide) ?_
    refine rf_ite (fun hc45 => ?_) (fun hc45 => ?_)
    · refine rf_b2t c_281_45 rfl (decide_eq_true hc45) ?_
      refine rf_ild (i := 4) (Or.inl ⟨rfl, rfl⟩) c_281_110 rfl ?_
      exact rf_ret c_281_112 rfl rfl rfl rfl
    · refine rf_b2f c_281_45 rfl (decide_eq_false hc45) ?_
      refine rf_ild (i := 3) (Or.inr ⟨3, rfl, rfl, rfl⟩) c_281_48 rfl ?_
      refine rf_ild (i := 5) (Or.inl ⟨rfl, rfl⟩) c_281_49 rfl ?_
      refine rf_ishr c_281_51 ?_
      refine rf_iconst c_281_52 ki_1 ?_
      refine rf_iand c_281_53 ?_
      refine rf_iconst c_281_54 ki_1 ?_
      refine rf_ite (fun hc55 => ?_) (fun hc55 => ?_)
      · refine rf_b2t c_281_55 rfl (decide_eq_true hc55) ?_
        exact t_Mo_bound_87 hS hd σ ih x0 x1 x2 x3 x4 x5 (u6) h_x0
      · refine rf_b2f c_281_55 rfl (decide_eq_false hc55) ?_
        refine rf_ald (i := 0) (Or.inr ⟨0, rfl, rfl, rfl⟩) c_281_58 rfl ?_
        refine rf_ild (i := 5) (Or.inl ⟨rfl, rfl⟩) c_281_59 rfl ?_
        refine rf_callI (as := [.ref x0, .int x5]) (kd := 1) c_281_61 rfl (by decide) rfl ml_12_334 (by decide) rfl (rcv_1 hS rfl rfl h_x0 (by decide)) (Nat.zero_le _) rfl rfl (t_Mo_thingOf hS (by omega) σ x0 x5 h_x0) (fun v61 => ?_)
        refine rf_ild (i := 2) (Or.inr ⟨2, rfl, rfl, rfl⟩) c_281_64 rfl ?_
        refine rf_ite (fun hc65 => ?_) (fun hc65 => ?_)
        · refine rf_b2t c_281_65 rfl (decide_eq_true hc65) ?_
          exact t_Mo_bound_87 hS hd σ ih x0 x1 x2 x3 x4 x5 (u6) h_x0
        · refine rf_b2f c_281_65 rfl (decide_eq_false hc65) ?_
          refine rf_ald (i := 0) (Or.inr ⟨0, rfl, rfl, rfl⟩) c_281_68 rfl ?_
          refine rf_ild (i := 5) (Or.inl ⟨rfl, rfl⟩) c_281_69 rfl ?_
          refine rf_iconst c_281_71 ki_3 ?_
          refine rf_callI (as := [.ref x0, .int x5, .int (3 : Int32)]) (kd := 1) c_281_72 rfl (by decide) rfl ml_12_316 (by decide) rfl (rcv_1 hS rfl rfl h_x0 (by decide)) (Nat.zero_le _) rfl rfl (t_Mo_decisionOf hS (by omega) σ x0 x5 (3 : Int32) h_x0) (fun v72 => ?_)
          refine rf_ild (i := 1) (Or.inr ⟨1, rfl, rfl, rfl⟩) c_281_75 rfl ?_
          refine rf_ishr c_281_76 ?_
          refine rf_iconst c_281_77 ki_1 ?_
          refine rf_iand c_281_78 ?_
          refine rf_iconst c_281_79 ki_1 ?_
          refine rf_ite (fun hc80 => ?_) (fun hc80 => ?_)
          · refine rf_b2t c_281_80 rfl (decide_eq_true hc80) ?_
            exact t_Mo_bound_87 hS hd σ ih x0 x1 x2 x3 x4 x5 (u6) h_x0
          · refine rf_b2f c_281_80 rfl (decide_eq_false hc80) ?_
            refine rf_iconst c_281_83 ki_1 ?_
            refine rf_goto c_281_84 rfl ?_
            exact t_Mo_bound_88 hS hd σ ih x0 x1 x2 x3 x4 x5 (1 : Int32) (u6) h_x0
def f_Mo_bound (σ : Mm) (x0 : Nat) (x1 : Int32) (x2 : Int32) : Option Int32 := (f_Mo_isOffice σ x0 x1).bind fun v2 => (if v2 = 0 then (f_Mo_bound_15 σ ) else ((f_Mo_isThing σ x2).bind fun v9 => (if ¬ v9 = 0 then ((f_Mo_standing σ x0 (σ (rfT x0 0) (ix (0 : Int32)))).bind fun v25 => f_Mo_bound_36 σ NN x0 x1 x2 v25 (-1000000005 : Int32) (0 : Int32)) else (f_Mo_bound_15 σ ))))
set_option maxRecDepth 100000 in
set_option maxHeartbeats 4000000 in
theorem t_Mo_bound_e {X : Xt} {S : Sh} (hS : ShOK S) {d : Nat} (hd : 2 ≤ d + 1) (σ : Mm) (x0 : Nat) (x1 : Int32) (x2 : Int32) (h_x0 : tgT x0 = 12) : Rf X S (emI σ) (f_Mo_bound σ x0 x1 x2) (d + 1) 281 0 [.ref x0, .int x1, .int x2, unset0, unset0, unset0, unset0] [] σ := by
  unfold f_Mo_bound
  refine rf_ald (i := 0) (Or.inr ⟨0, rfl, rfl, rfl⟩) c_281_0 rfl ?_
  refine rf_ild (i := 1) (Or.inr ⟨1, rfl, rfl, rfl⟩) c_281_1 rfl ?_
  refine rf_callI (as := [.ref x0, .int x1]) (kd := 1) c_281_2 rfl (by decide) rfl ml_12_87 (by decide) rfl (rcv_1 hS rfl rfl h_x0 (by decide)) (Nat.zero_le _) rfl rfl (t_Mo_isOffice hS (by omega) σ x0 x1 h_x0) (fun v2 => ?_)
  refine rf_ite (fun hc5 => ?_) (fun hc5 => ?_)
  · refine rf_b1t c_281_5 rfl (decide_eq_true hc5) ?_
    exact t_Mo_bound_15 hS hd σ  (.ref x0) (.int x1) (.int x2) (unset0) (unset0) (unset0) (unset0)
  · refine rf_b1f c_281_5 rfl (decide_eq_false hc5) ?_
    refine rf_ild (i := 2) (Or.inr ⟨2, rfl, rfl, rfl⟩) c_281_8 rfl ?_
    refine rf_callI (as := [.int x2]) (kd := 0) c_281_9 rfl (by decide) rfl ml_12_134 (by decide) rfl (rcv_0 rfl) (Nat.zero_le _) rfl rfl (t_Mo_isThing hS (by omega) σ x2) (fun v9 => ?_)
    refine rf_ite (fun hc12 => ?_) (fun hc12 => ?_)
    · refine rf_b1t c_281_12 rfl (decide_eq_true hc12) ?_
      refine rf_ald (i := 0) (Or.inr ⟨0, rfl, rfl, rfl⟩) c_281_18 rfl ?_
      refine rf_ald (i := 0) (Or.inr ⟨0, rfl, rfl, rfl⟩) c_281_19 rfl ?_
      refine rf_getr hS c_281_20 rfl fl_12_9 rfl h_x0 ?_
      refine rf_iconst c_281_23 ki_0 ?_
      refine rf_iald hS c_281_24 (tf_12_0 h_x0) (lf_12_0 h_x0) (by decide) ?_
      refine rf_callI (as := [.ref x0, .int (σ (rfT x0 0) (ix (0 : Int32)))]) (kd := 1) c_281_25 rfl (by decide) rfl ml_12_328 (by decide) rfl (rcv_1 hS rfl rfl h_x0 (by decide)) (Nat.zero_le _) rfl rfl (t_Mo_standing hS (by omega) σ x0 (σ (rfT x0 0) (ix (0 : Int32))) h_x0) (fun v25 => ?_)
      refine rf_ist (i := 3) (Or.inr ⟨3, rfl, rfl, rfl⟩) c_281_28 (Nat.le_of_ble_eq_true rfl) rfl ?_
      refine rf_ldc (Or.inl ⟨rfl, rfl⟩) c_281_29 rfl kl_12_81 ?_
      refine rf_ist (i := 4) (Or.inl ⟨rfl, rfl⟩) c_281_31 (Nat.le_of_ble_eq_true rfl) rfl ?_
      refine rf_iconst c_281_33 ki_0 ?_
      refine rf_ist (i := 5) (Or.inl ⟨rfl, rfl⟩) c_281_34 (Nat.le_of_ble_eq_true rfl) rfl ?_
      exact t_Mo_bound_36 hS hd σ  NN x0 x1 x2 v25 (-1000000005 : Int32) (0 : Int32) (unset0) h_x0
    · refine rf_b1f c_281_12 rfl (decide_eq_false hc12) ?_
      exact t_Mo_bound_15 hS hd σ  (.ref x0) (.int x1) (.int x2) (unset0) (unset0) (unset0) (unset0)
theorem t_Mo_bound {X : Xt} {S : Sh} (hS : ShOK S) {d : Nat} (hd : 2 ≤ d) (σ : Mm) (x0 : Nat) (x1 : Int32) (x2 : Int32) (h_x0 : tgT x0 = 12) : Rf X S (emI σ) (f_Mo_bound σ x0 x1 x2) d 281 0 [.ref x0, .int x1, .int x2, unset0, unset0, unset0, unset0] [] σ := by
  obtain ⟨d1, rfl⟩ : ∃ d1, d = d1 + 1 := ⟨d - 1, by omega⟩
  exact t_Mo_bound_e hS hd σ x0 x1 x2 h_x0
theorem c_282_0 : cd 282 0 = some (.iload_n 1, 1) := by decide +kernel
theorem c_282_1 : cd 282 1 = some (.iconst (0), 1) := by decide +kernel
theorem c_282_2 : cd 282 2 = some (.iconst (2), 1) := by decide +kernel
theorem c_282_3 : cd 282 3 = some (.invokestatic 82, 3) := by decide +kernel
theorem c_282_6 : cd 282 6 = some (.ifCond .ne (6), 3) := by decide +kernel
theorem c_282_9 : cd 282 9 = some (.ldc 91, 2) := by decide +kernel
theorem c_282_11 : cd 282 11 = some (.ireturn, 1) := by decide +kernel
theorem c_282_12 : cd 282 12 = some (.aload_n 0, 1) := by decide +kernel
theorem c_282_13 : cd 282 13 = some (.aload_n 0, 1) := by decide +kernel
theorem c_282_14 : cd 282 14 = some (.getfield 9, 3) := by decide +kernel
theorem c_282_17 : cd 282 17 = some (.iconst (0), 1) := by decide +kernel
theorem c_282_18 : cd 282 18 = some (.iaload, 1) := by decide +kernel
theorem c_282_19 : cd 282 19 = some (.invokevirtual 328, 3) := by decide +kernel
theorem c_282_22 : cd 282 22 = some (.istore_n 2, 1) := by decide +kernel
theorem c_282_23 : cd 282 23 = some (.iconst (0), 1) := by decide +kernel
theorem c_282_24 : cd 282 24 = some (.istore_n 3, 1) := by decide +kernel
theorem c_282_25 : cd 282 25 = some (.ldc 81, 2) := by decide +kernel
theorem c_282_27 : cd 282 27 = some (.istore 4, 2) := by decide +kernel
theorem c_282_29 : cd 282 29 = some (.ldc 81, 2) := by decide +kernel
theorem c_282_31 : cd 282 31 = some (.istore 5, 2) := by decide +kernel
theorem c_282_33 : cd 282 33 = some (.iconst (0), 1) := by decide +kernel
theorem c_282_34 : cd 282 34 = some (.istore 6, 2) := by decide +kernel
theorem c_282_36 : cd 282 36 = some (.iload 6, 2) := by decide +kernel
theorem c_282_38 : cd 282 38 = some (.aload_n 0, 1) := by decide +kernel
theorem c_282_39 : cd 282 39 = some (.getfield 9, 3) := by decide +kernel
theorem c_282_42 : cd 282 42 = some (.bipush (6), 2) := by decide +kernel
theorem c_282_44 : cd 282 44 = some (.iaload, 1) := by decide +kernel
theorem c_282_45 : cd 282 45 = some (.if_icmp .ge (144), 3) := by decide +kernel
theorem c_282_48 : cd 282 48 = some (.iload 6, 2) := by decide +kernel
theorem c_282_50 : cd 282 50 = some (.iconst (1), 1) := by decide +kernel
theorem c_282_51 : cd 282 51 = some (.iadd, 1) := by decide +kernel
theorem c_282_52 : cd 282 52 = some (.istore 7, 2) := by decide +kernel
theorem c_282_54 : cd 282 54 = some (.iload 7, 2) := by decide +kernel
theorem c_282_56 : cd 282 56 = some (.aload_n 0, 1) := by decide +kernel
theorem c_282_57 : cd 282 57 = some (.getfield 9, 3) := by decide +kernel
theorem c_282_60 : cd 282 60 = some (.bipush (6), 2) := by decide +kernel
theorem c_282_62 : cd 282 62 = some (.iaload, 1) := by decide +kernel
theorem c_282_63 : cd 282 63 = some (.if_icmp .ge (120), 3) := by decide +kernel
theorem c_282_66 : cd 282 66 = some (.iload_n 2, 1) := by decide +kernel
theorem c_282_67 : cd 282 67 = some (.iload 6, 2) := by decide +kernel
theorem c_282_69 : cd 282 69 = some (.ishr, 1) := by decide +kernel
theorem c_282_70 : cd 282 70 = some (.iconst (1), 1) := by decide +kernel
theorem c_282_71 : cd 282 71 = some (.iand, 1) := by decide +kernel
theorem c_282_72 : cd 282 72 = some (.iconst (1), 1) := by decide +kernel
theorem c_282_73 : cd 282 73 = some (.if_icmp .ne (32), 3) := by decide +kernel
theorem c_282_76 : cd 282 76 = some (.iload_n 2, 1) := by decide +kernel
theorem c_282_77 : cd 282 77 = some (.iload 7, 2) := by decide +kernel
theorem c_282_79 : cd 282 79 = some (.ishr, 1) := by decide +kernel
theorem c_282_80 : cd 282 80 = some (.iconst (1), 1) := by decide +kernel
theorem c_282_81 : cd 282 81 = some (.iand, 1) := by decide +kernel
theorem c_282_82 : cd 282 82 = some (.iconst (1), 1) := by decide +kernel
theorem c_282_83 : cd 282 83 = some (.if_icmp .ne (22), 3) := by decide +kernel
theorem c_282_86 : cd 282 86 = some (.aload_n 0, 1) := by decide +kernel
theorem c_282_87 : cd 282 87 = some (.iload 6, 2) := by decide +kernel
theorem c_282_89 : cd 282 89 = some (.invokevirtual 334, 3) := by decide +kernel
theorem c_282_92 : cd 282 92 = some (.aload_n 0, 1) := by decide +kernel
theorem c_282_93 : cd 282 93 = some (.iload 7, 2) := by decide +kernel
theorem c_282_95 : cd 282 95 = some (.invokevirtual 334, 3) := by decide +kernel
theorem c_282_98 : cd 282 98 = some (.if_icmp .ne (7), 3) := by decide +kernel
theorem c_282_101 : cd 282 101 = some (.iconst (1), 1) := by decide +kernel
theorem c_282_102 : cd 282 102 = some (.goto (4), 3) := by decide +kernel
theorem c_282_105 : cd 282 105 = some (.iconst (0), 1) := by decide +kernel
theorem c_282_106 : cd 282 106 = some (.istore 8, 2) := by decide +kernel
theorem c_282_108 : cd 282 108 = some (.iload 8, 2) := by decide +kernel
theorem c_282_110 : cd 282 110 = some (.ifCond .eq (67), 3) := by decide +kernel
theorem c_282_113 : cd 282 113 = some (.aload_n 0, 1) := by decide +kernel
theorem c_282_114 : cd 282 114 = some (.iload 6, 2) := by decide +kernel
theorem c_282_116 : cd 282 116 = some (.iconst (1), 1) := by decide +kernel
theorem c_282_117 : cd 282 117 = some (.invokevirtual 316, 3) := by decide +kernel
theorem c_282_120 : cd 282 120 = some (.aload_n 0, 1) := by decide +kernel
theorem c_282_121 : cd 282 121 = some (.iload 7, 2) := by decide +kernel
theorem c_282_123 : cd 282 123 = some (.iconst (1), 1) := by decide +kernel
theorem c_282_124 : cd 282 124 = some (.invokevirtual 316, 3) := by decide +kernel
theorem c_282_127 : cd 282 127 = some (.if_icmp .eq (50), 3) := by decide +kernel
theorem c_282_130 : cd 282 130 = some (.aload_n 0, 1) := by decide +kernel
theorem c_282_131 : cd 282 131 = some (.iload 6, 2) := by decide +kernel
theorem c_282_133 : cd 282 133 = some (.iconst (3), 1) := by decide +kernel
theorem c_282_134 : cd 282 134 = some (.invokevirtual 316, 3) := by decide +kernel
theorem c_282_137 : cd 282 137 = some (.aload_n 0, 1) := by decide +kernel
theorem c_282_138 : cd 282 138 = some (.iload 7, 2) := by decide +kernel
theorem c_282_140 : cd 282 140 = some (.iconst (3), 1) := by decide +kernel
theorem c_282_141 : cd 282 141 = some (.invokevirtual 316, 3) := by decide +kernel
theorem c_282_144 : cd 282 144 = some (.iand, 1) := by decide +kernel
theorem c_282_145 : cd 282 145 = some (.ifCond .eq (32), 3) := by decide +kernel
theorem c_282_148 : cd 282 148 = some (.iload_n 3, 1) := by decide +kernel
theorem c_282_149 : cd 282 149 = some (.ifCond .ne (8), 3) := by decide +kernel
theorem c_282_152 : cd 282 152 = some (.iload 6, 2) := by decide +kernel
theorem c_282_154 : cd 282 154 = some (.goto (5), 3) := by decide +kernel
theorem c_282_157 : cd 282 157 = some (.iload 4, 2) := by decide +kernel
theorem c_282_159 : cd 282 159 = some (.istore 4, 2) := by decide +kernel
theorem c_282_161 : cd 282 161 = some (.iload_n 3, 1) := by decide +kernel
theorem c_282_162 : cd 282 162 = some (.ifCond .ne (8), 3) := by decide +kernel
theorem c_282_165 : cd 282 165 = some (.iload 7, 2) := by decide +kernel
theorem c_282_167 : cd 282 167 = some (.goto (5), 3) := by decide +kernel
theorem c_282_170 : cd 282 170 = some (.iload 5, 2) := by decide +kernel
theorem c_282_172 : cd 282 172 = some (.istore 5, 2) := by decide +kernel
theorem c_282_174 : cd 282 174 = some (.iinc 3 (1), 3) := by decide +kernel
theorem c_282_177 : cd 282 177 = some (.iinc 7 (1), 3) := by decide +kernel
theorem c_282_180 : cd 282 180 = some (.goto (-126), 3) := by decide +kernel
theorem c_282_183 : cd 282 183 = some (.iinc 6 (1), 3) := by decide +kernel
theorem c_282_186 : cd 282 186 = some (.goto (-150), 3) := by decide +kernel
theorem c_282_189 : cd 282 189 = some (.iload_n 1, 1) := by decide +kernel
theorem c_282_190 : cd 282 190 = some (.ifCond .ne (7), 3) := by decide +kernel
theorem c_282_193 : cd 282 193 = some (.iload_n 3, 1) := by decide +kernel
theorem c_282_194 : cd 282 194 = some (.goto (15), 3) := by decide +kernel
theorem c_282_197 : cd 282 197 = some (.iload_n 1, 1) := by decide +kernel
theorem c_282_198 : cd 282 198 = some (.iconst (1), 1) := by decide +kernel
theorem c_282_199 : cd 282 199 = some (.if_icmp .ne (8), 3) := by decide +kernel
theorem c_282_202 : cd 282 202 = some (.iload 4, 2) := by decide +kernel
theorem c_282_204 : cd 282 204 = some (.goto (5), 3) := by decide +kernel
theorem c_282_207 : cd 282 207 = some (.iload 5, 2) := by decide +kernel
theorem c_282_209 : cd 282 209 = some (.ireturn, 1) := by decide +kernel
def f_Mo_against_177 (σ : Mm) (k36 : Nat → Int32 → Int32 → Int32 → Int32 → Int32 → Int32 → Option (Int32)) (k54 : Nat → Int32 → Int32 → Int32 → Int32 → Int32 → Int32 → Int32 → Option (Int32)) (x0 : Nat) (x1 : Int32) (x2 : Int32) (x3 : Int32) (x4 : Int32) (x5 : Int32) (x6 : Int32) (x7 : Int32) : Option Int32 := k54 x0 x1 x2 x3 x4 x5 x6 (x7 + (1 : Int32))
set_option maxRecDepth 100000 in
set_option maxHeartbeats 4000000 in
theorem t_Mo_against_177 {X : Xt} {S : Sh} (hS : ShOK S) {d : Nat} (hd : 2 ≤ d + 1) (σ : Mm) {k36 : Nat → Int32 → Int32 → Int32 → Int32 → Int32 → Int32 → Option (Int32)} (hk36 : ∀ (x0 : Nat) (x1 : Int32) (x2 : Int32) (x3 : Int32) (x4 : Int32) (x5 : Int32) (x6 : Int32) (u7 : Value) (u8 : Value) (h_x0 : tgT x0 = 12), Rf X S (emI σ) (k36 x0 x1 x2 x3 x4 x5 x6) (d + 1) 282 36 [.ref x0, .int x1, .int x2, .int x3, .int x4, .int x5, .int x6, u7, u8] [] σ) {k54 : Nat → Int32 → Int32 → Int32 → Int32 → Int32 → Int32 → Int32 → Option (Int32)} (hk54 : ∀ (x0 : Nat) (x1 : Int32) (x2 : Int32) (x3 : Int32) (x4 : Int32) (x5 : Int32) (x6 : Int32) (x7 : Int32) (u8 : Value) (h_x0 : tgT x0 = 12), Rf X S (emI σ) (k54 x0 x1 x2 x3 x4 x5 x6 x7) (d + 1) 282 54 [.ref x0, .int x1, .int x2, .int x3, .int x4, .int x5, .int x6, .int x7, u8] [] σ) (x0 : Nat) (x1 : Int32) (x2 : Int32) (x3 : Int32) (x4 : Int32) (x5 : Int32) (x6 : Int32) (x7 : Int32) (u8 : Value) (h_x0 : tgT x0 = 12) : Rf X S (emI σ) (f_Mo_against_177 σ k36 k54 x0 x1 x2 x3 x4 x5 x6 x7) (d + 1) 282 177 [.ref x0, .int x1, .int x2, .int x3, .int x4, .int x5, .int x6, .int x7, u8] [] σ := by
  unfold f_Mo_against_177
  refine rf_iinc c_282_177 rfl ki_1 rfl ?_
  refine rf_goto c_282_180 rfl ?_
  exact hk54 x0 x1 x2 x3 x4 x5 x6 (x7 + (1 : Int32)) (u8) h_x0
def f_Mo_against_172 (σ : Mm) (k36 : Nat → Int32 → Int32 → Int32 → Int32 → Int32 → Int32 → Option (Int32)) (k54 : Nat → Int32 → Int32 → Int32 → Int32 → Int32 → Int32 → Int32 → Option (Int32)) (x0 : Nat) (x1 : Int32) (x2 : Int32) (x3 : Int32) (x4 : Int32) (x6 : Int32) (x7 : Int32) (y0 : Int32) : Option Int32 := f_Mo_against_177 σ k36 k54 x0 x1 x2 (x3 + (1 : Int32)) x4 y0 x6 x7
set_option maxRecDepth 100000 in
set_option maxHeartbeats 4000000 in
theorem t_Mo_against_172 {X : Xt} {S : Sh} (hS : ShOK S) {d : Nat} (hd : 2 ≤ d + 1) (σ : Mm) {k36 : Nat → Int32 → Int32 → Int32 → Int32 → Int32 → Int32 → Option (Int32)} (hk36 : ∀ (x0 : Nat) (x1 : Int32) (x2 : Int32) (x3 : Int32) (x4 : Int32) (x5 : Int32) (x6 : Int32) (u7 : Value) (u8 : Value) (h_x0 : tgT x0 = 12), Rf X S (emI σ) (k36 x0 x1 x2 x3 x4 x5 x6) (d + 1) 282 36 [.ref x0, .int x1, .int x2, .int x3, .int x4, .int x5, .int x6, u7, u8] [] σ) {k54 : Nat → Int32 → Int32 → Int32 → Int32 → Int32 → Int32 → Int32 → Option (Int32)} (hk54 : ∀ (x0 : Nat) (x1 : Int32) (x2 : Int32) (x3 : Int32) (x4 : Int32) (x5 : Int32) (x6 : Int32) (x7 : Int32) (u8 : Value) (h_x0 : tgT x0 = 12), Rf X S (emI σ) (k54 x0 x1 x2 x3 x4 x5 x6 x7) (d + 1) 282 54 [.ref x0, .int x1, .int x2, .int x3, .int x4, .int x5, .int x6, .int x7, u8] [] σ) (x0 : Nat) (x1 : Int32) (x2 : Int32) (x3 : Int32) (x4 : Int32) (x6 : Int32) (x7 : Int32) (y0 : Int32) (u5 : Value) (u8 : Value) (h_x0 : tgT x0 = 12) : Rf X S (emI σ) (f_Mo_against_172 σ k36 k54 x0 x1 x2 x3 x4 x6 x7 y0) (d + 1) 282 172 [.ref x0, .int x1, .int x2, .int x3, .int x4, u5, .int x6, .int x7, u8] [.int y0] σ := by
  unfold f_Mo_against_172
  refine rf_ist (i := 5) (Or.inl ⟨rfl, rfl⟩) c_282_172 (Nat.le_of_ble_eq_true rfl) rfl ?_
  refine rf_iinc c_282_174 rfl ki_1 rfl ?_
  exact t_Mo_against_177 hS hd σ hk36 hk54 x0 x1 x2 (x3 + (1 : Int32)) x4 y0 x6 x7 (u8) h_x0
def f_Mo_against_159 (σ : Mm) (k36 : Nat → Int32 → Int32 → Int32 → Int32 → Int32 → Int32 → Option (Int32)) (k54 : Nat → Int32 → Int32 → Int32 → Int32 → Int32 → Int32 → Int32 → Option (Int32)) (x0 : Nat) (x1 : Int32) (x2 : Int32) (x3 : Int32) (x5 : Int32) (x6 : Int32) (x7 : Int32) (y0 : Int32) : Option Int32 := (if ¬ x3 = 0 then (f_Mo_against_172 σ k36 k54 x0 x1 x2 x3 y0 x6 x7 x5) else (f_Mo_against_172 σ k36 k54 x0 x1 x2 x3 y0 x6 x7 x7))
set_option maxRecDepth 100000 in
set_option maxHeartbeats 4000000 in
theorem t_Mo_against_159 {X : Xt} {S : Sh} (hS : ShOK S) {d : Nat} (hd : 2 ≤ d + 1) (σ : Mm) {k36 : Nat → Int32 → Int32 → Int32 → Int32 → Int32 → Int32 → Option (Int32)} (hk36 : ∀ (x0 : Nat) (x1 : Int32) (x2 : Int32) (x3 : Int32) (x4 : Int32) (x5 : Int32) (x6 : Int32) (u7 : Value) (u8 : Value) (h_x0 : tgT x0 = 12), Rf X S (emI σ) (k36 x0 x1 x2 x3 x4 x5 x6) (d + 1) 282 36 [.ref x0, .int x1, .int x2, .int x3, .int x4, .int x5, .int x6, u7, u8] [] σ) {k54 : Nat → Int32 → Int32 → Int32 → Int32 → Int32 → Int32 → Int32 → Option (Int32)} (hk54 : ∀ (x0 : Nat) (x1 : Int32) (x2 : Int32) (x3 : Int32) (x4 : Int32) (x5 : Int32) (x6 : Int32) (x7 : Int32) (u8 : Value) (h_x0 : tgT x0 = 12), Rf X S (emI σ) (k54 x0 x1 x2 x3 x4 x5 x6 x7) (d + 1) 282 54 [.ref x0, .int x1, .int x2, .int x3, .int x4, .int x5, .int x6, .int x7, u8] [] σ) (x0 : Nat) (x1 : Int32) (x2 : Int32) (x3 : Int32) (x5 : Int32) (x6 : Int32) (x7 : Int32) (y0 : Int32) (u4 : Value) (u8 : Value) (h_x0 : tgT x0 = 12) : Rf X S (emI σ) (f_Mo_against_159 σ k36 k54 x0 x1 x2 x3 x5 x6 x7 y0) (d + 1) 282 159 [.ref x0, .int x1, .int x2, .int x3, u4, .int x5, .int x6, .int x7, u8] [.int y0] σ := by
  unfold f_Mo_against_159
  refine rf_ist (i := 4) (Or.inl ⟨rfl, rfl⟩) c_282_159 (Nat.le_of_ble_eq_true rfl) rfl ?_
  refine rf_ild (i := 3) (Or.inr ⟨3, rfl, rfl, rfl⟩) c_282_161 rfl ?_
  refine rf_ite (fun hc162 => ?_) (fun hc162 => ?_)
  · refine rf_b1t c_282_162 rfl (decide_eq_true hc162) ?_
    refine rf_ild (i := 5) (Or.inl ⟨rfl, rfl⟩) c_282_170 rfl ?_
    exact t_Mo_against_172 hS hd σ hk36 hk54 x0 x1 x2 x3 y0 x6 x7 x5 (.int x5) (u8) h_x0
  · refine rf_b1f c_282_162 rfl (decide_eq_false hc162) ?_
    refine rf_ild (i := 7) (Or.inl ⟨rfl, rfl⟩) c_282_165 rfl ?_
    refine rf_goto c_282_167 rfl ?_
    exact t_Mo_against_172 hS hd σ hk36 hk54 x0 x1 x2 x3 y0 x6 x7 x7 (.int x5) (u8) h_x0
def f_Mo_against_106 (σ : Mm) (k36 : Nat → Int32 → Int32 → Int32 → Int32 → Int32 → Int32 → Option (Int32)) (k54 : Nat → Int32 → Int32 → Int32 → Int32 → Int32 → Int32 → Int32 → Option (Int32)) (x0 : Nat) (x1 : Int32) (x2 : Int32) (x3 : Int32) (x4 : Int32) (x5 : Int32) (x6 : Int32) (x7 : Int32) (y0 : Int32) : Option Int32 := (if y0 = 0 then (f_Mo_against_177 σ k36 k54 x0 x1 x2 x3 x4 x5 x6 x7) else ((f_Mo_decisionOf σ x0 x6 (1 : Int32)).bind fun v117 => (f_Mo_decisionOf σ x0 x7 (1 : Int32)).bind fun v124 => (if v117 = v124 then (f_Mo_against_177 σ k36 k54 x0 x1 x2 x3 x4 x5 x6 x7) else ((f_Mo_decisionOf σ x0 x6 (3 : Int32)).bind fun v134 => (f_Mo_decisionOf σ x0 x7 (3 : Int32)).bind fun v141 => (if (v134 &&& v141) = 0 then (f_Mo_against_177 σ k36 k54 x0 x1 x2 x3 x4 x5 x6 x7) else (if ¬ x3 = 0 then (f_Mo_against_159 σ k36 k54 x0 x1 x2 x3 x5 x6 x7 x4) else (f_Mo_against_159 σ k36 k54 x0 x1 x2 x3 x5 x6 x7 x6)))))))
set_option maxRecDepth 100000 in
set_option maxHeartbeats 4000000 in
theorem t_Mo_against_106 {X : Xt} {S : Sh} (hS : ShOK S) {d : Nat} (hd : 2 ≤ d + 1) (σ : Mm) {k36 : Nat → Int32 → Int32 → Int32 → Int32 → Int32 → Int32 → Option (Int32)} (hk36 : ∀ (x0 : Nat) (x1 : Int32) (x2 : Int32) (x3 : Int32) (x4 : Int32) (x5 : Int32) (x6 : Int32) (u7 : Value) (u8 : Value) (h_x0 : tgT x0 = 12), Rf X S (emI σ) (k36 x0 x1 x2 x3 x4 x5 x6) (d + 1) 282 36 [.ref x0, .int x1, .int x2, .int x3, .int x4, .int x5, .int x6, u7, u8] [] σ) {k54 : Nat → Int32 → Int32 → Int32 → Int32 → Int32 → Int32 → Int32 → Option (Int32)} (hk54 : ∀ (x0 : Nat) (x1 : Int32) (x2 : Int32) (x3 : Int32) (x4 : Int32) (x5 : Int32) (x6 : Int32) (x7 : Int32) (u8 : Value) (h_x0 : tgT x0 = 12), Rf X S (emI σ) (k54 x0 x1 x2 x3 x4 x5 x6 x7) (d + 1) 282 54 [.ref x0, .int x1, .int x2, .int x3, .int x4, .int x5, .int x6, .int x7, u8] [] σ) (x0 : Nat) (x1 : Int32) (x2 : Int32) (x3 : Int32) (x4 : Int32) (x5 : Int32) (x6 : Int32) (x7 : Int32) (y0 : Int32) (u8 : Value) (h_x0 : tgT x0 = 12) : Rf X S (emI σ) (f_Mo_against_106 σ k36 k54 x0 x1 x2 x3 x4 x5 x6 x7 y0) (d + 1) 282 106 [.ref x0, .int x1, .int x2, .int x3, .int x4, .int x5, .int x6, .int x7, u8] [.int y0] σ := by
  unfold f_Mo_against_106
  refine rf_ist (i := 8) (Or.inl ⟨rfl, rfl⟩) c_282_106 (Nat.le_of_ble_eq_true rfl) rfl ?_
  refine rf_ild (i := 8) (Or.inl ⟨rfl, rfl⟩) c_282_108 rfl ?_
  refine rf_ite (fun hc110 => ?_) (fun hc110 => ?_)
  · refine rf_b1t c_282_110 rfl (decide_eq_true hc110) ?_
    exact t_Mo_against_177 hS hd σ hk36 hk54 x0 x1 x2 x3 x4 x5 x6 x7 (.int y0) h_x0
  · refine rf_b1f c_282_110 rfl (decide_eq_false hc110) ?_
    refine rf_ald (i := 0) (Or.inr ⟨0, rfl, rfl, rfl⟩) c_282_113 rfl ?_
    refine rf_ild (i := 6) (Or.inl ⟨rfl, rfl⟩) c_282_114 rfl ?_
    refine rf_iconst c_282_116 ki_1 ?_
    refine rf_callI (as := [.ref x0, .int x6, .int (1 : Int32)]) (kd := 1) c_282_117 rfl (by decide) rfl ml_12_316 (by decide) rfl (rcv_1 hS rfl rfl h_x0 (by decide)) (Nat.zero_le _) rfl rfl (t_Mo_decisionOf hS (by omega) σ x0 x6 (1 : Int32) h_x0) (fun v117 => ?_)
    refine rf_ald (i := 0) (Or.inr ⟨0, rfl, rfl, rfl⟩) c_282_120 rfl ?_
    refine rf_ild (i := 7) (Or.inl ⟨rfl, rfl⟩) c_282_121 rfl ?_
    refine rf_iconst c_282_123 ki_1 ?_
    refine rf_callI (as := [.ref x0, .int x7, .int (1 : Int32)]) (kd := 1) c_282_124 rfl (by decide) rfl ml_12_316 (by decide) rfl (rcv_1 hS rfl rfl h_x0 (by decide)) (by simp [Value.category]) rfl rfl (t_Mo_decisionOf hS (by omega) σ x0 x7 (1 : Int32) h_x0) (fun v124 => ?_)
    refine rf_ite (fun hc127 => ?_) (fun hc127 => ?_)
    · refine rf_b2t c_282_127 rfl (decide_eq_true hc127) ?_
      exact t_Mo_against_177 hS hd σ hk36 hk54 x0 x1 x2 x3 x4 x5 x6 x7 (.int y0) h_x0
    · refine rf_b2f c_282_127 rfl (decide_eq_false hc127) ?_
      refine rf_ald (i := 0) (Or.inr ⟨0, rfl, rfl, rfl⟩) c_282_130 rfl ?_
      refine rf_ild (i := 6) (Or.inl ⟨rfl, rfl⟩) c_282_131 rfl ?_
      refine rf_iconst c_282_133 ki_3 ?_
      refine rf_callI (as := [.ref x0, .int x6, .int (3 : Int32)]) (kd := 1) c_282_134 rfl (by decide) rfl ml_12_316 (by decide) rfl (rcv_1 hS rfl rfl h_x0 (by decide)) (Nat.zero_le _) rfl rfl (t_Mo_decisionOf hS (by omega) σ x0 x6 (3 : Int32) h_x0) (fun v134 => ?_)
      refine rf_ald (i := 0) (Or.inr ⟨0, rfl, rfl, rfl⟩) c_282_137 rfl ?_
      refine rf_ild (i := 7) (Or.inl ⟨rfl, rfl⟩) c_282_138 rfl ?_
      refine rf_iconst c_282_140 ki_3 ?_
      refine rf_callI (as := [.ref x0, .int x7, .int (3 : Int32)]) (kd := 1) c_282_141 rfl (by decide) rfl ml_12_316 (by decide) rfl (rcv_1 hS rfl rfl h_x0 (by decide)) (by simp [Value.category]) rfl rfl (t_Mo_decisionOf hS (by omega) σ x0 x7 (3 : Int32) h_x0) (fun v141 => ?_)
      refine rf_iand c_282_144 ?_
      refine rf_ite (fun hc145 => ?_) (fun hc145 => ?_)
      · refine rf_b1t c_282_145 rfl (decide_eq_true hc145) ?_
        exact t_Mo_against_177 hS hd σ hk36 hk54 x0 x1 x2 x3 x4 x5 x6 x7 (.int y0) h_x0
      · refine rf_b1f c_282_145 rfl (decide_eq_false hc145) ?_
        refine rf_ild (i := 3) (Or.inr ⟨3, rfl, rfl, rfl⟩) c_282_148 rfl ?_
        refine rf_ite (fun hc149 => ?_) (fun hc149 => ?_)
        · refine rf_b1t c_282_149 rfl (decide_eq_true hc149) ?_
          refine rf_ild (i := 4) (Or.inl ⟨rfl, rfl⟩) c_282_157 rfl ?_
          exact t_Mo_against_159 hS hd σ hk36 hk54 x0 x1 x2 x3 x5 x6 x7 x4 (.int x4) (.int y0) h_x0
        · refine rf_b1f c_282_149 rfl (decide_eq_false hc149) ?_
          refine rf_ild (i := 6) (Or.inl ⟨rfl, rfl⟩) c_282_152 rfl ?_
          refine rf_goto c_282_154 rfl ?_
          exact t_Mo_against_159 hS hd σ hk36 hk54 x0 x1 x2 x3 x5 x6 x7 x6 (.int x4) (.int y0) h_x0
def f_Mo_against_105 (σ : Mm) (k36 : Nat → Int32 → Int32 → Int32 → Int32 → Int32 → Int32 → Option (Int32)) (k54 : Nat → Int32 → Int32 → Int32 → Int32 → Int32 → Int32 → Int32 → Option (Int32)) (x0 : Nat) (x1 : Int32) (x2 : Int32) (x3 : Int32) (x4 : Int32) (x5 : Int32) (x6 : Int32) (x7 : Int32) : Option Int32 := f_Mo_against_106 σ k36 k54 x0 x1 x2 x3 x4 x5 x6 x7 (0 : Int32)
set_option maxRecDepth 100000 in
set_option maxHeartbeats 4000000 in
theorem t_Mo_against_105 {X : Xt} {S : Sh} (hS : ShOK S) {d : Nat} (hd : 2 ≤ d + 1) (σ : Mm) {k36 : Nat → Int32 → Int32 → Int32 → Int32 → Int32 → Int32 → Option (Int32)} (hk36 : ∀ (x0 : Nat) (x1 : Int32) (x2 : Int32) (x3 : Int32) (x4 : Int32) (x5 : Int32) (x6 : Int32) (u7 : Value) (u8 : Value) (h_x0 : tgT x0 = 12), Rf X S (emI σ) (k36 x0 x1 x2 x3 x4 x5 x6) (d + 1) 282 36 [.ref x0, .int x1, .int x2, .int x3, .int x4, .int x5, .int x6, u7, u8] [] σ) {k54 : Nat → Int32 → Int32 → Int32 → Int32 → Int32 → Int32 → Int32 → Option (Int32)} (hk54 : ∀ (x0 : Nat) (x1 : Int32) (x2 : Int32) (x3 : Int32) (x4 : Int32) (x5 : Int32) (x6 : Int32) (x7 : Int32) (u8 : Value) (h_x0 : tgT x0 = 12), Rf X S (emI σ) (k54 x0 x1 x2 x3 x4 x5 x6 x7) (d + 1) 282 54 [.ref x0, .int x1, .int x2, .int x3, .int x4, .int x5, .int x6, .int x7, u8] [] σ) (x0 : Nat) (x1 : Int32) (x2 : Int32) (x3 : Int32) (x4 : Int32) (x5 : Int32) (x6 : Int32) (x7 : Int32) (u8 : Value) (h_x0 : tgT x0 = 12) : Rf X S (emI σ) (f_Mo_against_105 σ k36 k54 x0 x1 x2 x3 x4 x5 x6 x7) (d + 1) 282 105 [.ref x0, .int x1, .int x2, .int x3, .int x4, .int x5, .int x6, .int x7, u8] [] σ := by
  unfold f_Mo_against_105
  refine rf_iconst c_282_105 ki_0 ?_
  exact t_Mo_against_106 hS hd σ hk36 hk54 x0 x1 x2 x3 x4 x5 x6 x7 (0 : Int32) (u8) h_x0
def f_Mo_against_54 (σ : Mm) (k36 : Nat → Int32 → Int32 → Int32 → Int32 → Int32 → Int32 → Option (Int32)) : Nat → Nat → Int32 → Int32 → Int32 → Int32 → Int32 → Int32 → Int32 → Option Int32
  | 0, _, _, _, _, _, _, _, _ => none
  | n + 1, x0, x1, x2, x3, x4, x5, x6, x7 => (if (σ (rfT x0 0) (ix (6 : Int32))) ≤ x7 then (k36 x0 x1 x2 x3 x4 x5 (x6 + (1 : Int32))) else (if ¬ ((x2 >>> (x6 &&& 31)) &&& (1 : Int32)) = (1 : Int32) then (f_Mo_against_105 σ k36 (f_Mo_against_54 σ k36 n) x0 x1 x2 x3 x4 x5 x6 x7) else (if ¬ ((x2 >>> (x7 &&& 31)) &&& (1 : Int32)) = (1 : Int32) then (f_Mo_against_105 σ k36 (f_Mo_against_54 σ k36 n) x0 x1 x2 x3 x4 x5 x6 x7) else ((f_Mo_thingOf σ x0 x6).bind fun v89 => (f_Mo_thingOf σ x0 x7).bind fun v95 => (if ¬ v89 = v95 then (f_Mo_against_105 σ k36 (f_Mo_against_54 σ k36 n) x0 x1 x2 x3 x4 x5 x6 x7) else (f_Mo_against_106 σ k36 (f_Mo_against_54 σ k36 n) x0 x1 x2 x3 x4 x5 x6 x7 (1 : Int32)))))))
set_option maxRecDepth 100000 in
set_option maxHeartbeats 4000000 in
theorem t_Mo_against_54 {X : Xt} {S : Sh} (hS : ShOK S) {d : Nat} (hd : 2 ≤ d + 1) (σ : Mm) {k36 : Nat → Int32 → Int32 → Int32 → Int32 → Int32 → Int32 → Option (Int32)} (hk36 : ∀ (x0 : Nat) (x1 : Int32) (x2 : Int32) (x3 : Int32) (x4 : Int32) (x5 : Int32) (x6 : Int32) (u7 : Value) (u8 : Value) (h_x0 : tgT x0 = 12), Rf X S (emI σ) (k36 x0 x1 x2 x3 x4 x5 x6) (d + 1) 282 36 [.ref x0, .int x1, .int x2, .int x3, .int x4, .int x5, .int x6, u7, u8] [] σ) : ∀ (n : Nat) (x0 : Nat) (x1 : Int32) (x2 : Int32) (x3 : Int32) (x4 : Int32) (x5 : Int32) (x6 : Int32) (x7 : Int32) (u8 : Value) (h_x0 : tgT x0 = 12), Rf X S (emI σ) (f_Mo_against_54 σ k36 n x0 x1 x2 x3 x4 x5 x6 x7) (d + 1) 282 54 [.ref x0, .int x1, .int x2, .int x3, .int x4, .int x5, .int x6, .int x7, u8] [] σ := by
  intro n
  induction n with
  | zero => intro x0 x1 x2 x3 x4 x5 x6 x7 u8 h_x0; exact rf_none
  | succ n ih =>
    intro x0 x1 x2 x3 x4 x5 x6 x7 u8 h_x0
    rw [f_Mo_against_54]
    refine rf_ild (i := 7) (Or.inl ⟨rfl, rfl⟩) c_282_54 rfl ?_
    refine rf_ald (i := 0) (Or.inr ⟨0, rfl, rfl, rfl⟩) c_282_56 rfl ?_
    refine rf_getr hS c_282_57 rfl fl_12_9 rfl h_x0 ?_
    refine rf_bipush c_282_60 kb_6 ?_
    refine rf_iald hS c_282_62 (tf_12_0 h_x0) (lf_12_0 h_x0) (by decide) ?_
    refine rf_ite (fun hc63 => ?_) (fun hc63 => ?_)
    · refine rf_b2t c_282_63 rfl (decide_eq_true hc63) ?_
      refine rf_iinc c_282_183 rfl ki_1 rfl ?_
      refine rf_goto c_282_186 rfl ?_
      exact hk36 x0 x1 x2 x3 x4 x5 (x6 + (1 : Int32)) (.int x7) (u8) h_x0
    · refine rf_b2f c_282_63 rfl (decide_eq_false hc63) ?_
      refine rf_ild (i := 2) (Or.inr ⟨2, rfl, rfl, rfl⟩) c_282_66 rfl ?_
      refine rf_ild (i := 6) (Or.inl ⟨rfl, rfl⟩) c_282_67 rfl ?_
      refine rf_ishr c_282_69 ?_
      refine rf_iconst c_282_70 ki_1 ?_
      refine rf_iand c_282_71 ?_
      refine rf_iconst c_282_72 ki_1 ?_
      refine rf_ite (fun hc73 => ?_) (fun hc73 => ?_)
      · refine rf_b2t c_282_73 rfl (decide_eq_true hc73) ?_
        exact t_Mo_against_105 hS hd σ hk36 ih x0 x1 x2 x3 x4 x5 x6 x7 (u8) h_x0
      · refine rf_b2f c_282_73 rfl (decide_eq_false hc73) ?_
        refine rf_ild (i := 2) (Or.inr ⟨2, rfl, rfl, rfl⟩) c_282_76 rfl ?_
        refine rf_ild (i := 7) (Or.inl ⟨rfl, rfl⟩) c_282_77 rfl ?_
        refine rf_ishr c_282_79 ?_
        refine rf_iconst c_282_80 ki_1 ?_
        refine rf_iand c_282_81 ?_
        refine rf_iconst c_282_82 ki_1 ?_
        refine rf_ite (fun hc83 => ?_) (fun hc83 => ?_)
        · refine rf_b2t c_282_83 rfl (decide_eq_true hc83) ?_
          exact t_Mo_against_105 hS hd σ hk36 ih x0 x1 x2 x3 x4 x5 x6 x7 (u8) h_x0
        · refine rf_b2f c_282_83 rfl (decide_eq_false hc83) ?_
          refine rf_ald (i := 0) (Or.inr ⟨0, rfl, rfl, rfl⟩) c_282_86 rfl ?_
          refine rf_ild (i := 6) (Or.inl ⟨rfl, rfl⟩) c_282_87 rfl ?_
          refine rf_callI (as := [.ref x0, .int x6]) (kd := 1) c_282_89 rfl (by decide) rfl ml_12_334 (by decide) rfl (rcv_1 hS rfl rfl h_x0 (by decide)) (Nat.zero_le _) rfl rfl (t_Mo_thingOf hS (by omega) σ x0 x6 h_x0) (fun v89 => ?_)
          refine rf_ald (i := 0) (Or.inr ⟨0, rfl, rfl, rfl⟩) c_282_92 rfl ?_
          refine rf_ild (i := 7) (Or.inl ⟨rfl, rfl⟩) c_282_93 rfl ?_
          refine rf_callI (as := [.ref x0, .int x7]) (kd := 1) c_282_95 rfl (by decide) rfl ml_12_334 (by decide) rfl (rcv_1 hS rfl rfl h_x0 (by decide)) (by simp [Value.category]) rfl rfl (t_Mo_thingOf hS (by omega) σ x0 x7 h_x0) (fun v95 => ?_)
          refine rf_ite (fun hc98 => ?_) (fun hc98 => ?_)
          · refine rf_b2t c_282_98 rfl (decide_eq_true hc98) ?_
            exact t_Mo_against_105 hS hd σ hk36 ih x0 x1 x2 x3 x4 x5 x6 x7 (u8) h_x0
          · refine rf_b2f c_282_98 rfl (decide_eq_false hc98) ?_
            refine rf_iconst c_282_101 ki_1 ?_
            refine rf_goto c_282_102 rfl ?_
            exact t_Mo_against_106 hS hd σ hk36 ih x0 x1 x2 x3 x4 x5 x6 x7 (1 : Int32) (u8) h_x0
def f_Mo_against_209 (σ : Mm) (y0 : Int32) : Option Int32 := some y0
set_option maxRecDepth 100000 in
set_option maxHeartbeats 4000000 in
theorem t_Mo_against_209 {X : Xt} {S : Sh} (hS : ShOK S) {d : Nat} (hd : 2 ≤ d + 1) (σ : Mm) (y0 : Int32) (u0 : Value) (u1 : Value) (u2 : Value) (u3 : Value) (u4 : Value) (u5 : Value) (u6 : Value) (u7 : Value) (u8 : Value) : Rf X S (emI σ) (f_Mo_against_209 σ y0) (d + 1) 282 209 [u0, u1, u2, u3, u4, u5, u6, u7, u8] [.int y0] σ := by
  unfold f_Mo_against_209
  exact rf_ret c_282_209 rfl rfl rfl rfl
def f_Mo_against_36 (σ : Mm) : Nat → Nat → Int32 → Int32 → Int32 → Int32 → Int32 → Int32 → Option Int32
  | 0, _, _, _, _, _, _, _ => none
  | n + 1, x0, x1, x2, x3, x4, x5, x6 => (if (σ (rfT x0 0) (ix (6 : Int32))) ≤ x6 then (if ¬ x1 = 0 then (if ¬ x1 = (1 : Int32) then (f_Mo_against_209 σ x5) else (f_Mo_against_209 σ x4)) else (f_Mo_against_209 σ x3)) else (f_Mo_against_54 σ (f_Mo_against_36 σ n) NN x0 x1 x2 x3 x4 x5 x6 (x6 + (1 : Int32))))
set_option maxRecDepth 100000 in
set_option maxHeartbeats 4000000 in
theorem t_Mo_against_36 {X : Xt} {S : Sh} (hS : ShOK S) {d : Nat} (hd : 2 ≤ d + 1) (σ : Mm) : ∀ (n : Nat) (x0 : Nat) (x1 : Int32) (x2 : Int32) (x3 : Int32) (x4 : Int32) (x5 : Int32) (x6 : Int32) (u7 : Value) (u8 : Value) (h_x0 : tgT x0 = 12), Rf X S (emI σ) (f_Mo_against_36 σ n x0 x1 x2 x3 x4 x5 x6) (d + 1) 282 36 [.ref x0, .int x1, .int x2, .int x3, .int x4, .int x5, .int x6, u7, u8] [] σ := by
  intro n
  induction n with
  | zero => intro x0 x1 x2 x3 x4 x5 x6 u7 u8 h_x0; exact rf_none
  | succ n ih =>
    intro x0 x1 x2 x3 x4 x5 x6 u7 u8 h_x0
    rw [f_Mo_against_36]
    refine rf_ild (i := 6) (Or.inl ⟨rfl, rfl⟩) c_282_36 rfl ?_
    refine rf_ald (i := 0) (Or.inr ⟨0, rfl, rfl, rfl⟩) c_282_38 rfl ?_
    refine rf_getr hS c_282_39 rfl fl_12_9 rfl h_x0 ?_
    refine rf_bipush c_282_42 kb_6 ?_
    refine rf_iald hS c_282_44 (tf_12_0 h_x0) (lf_12_0 h_x0) (by decide) ?_
    refine rf_ite (fun hc45 => ?_) (fun hc45 => ?_)
    · refine rf_b2t c_282_45 rfl (decide_eq_true hc45) ?_
      refine rf_ild (i := 1) (Or.inr ⟨1, rfl, rfl, rfl⟩) c_282_189 rfl ?_
      refine rf_ite (fun hc190 => ?_) (fun hc190 => ?_)
      · refine rf_b1t c_282_190 rfl (decide_eq_true hc190) ?_
        refine rf_ild (i := 1) (Or.inr ⟨1, rfl, rfl, rfl⟩) c_282_197 rfl ?_
        refine rf_iconst c_282_198 ki_1 ?_
        refine rf_ite (fun hc199 => ?_) (fun hc199 => ?_)
        · refine rf_b2t c_282_199 rfl (decide_eq_true hc199) ?_
          refine rf_ild (i := 5) (Or.inl ⟨rfl, rfl⟩) c_282_207 rfl ?_
          exact t_Mo_against_209 hS hd σ  x5 (.ref x0) (.int x1) (.int x2) (.int x3) (.int x4) (.int x5) (.int x6) (u7) (u8)
        · refine rf_b2f c_282_199 rfl (decide_eq_false hc199) ?_
          refine rf_ild (i := 4) (Or.inl ⟨rfl, rfl⟩) c_282_202 rfl ?_
          refine rf_goto c_282_204 rfl ?_
          exact t_Mo_against_209 hS hd σ  x4 (.ref x0) (.int x1) (.int x2) (.int x3) (.int x4) (.int x5) (.int x6) (u7) (u8)
      · refine rf_b1f c_282_190 rfl (decide_eq_false hc190) ?_
        refine rf_ild (i := 3) (Or.inr ⟨3, rfl, rfl, rfl⟩) c_282_193 rfl ?_
        refine rf_goto c_282_194 rfl ?_
        exact t_Mo_against_209 hS hd σ  x3 (.ref x0) (.int x1) (.int x2) (.int x3) (.int x4) (.int x5) (.int x6) (u7) (u8)
    · refine rf_b2f c_282_45 rfl (decide_eq_false hc45) ?_
      refine rf_ild (i := 6) (Or.inl ⟨rfl, rfl⟩) c_282_48 rfl ?_
      refine rf_iconst c_282_50 ki_1 ?_
      refine rf_iadd c_282_51 ?_
      refine rf_ist (i := 7) (Or.inl ⟨rfl, rfl⟩) c_282_52 (Nat.le_of_ble_eq_true rfl) rfl ?_
      exact t_Mo_against_54 hS hd σ ih NN x0 x1 x2 x3 x4 x5 x6 (x6 + (1 : Int32)) (u8) h_x0
def f_Mo_against (σ : Mm) (x0 : Nat) (x1 : Int32) : Option Int32 := (f_Mo_in σ x1 (0 : Int32) (2 : Int32)).bind fun v3 => (if ¬ v3 = 0 then ((f_Mo_standing σ x0 (σ (rfT x0 0) (ix (0 : Int32)))).bind fun v19 => f_Mo_against_36 σ NN x0 x1 v19 (0 : Int32) (-1000000005 : Int32) (-1000000005 : Int32) (0 : Int32)) else (some (-1000000001 : Int32)))
set_option maxRecDepth 100000 in
set_option maxHeartbeats 4000000 in
theorem t_Mo_against_e {X : Xt} {S : Sh} (hS : ShOK S) {d : Nat} (hd : 2 ≤ d + 1) (σ : Mm) (x0 : Nat) (x1 : Int32) (h_x0 : tgT x0 = 12) : Rf X S (emI σ) (f_Mo_against σ x0 x1) (d + 1) 282 0 [.ref x0, .int x1, unset0, unset0, unset0, unset0, unset0, unset0, unset0] [] σ := by
  unfold f_Mo_against
  refine rf_ild (i := 1) (Or.inr ⟨1, rfl, rfl, rfl⟩) c_282_0 rfl ?_
  refine rf_iconst c_282_1 ki_0 ?_
  refine rf_iconst c_282_2 ki_2 ?_
  refine rf_callI (as := [.int x1, .int (0 : Int32), .int (2 : Int32)]) (kd := 0) c_282_3 rfl (by decide) rfl ml_12_82 (by decide) rfl (rcv_0 rfl) (Nat.zero_le _) rfl rfl (t_Mo_in hS (by omega) σ x1 (0 : Int32) (2 : Int32)) (fun v3 => ?_)
  refine rf_ite (fun hc6 => ?_) (fun hc6 => ?_)
  · refine rf_b1t c_282_6 rfl (decide_eq_true hc6) ?_
    refine rf_ald (i := 0) (Or.inr ⟨0, rfl, rfl, rfl⟩) c_282_12 rfl ?_
    refine rf_ald (i := 0) (Or.inr ⟨0, rfl, rfl, rfl⟩) c_282_13 rfl ?_
    refine rf_getr hS c_282_14 rfl fl_12_9 rfl h_x0 ?_
    refine rf_iconst c_282_17 ki_0 ?_
    refine rf_iald hS c_282_18 (tf_12_0 h_x0) (lf_12_0 h_x0) (by decide) ?_
    refine rf_callI (as := [.ref x0, .int (σ (rfT x0 0) (ix (0 : Int32)))]) (kd := 1) c_282_19 rfl (by decide) rfl ml_12_328 (by decide) rfl (rcv_1 hS rfl rfl h_x0 (by decide)) (Nat.zero_le _) rfl rfl (t_Mo_standing hS (by omega) σ x0 (σ (rfT x0 0) (ix (0 : Int32))) h_x0) (fun v19 => ?_)
    refine rf_ist (i := 2) (Or.inr ⟨2, rfl, rfl, rfl⟩) c_282_22 (Nat.le_of_ble_eq_true rfl) rfl ?_
    refine rf_iconst c_282_23 ki_0 ?_
    refine rf_ist (i := 3) (Or.inr ⟨3, rfl, rfl, rfl⟩) c_282_24 (Nat.le_of_ble_eq_true rfl) rfl ?_
    refine rf_ldc (Or.inl ⟨rfl, rfl⟩) c_282_25 rfl kl_12_81 ?_
    refine rf_ist (i := 4) (Or.inl ⟨rfl, rfl⟩) c_282_27 (Nat.le_of_ble_eq_true rfl) rfl ?_
    refine rf_ldc (Or.inl ⟨rfl, rfl⟩) c_282_29 rfl kl_12_81 ?_
    refine rf_ist (i := 5) (Or.inl ⟨rfl, rfl⟩) c_282_31 (Nat.le_of_ble_eq_true rfl) rfl ?_
    refine rf_iconst c_282_33 ki_0 ?_
    refine rf_ist (i := 6) (Or.inl ⟨rfl, rfl⟩) c_282_34 (Nat.le_of_ble_eq_true rfl) rfl ?_
    exact t_Mo_against_36 hS hd σ  NN x0 x1 v19 (0 : Int32) (-1000000005 : Int32) (-1000000005 : Int32) (0 : Int32) (unset0) (unset0) h_x0
  · refine rf_b1f c_282_6 rfl (decide_eq_false hc6) ?_
    refine rf_ldc (Or.inl ⟨rfl, rfl⟩) c_282_9 rfl kl_12_91 ?_
    exact rf_ret c_282_11 rfl rfl rfl rfl
theorem t_Mo_against {X : Xt} {S : Sh} (hS : ShOK S) {d : Nat} (hd : 2 ≤ d) (σ : Mm) (x0 : Nat) (x1 : Int32) (h_x0 : tgT x0 = 12) : Rf X S (emI σ) (f_Mo_against σ x0 x1) d 282 0 [.ref x0, .int x1, unset0, unset0, unset0, unset0, unset0, unset0, unset0] [] σ := by
  obtain ⟨d1, rfl⟩ : ∃ d1, d = d1 + 1 := ⟨d - 1, by omega⟩
  exact t_Mo_against_e hS hd σ x0 x1 h_x0
theorem c_283_0 : cd 283 0 = some (.iload_n 1, 1) := by decide +kernel
theorem c_283_1 : cd 283 1 = some (.invokestatic 134, 3) := by decide +kernel
theorem c_283_4 : cd 283 4 = some (.ifCond .eq (19), 3) := by decide +kernel
theorem c_283_7 : cd 283 7 = some (.iload_n 2, 1) := by decide +kernel
theorem c_283_8 : cd 283 8 = some (.ldc 81, 2) := by decide +kernel
theorem c_283_10 : cd 283 10 = some (.if_icmp .eq (16), 3) := by decide +kernel
theorem c_283_13 : cd 283 13 = some (.iload_n 2, 1) := by decide +kernel
theorem c_283_14 : cd 283 14 = some (.iconst (0), 1) := by decide +kernel
theorem c_283_15 : cd 283 15 = some (.bipush (99), 2) := by decide +kernel
theorem c_283_17 : cd 283 17 = some (.invokestatic 82, 3) := by decide +kernel
theorem c_283_20 : cd 283 20 = some (.ifCond .ne (6), 3) := by decide +kernel
theorem c_283_23 : cd 283 23 = some (.ldc 91, 2) := by decide +kernel
theorem c_283_25 : cd 283 25 = some (.ireturn, 1) := by decide +kernel
theorem c_283_26 : cd 283 26 = some (.aload_n 0, 1) := by decide +kernel
theorem c_283_27 : cd 283 27 = some (.getfield 9, 3) := by decide +kernel
theorem c_283_30 : cd 283 30 = some (.sipush (5410), 3) := by decide +kernel
theorem c_283_33 : cd 283 33 = some (.iload_n 1, 1) := by decide +kernel
theorem c_283_34 : cd 283 34 = some (.iadd, 1) := by decide +kernel
theorem c_283_35 : cd 283 35 = some (.iaload, 1) := by decide +kernel
theorem c_283_36 : cd 283 36 = some (.istore_n 3, 1) := by decide +kernel
theorem c_283_37 : cd 283 37 = some (.aload_n 0, 1) := by decide +kernel
theorem c_283_38 : cd 283 38 = some (.getfield 9, 3) := by decide +kernel
theorem c_283_41 : cd 283 41 = some (.sipush (5410), 3) := by decide +kernel
theorem c_283_44 : cd 283 44 = some (.iload_n 1, 1) := by decide +kernel
theorem c_283_45 : cd 283 45 = some (.iadd, 1) := by decide +kernel
theorem c_283_46 : cd 283 46 = some (.iload_n 2, 1) := by decide +kernel
theorem c_283_47 : cd 283 47 = some (.ldc 81, 2) := by decide +kernel
theorem c_283_49 : cd 283 49 = some (.if_icmp .ne (7), 3) := by decide +kernel
theorem c_283_52 : cd 283 52 = some (.iconst (-1), 1) := by decide +kernel
theorem c_283_53 : cd 283 53 = some (.goto (4), 3) := by decide +kernel
theorem c_283_56 : cd 283 56 = some (.iload_n 2, 1) := by decide +kernel
theorem c_283_57 : cd 283 57 = some (.iastore, 1) := by decide +kernel
theorem c_283_58 : cd 283 58 = some (.iload_n 3, 1) := by decide +kernel
theorem c_283_59 : cd 283 59 = some (.invokestatic 96, 3) := by decide +kernel
theorem c_283_62 : cd 283 62 = some (.ireturn, 1) := by decide +kernel
def f_Mo_law_23 (σ : Mm) : Option (Int32 × Mm) := some ((-1000000001 : Int32), σ)
set_option maxRecDepth 100000 in
set_option maxHeartbeats 4000000 in
theorem t_Mo_law_23 {X : Xt} {S : Sh} (hS : ShOK S) {d : Nat} (hd : 2 ≤ d + 1) (u0 : Value) (u1 : Value) (u2 : Value) (u3 : Value) (σ : Mm) : Rf X S emM (f_Mo_law_23 σ) (d + 1) 283 23 [u0, u1, u2, u3] [] σ := by
  unfold f_Mo_law_23
  refine rf_ldc (Or.inl ⟨rfl, rfl⟩) c_283_23 rfl kl_12_91 ?_
  exact rf_ret c_283_25 rfl rfl rfl rfl
def f_Mo_law_57 (x3 : Int32) (y0 : Nat) (y1 : Int32) (y2 : Int32) (σ : Mm) : Option (Int32 × Mm) := if inbB y1 5528 = true then nmM (up2 σ y0 (ix y1) y2) fun σ57 => (f_Mo_orNone σ57 x3).bind fun v59 => some (v59, σ57) else none
set_option maxRecDepth 100000 in
set_option maxHeartbeats 4000000 in
theorem t_Mo_law_57 {X : Xt} {S : Sh} (hS : ShOK S) {d : Nat} (hd : 2 ≤ d + 1) (x3 : Int32) (y0 : Nat) (y1 : Int32) (y2 : Int32) (u0 : Value) (u1 : Value) (u2 : Value) (σ : Mm) (h_y0 : tgT y0 = 20) (l_y0 : lnT y0 = 5528) : Rf X S emM (f_Mo_law_57 x3 y0 y1 y2 σ) (d + 1) 283 57 [u0, u1, u2, .int x3] [.int y2, .int y1, .ref y0] σ := by
  unfold f_Mo_law_57
  refine rf_ite (fun hb57 => ?_) (fun _ => rf_none)
  refine rf_iast hS c_283_57 h_y0 l_y0 hb57 ?_
  refine rf_nm (fun σ57 => ?_)
  refine rf_ild (i := 3) (Or.inr ⟨3, rfl, rfl, rfl⟩) c_283_58 rfl ?_
  refine rf_callI (as := [.int x3]) (kd := 0) c_283_59 rfl (by decide) rfl ml_12_96 (by decide) rfl (rcv_0 rfl) (Nat.zero_le _) rfl rfl (t_Mo_orNone hS (by omega) σ57 x3) (fun v59 => ?_)
  exact rf_ret c_283_62 rfl rfl rfl rfl
def f_Mo_law_26 (x0 : Nat) (x1 : Int32) (x2 : Int32) (σ : Mm) : Option (Int32 × Mm) := if inbB ((5410 : Int32) + x1) 5528 = true then (if ¬ x2 = (-1000000005 : Int32) then (f_Mo_law_57  (σ (rfT x0 0) (ix ((5410 : Int32) + x1))) (rfT x0 0) ((5410 : Int32) + x1) x2 σ) else (f_Mo_law_57  (σ (rfT x0 0) (ix ((5410 : Int32) + x1))) (rfT x0 0) ((5410 : Int32) + x1) (-1 : Int32) σ)) else none
set_option maxRecDepth 100000 in
set_option maxHeartbeats 4000000 in
theorem t_Mo_law_26 {X : Xt} {S : Sh} (hS : ShOK S) {d : Nat} (hd : 2 ≤ d + 1) (x0 : Nat) (x1 : Int32) (x2 : Int32) (u3 : Value) (σ : Mm) (h_x0 : tgT x0 = 12) : Rf X S emM (f_Mo_law_26 x0 x1 x2 σ) (d + 1) 283 26 [.ref x0, .int x1, .int x2, u3] [] σ := by
  unfold f_Mo_law_26
  refine rf_ald (i := 0) (Or.inr ⟨0, rfl, rfl, rfl⟩) c_283_26 rfl ?_
  refine rf_getr hS c_283_27 rfl fl_12_9 rfl h_x0 ?_
  refine rf_sipush c_283_30 ks_5410 ?_
  refine rf_ild (i := 1) (Or.inr ⟨1, rfl, rfl, rfl⟩) c_283_33 rfl ?_
  refine rf_iadd c_283_34 ?_
  refine rf_ite (fun hb35 => ?_) (fun _ => rf_none)
  refine rf_iald hS c_283_35 (tf_12_0 h_x0) (lf_12_0 h_x0) hb35 ?_
  refine rf_ist (i := 3) (Or.inr ⟨3, rfl, rfl, rfl⟩) c_283_36 (Nat.le_of_ble_eq_true rfl) rfl ?_
  refine rf_ald (i := 0) (Or.inr ⟨0, rfl, rfl, rfl⟩) c_283_37 rfl ?_
  refine rf_getr hS c_283_38 rfl fl_12_9 rfl h_x0 ?_
  refine rf_sipush c_283_41 ks_5410 ?_
  refine rf_ild (i := 1) (Or.inr ⟨1, rfl, rfl, rfl⟩) c_283_44 rfl ?_
  refine rf_iadd c_283_45 ?_
  refine rf_ild (i := 2) (Or.inr ⟨2, rfl, rfl, rfl⟩) c_283_46 rfl ?_
  refine rf_ldc (Or.inl ⟨rfl, rfl⟩) c_283_47 rfl kl_12_81 ?_
  refine rf_ite (fun hc49 => ?_) (fun hc49 => ?_)
  · refine rf_b2t c_283_49 rfl (decide_eq_true hc49) ?_
    refine rf_ild (i := 2) (Or.inr ⟨2, rfl, rfl, rfl⟩) c_283_56 rfl ?_
    exact t_Mo_law_57 hS hd  (σ (rfT x0 0) (ix ((5410 : Int32) + x1))) (rfT x0 0) ((5410 : Int32) + x1) x2 (.ref x0) (.int x1) (.int x2) σ (tf_12_0 h_x0) (lf_12_0 h_x0)
  · refine rf_b2f c_283_49 rfl (decide_eq_false hc49) ?_
    refine rf_iconst c_283_52 ki_m1 ?_
    refine rf_goto c_283_53 rfl ?_
    exact t_Mo_law_57 hS hd  (σ (rfT x0 0) (ix ((5410 : Int32) + x1))) (rfT x0 0) ((5410 : Int32) + x1) (-1 : Int32) (.ref x0) (.int x1) (.int x2) σ (tf_12_0 h_x0) (lf_12_0 h_x0)
def f_Mo_law (x0 : Nat) (x1 : Int32) (x2 : Int32) (σ : Mm) : Option (Int32 × Mm) := (f_Mo_isThing σ x1).bind fun v1 => (if v1 = 0 then (f_Mo_law_23  σ) else (if x2 = (-1000000005 : Int32) then (f_Mo_law_26  x0 x1 x2 σ) else ((f_Mo_in σ x2 (0 : Int32) (99 : Int32)).bind fun v17 => (if ¬ v17 = 0 then (f_Mo_law_26  x0 x1 x2 σ) else (f_Mo_law_23  σ)))))
set_option maxRecDepth 100000 in
set_option maxHeartbeats 4000000 in
theorem t_Mo_law_e {X : Xt} {S : Sh} (hS : ShOK S) {d : Nat} (hd : 2 ≤ d + 1) (x0 : Nat) (x1 : Int32) (x2 : Int32) (σ : Mm) (h_x0 : tgT x0 = 12) : Rf X S emM (f_Mo_law x0 x1 x2 σ) (d + 1) 283 0 [.ref x0, .int x1, .int x2, unset0] [] σ := by
  unfold f_Mo_law
  refine rf_ild (i := 1) (Or.inr ⟨1, rfl, rfl, rfl⟩) c_283_0 rfl ?_
  refine rf_callI (as := [.int x1]) (kd := 0) c_283_1 rfl (by decide) rfl ml_12_134 (by decide) rfl (rcv_0 rfl) (Nat.zero_le _) rfl rfl (t_Mo_isThing hS (by omega) σ x1) (fun v1 => ?_)
  refine rf_ite (fun hc4 => ?_) (fun hc4 => ?_)
  · refine rf_b1t c_283_4 rfl (decide_eq_true hc4) ?_
    exact t_Mo_law_23 hS hd  (.ref x0) (.int x1) (.int x2) (unset0) σ
  · refine rf_b1f c_283_4 rfl (decide_eq_false hc4) ?_
    refine rf_ild (i := 2) (Or.inr ⟨2, rfl, rfl, rfl⟩) c_283_7 rfl ?_
    refine rf_ldc (Or.inl ⟨rfl, rfl⟩) c_283_8 rfl kl_12_81 ?_
    refine rf_ite (fun hc10 => ?_) (fun hc10 => ?_)
    · refine rf_b2t c_283_10 rfl (decide_eq_true hc10) ?_
      exact t_Mo_law_26 hS hd  x0 x1 x2 (unset0) σ h_x0
    · refine rf_b2f c_283_10 rfl (decide_eq_false hc10) ?_
      refine rf_ild (i := 2) (Or.inr ⟨2, rfl, rfl, rfl⟩) c_283_13 rfl ?_
      refine rf_iconst c_283_14 ki_0 ?_
      refine rf_bipush c_283_15 kb_99 ?_
      refine rf_callI (as := [.int x2, .int (0 : Int32), .int (99 : Int32)]) (kd := 0) c_283_17 rfl (by decide) rfl ml_12_82 (by decide) rfl (rcv_0 rfl) (Nat.zero_le _) rfl rfl (t_Mo_in hS (by omega) σ x2 (0 : Int32) (99 : Int32)) (fun v17 => ?_)
      refine rf_ite (fun hc20 => ?_) (fun hc20 => ?_)
      · refine rf_b1t c_283_20 rfl (decide_eq_true hc20) ?_
        exact t_Mo_law_26 hS hd  x0 x1 x2 (unset0) σ h_x0
      · refine rf_b1f c_283_20 rfl (decide_eq_false hc20) ?_
        exact t_Mo_law_23 hS hd  (.ref x0) (.int x1) (.int x2) (unset0) σ
theorem t_Mo_law {X : Xt} {S : Sh} (hS : ShOK S) {d : Nat} (hd : 2 ≤ d) (x0 : Nat) (x1 : Int32) (x2 : Int32) (σ : Mm) (h_x0 : tgT x0 = 12) : Rf X S emM (f_Mo_law x0 x1 x2 σ) d 283 0 [.ref x0, .int x1, .int x2, unset0] [] σ := by
  obtain ⟨d1, rfl⟩ : ∃ d1, d = d1 + 1 := ⟨d - 1, by omega⟩
  exact t_Mo_law_e hS hd x0 x1 x2 σ h_x0
theorem c_284_0 : cd 284 0 = some (.iload_n 1, 1) := by decide +kernel
theorem c_284_1 : cd 284 1 = some (.invokestatic 134, 3) := by decide +kernel
theorem c_284_4 : cd 284 4 = some (.ifCond .ne (6), 3) := by decide +kernel
theorem c_284_7 : cd 284 7 = some (.ldc 91, 2) := by decide +kernel
theorem c_284_9 : cd 284 9 = some (.ireturn, 1) := by decide +kernel
theorem c_284_10 : cd 284 10 = some (.aload_n 0, 1) := by decide +kernel
theorem c_284_11 : cd 284 11 = some (.iload_n 1, 1) := by decide +kernel
theorem c_284_12 : cd 284 12 = some (.aload_n 0, 1) := by decide +kernel
theorem c_284_13 : cd 284 13 = some (.getfield 9, 3) := by decide +kernel
theorem c_284_16 : cd 284 16 = some (.iconst (0), 1) := by decide +kernel
theorem c_284_17 : cd 284 17 = some (.iaload, 1) := by decide +kernel
theorem c_284_18 : cd 284 18 = some (.invokevirtual 343, 3) := by decide +kernel
theorem c_284_21 : cd 284 21 = some (.istore_n 2, 1) := by decide +kernel
theorem c_284_22 : cd 284 22 = some (.aload_n 0, 1) := by decide +kernel
theorem c_284_23 : cd 284 23 = some (.getfield 9, 3) := by decide +kernel
theorem c_284_26 : cd 284 26 = some (.sipush (5410), 3) := by decide +kernel
theorem c_284_29 : cd 284 29 = some (.iload_n 1, 1) := by decide +kernel
theorem c_284_30 : cd 284 30 = some (.iadd, 1) := by decide +kernel
theorem c_284_31 : cd 284 31 = some (.iaload, 1) := by decide +kernel
theorem c_284_32 : cd 284 32 = some (.ifCond .lt (7), 3) := by decide +kernel
theorem c_284_35 : cd 284 35 = some (.iload_n 2, 1) := by decide +kernel
theorem c_284_36 : cd 284 36 = some (.ifCond .ge (8), 3) := by decide +kernel
theorem c_284_39 : cd 284 39 = some (.ldc 81, 2) := by decide +kernel
theorem c_284_41 : cd 284 41 = some (.goto (20), 3) := by decide +kernel
theorem c_284_44 : cd 284 44 = some (.aload_n 0, 1) := by decide +kernel
theorem c_284_45 : cd 284 45 = some (.getfield 9, 3) := by decide +kernel
theorem c_284_48 : cd 284 48 = some (.sipush (5410), 3) := by decide +kernel
theorem c_284_51 : cd 284 51 = some (.iload_n 1, 1) := by decide +kernel
theorem c_284_52 : cd 284 52 = some (.iadd, 1) := by decide +kernel
theorem c_284_53 : cd 284 53 = some (.iaload, 1) := by decide +kernel
theorem c_284_54 : cd 284 54 = some (.aload_n 0, 1) := by decide +kernel
theorem c_284_55 : cd 284 55 = some (.iload_n 2, 1) := by decide +kernel
theorem c_284_56 : cd 284 56 = some (.iconst (1), 1) := by decide +kernel
theorem c_284_57 : cd 284 57 = some (.invokevirtual 316, 3) := by decide +kernel
theorem c_284_60 : cd 284 60 = some (.isub, 1) := by decide +kernel
theorem c_284_61 : cd 284 61 = some (.ireturn, 1) := by decide +kernel
def f_Mo_more_61 (σ : Mm) (y0 : Int32) : Option Int32 := some y0
set_option maxRecDepth 100000 in
set_option maxHeartbeats 4000000 in
theorem t_Mo_more_61 {X : Xt} {S : Sh} (hS : ShOK S) {d : Nat} (hd : 3 ≤ d + 1) (σ : Mm) (y0 : Int32) (u0 : Value) (u1 : Value) (u2 : Value) : Rf X S (emI σ) (f_Mo_more_61 σ y0) (d + 1) 284 61 [u0, u1, u2] [.int y0] σ := by
  unfold f_Mo_more_61
  exact rf_ret c_284_61 rfl rfl rfl rfl
def f_Mo_more_39 (σ : Mm) : Option Int32 := f_Mo_more_61 σ (-1000000005 : Int32)
set_option maxRecDepth 100000 in
set_option maxHeartbeats 4000000 in
theorem t_Mo_more_39 {X : Xt} {S : Sh} (hS : ShOK S) {d : Nat} (hd : 3 ≤ d + 1) (σ : Mm) (u0 : Value) (u1 : Value) (u2 : Value) : Rf X S (emI σ) (f_Mo_more_39 σ) (d + 1) 284 39 [u0, u1, u2] [] σ := by
  unfold f_Mo_more_39
  refine rf_ldc (Or.inl ⟨rfl, rfl⟩) c_284_39 rfl kl_12_81 ?_
  refine rf_goto c_284_41 rfl ?_
  exact t_Mo_more_61 hS hd σ  (-1000000005 : Int32) (u0) (u1) (u2)
def f_Mo_more (σ : Mm) (x0 : Nat) (x1 : Int32) : Option Int32 := (f_Mo_isThing σ x1).bind fun v1 => (if ¬ v1 = 0 then ((f_Mo_currentOf σ x0 x1 (σ (rfT x0 0) (ix (0 : Int32)))).bind fun v18 => if inbB ((5410 : Int32) + x1) 5528 = true then (if (σ (rfT x0 0) (ix ((5410 : Int32) + x1))) < 0 then (f_Mo_more_39 σ ) else (if 0 ≤ v18 then (if inbB ((5410 : Int32) + x1) 5528 = true then (f_Mo_decisionOf σ x0 v18 (1 : Int32)).bind fun v57 => f_Mo_more_61 σ ((σ (rfT x0 0) (ix ((5410 : Int32) + x1))) - v57) else none) else (f_Mo_more_39 σ ))) else none) else (some (-1000000001 : Int32)))
set_option maxRecDepth 100000 in
set_option maxHeartbeats 4000000 in
theorem t_Mo_more_e {X : Xt} {S : Sh} (hS : ShOK S) {d : Nat} (hd : 3 ≤ d + 1) (σ : Mm) (x0 : Nat) (x1 : Int32) (h_x0 : tgT x0 = 12) : Rf X S (emI σ) (f_Mo_more σ x0 x1) (d + 1) 284 0 [.ref x0, .int x1, unset0] [] σ := by
  unfold f_Mo_more
  refine rf_ild (i := 1) (Or.inr ⟨1, rfl, rfl, rfl⟩) c_284_0 rfl ?_
  refine rf_callI (as := [.int x1]) (kd := 0) c_284_1 rfl (by decide) rfl ml_12_134 (by decide) rfl (rcv_0 rfl) (Nat.zero_le _) rfl rfl (t_Mo_isThing hS (by omega) σ x1) (fun v1 => ?_)
  refine rf_ite (fun hc4 => ?_) (fun hc4 => ?_)
  · refine rf_b1t c_284_4 rfl (decide_eq_true hc4) ?_
    refine rf_ald (i := 0) (Or.inr ⟨0, rfl, rfl, rfl⟩) c_284_10 rfl ?_
    refine rf_ild (i := 1) (Or.inr ⟨1, rfl, rfl, rfl⟩) c_284_11 rfl ?_
    refine rf_ald (i := 0) (Or.inr ⟨0, rfl, rfl, rfl⟩) c_284_12 rfl ?_
    refine rf_getr hS c_284_13 rfl fl_12_9 rfl h_x0 ?_
    refine rf_iconst c_284_16 ki_0 ?_
    refine rf_iald hS c_284_17 (tf_12_0 h_x0) (lf_12_0 h_x0) (by decide) ?_
    refine rf_callI (as := [.ref x0, .int x1, .int (σ (rfT x0 0) (ix (0 : Int32)))]) (kd := 1) c_284_18 rfl (by decide) rfl ml_12_343 (by decide) rfl (rcv_1 hS rfl rfl h_x0 (by decide)) (Nat.zero_le _) rfl rfl (t_Mo_currentOf hS (by omega) σ x0 x1 (σ (rfT x0 0) (ix (0 : Int32))) h_x0) (fun v18 => ?_)
    refine rf_ist (i := 2) (Or.inr ⟨2, rfl, rfl, rfl⟩) c_284_21 (Nat.le_of_ble_eq_true rfl) rfl ?_
    refine rf_ald (i := 0) (Or.inr ⟨0, rfl, rfl, rfl⟩) c_284_22 rfl ?_
    refine rf_getr hS c_284_23 rfl fl_12_9 rfl h_x0 ?_
    refine rf_sipush c_284_26 ks_5410 ?_
    refine rf_ild (i := 1) (Or.inr ⟨1, rfl, rfl, rfl⟩) c_284_29 rfl ?_
    refine rf_iadd c_284_30 ?_
    refine rf_ite (fun hb31 => ?_) (fun _ => rf_none)
    refine rf_iald hS c_284_31 (tf_12_0 h_x0) (lf_12_0 h_x0) hb31 ?_
    refine rf_ite (fun hc32 => ?_) (fun hc32 => ?_)
    · refine rf_b1t c_284_32 rfl (decide_eq_true hc32) ?_
      exact t_Mo_more_39 hS hd σ  (.ref x0) (.int x1) (.int v18)
    · refine rf_b1f c_284_32 rfl (decide_eq_false hc32) ?_
      refine rf_ild (i := 2) (Or.inr ⟨2, rfl, rfl, rfl⟩) c_284_35 rfl ?_
      refine rf_ite (fun hc36 => ?_) (fun hc36 => ?_)
      · refine rf_b1t c_284_36 rfl (decide_eq_true hc36) ?_
        refine rf_ald (i := 0) (Or.inr ⟨0, rfl, rfl, rfl⟩) c_284_44 rfl ?_
        refine rf_getr hS c_284_45 rfl fl_12_9 rfl h_x0 ?_
        refine rf_sipush c_284_48 ks_5410 ?_
        refine rf_ild (i := 1) (Or.inr ⟨1, rfl, rfl, rfl⟩) c_284_51 rfl ?_
        refine rf_iadd c_284_52 ?_
        refine rf_ite (fun hb53 => ?_) (fun _ => rf_none)
        refine rf_iald hS c_284_53 (tf_12_0 h_x0) (lf_12_0 h_x0) hb53 ?_
        refine rf_ald (i := 0) (Or.inr ⟨0, rfl, rfl, rfl⟩) c_284_54 rfl ?_
        refine rf_ild (i := 2) (Or.inr ⟨2, rfl, rfl, rfl⟩) c_284_55 rfl ?_
        refine rf_iconst c_284_56 ki_1 ?_
        refine rf_callI (as := [.ref x0, .int v18, .int (1 : Int32)]) (kd := 1) c_284_57 rfl (by decide) rfl ml_12_316 (by decide) rfl (rcv_1 hS rfl rfl h_x0 (by decide)) (by simp [Value.category]) rfl rfl (t_Mo_decisionOf hS (by omega) σ x0 v18 (1 : Int32) h_x0) (fun v57 => ?_)
        refine rf_isub c_284_60 ?_
        exact t_Mo_more_61 hS hd σ  ((σ (rfT x0 0) (ix ((5410 : Int32) + x1))) - v57) (.ref x0) (.int x1) (.int v18)
      · refine rf_b1f c_284_36 rfl (decide_eq_false hc36) ?_
        exact t_Mo_more_39 hS hd σ  (.ref x0) (.int x1) (.int v18)
  · refine rf_b1f c_284_4 rfl (decide_eq_false hc4) ?_
    refine rf_ldc (Or.inl ⟨rfl, rfl⟩) c_284_7 rfl kl_12_91 ?_
    exact rf_ret c_284_9 rfl rfl rfl rfl
theorem t_Mo_more {X : Xt} {S : Sh} (hS : ShOK S) {d : Nat} (hd : 3 ≤ d) (σ : Mm) (x0 : Nat) (x1 : Int32) (h_x0 : tgT x0 = 12) : Rf X S (emI σ) (f_Mo_more σ x0 x1) d 284 0 [.ref x0, .int x1, unset0] [] σ := by
  obtain ⟨d1, rfl⟩ : ∃ d1, d = d1 + 1 := ⟨d - 1, by omega⟩
  exact t_Mo_more_e hS hd σ x0 x1 h_x0
theorem c_285_0 : cd 285 0 = some (.aload_n 0, 1) := by decide +kernel
theorem c_285_1 : cd 285 1 = some (.iload_n 1, 1) := by decide +kernel
theorem c_285_2 : cd 285 2 = some (.iconst (0), 1) := by decide +kernel
theorem c_285_3 : cd 285 3 = some (.invokevirtual 144, 3) := by decide +kernel
theorem c_285_6 : cd 285 6 = some (.istore_n 2, 1) := by decide +kernel
theorem c_285_7 : cd 285 7 = some (.iload_n 2, 1) := by decide +kernel
theorem c_285_8 : cd 285 8 = some (.iconst (2), 1) := by decide +kernel
theorem c_285_9 : cd 285 9 = some (.invokestatic 151, 3) := by decide +kernel
theorem c_285_12 : cd 285 12 = some (.ifCond .eq (21), 3) := by decide +kernel
theorem c_285_15 : cd 285 15 = some (.aload_n 0, 1) := by decide +kernel
theorem c_285_16 : cd 285 16 = some (.iload_n 1, 1) := by decide +kernel
theorem c_285_17 : cd 285 17 = some (.invokevirtual 156, 3) := by decide +kernel
theorem c_285_20 : cd 285 20 = some (.ifCond .eq (13), 3) := by decide +kernel
theorem c_285_23 : cd 285 23 = some (.aload_n 0, 1) := by decide +kernel
theorem c_285_24 : cd 285 24 = some (.iload_n 1, 1) := by decide +kernel
theorem c_285_25 : cd 285 25 = some (.bipush (8), 2) := by decide +kernel
theorem c_285_27 : cd 285 27 = some (.invokevirtual 144, 3) := by decide +kernel
theorem c_285_30 : cd 285 30 = some (.ifCond .eq (4), 3) := by decide +kernel
theorem c_285_33 : cd 285 33 = some (.return_, 1) := by decide +kernel
theorem c_285_34 : cd 285 34 = some (.aload_n 0, 1) := by decide +kernel
theorem c_285_35 : cd 285 35 = some (.iload_n 1, 1) := by decide +kernel
theorem c_285_36 : cd 285 36 = some (.iconst (3), 1) := by decide +kernel
theorem c_285_37 : cd 285 37 = some (.invokevirtual 301, 3) := by decide +kernel
theorem c_285_40 : cd 285 40 = some (.istore_n 3, 1) := by decide +kernel
theorem c_285_41 : cd 285 41 = some (.aload_n 0, 1) := by decide +kernel
theorem c_285_42 : cd 285 42 = some (.iload_n 1, 1) := by decide +kernel
theorem c_285_43 : cd 285 43 = some (.iconst (0), 1) := by decide +kernel
theorem c_285_44 : cd 285 44 = some (.invokevirtual 301, 3) := by decide +kernel
theorem c_285_47 : cd 285 47 = some (.istore 4, 2) := by decide +kernel
theorem c_285_49 : cd 285 49 = some (.iload_n 3, 1) := by decide +kernel
theorem c_285_50 : cd 285 50 = some (.ifCond .eq (41), 3) := by decide +kernel
theorem c_285_53 : cd 285 53 = some (.iload_n 3, 1) := by decide +kernel
theorem c_285_54 : cd 285 54 = some (.aload_n 0, 1) := by decide +kernel
theorem c_285_55 : cd 285 55 = some (.getfield 9, 3) := by decide +kernel
theorem c_285_58 : cd 285 58 = some (.iconst (0), 1) := by decide +kernel
theorem c_285_59 : cd 285 59 = some (.iaload, 1) := by decide +kernel
theorem c_285_60 : cd 285 60 = some (.aload_n 0, 1) := by decide +kernel
theorem c_285_61 : cd 285 61 = some (.iload_n 1, 1) := by decide +kernel
theorem c_285_62 : cd 285 62 = some (.iconst (5), 1) := by decide +kernel
theorem c_285_63 : cd 285 63 = some (.invokevirtual 144, 3) := by decide +kernel
theorem c_285_66 : cd 285 66 = some (.isub, 1) := by decide +kernel
theorem c_285_67 : cd 285 67 = some (.if_icmp .gt (24), 3) := by decide +kernel
theorem c_285_70 : cd 285 70 = some (.aload_n 0, 1) := by decide +kernel
theorem c_285_71 : cd 285 71 = some (.getfield 9, 3) := by decide +kernel
theorem c_285_74 : cd 285 74 = some (.bipush (6), 2) := by decide +kernel
theorem c_285_76 : cd 285 76 = some (.iaload, 1) := by decide +kernel
theorem c_285_77 : cd 285 77 = some (.bipush (24), 2) := by decide +kernel
theorem c_285_79 : cd 285 79 = some (.if_icmp .eq (12), 3) := by decide +kernel
theorem c_285_82 : cd 285 82 = some (.aload_n 0, 1) := by decide +kernel
theorem c_285_83 : cd 285 83 = some (.iload 4, 2) := by decide +kernel
theorem c_285_85 : cd 285 85 = some (.invokevirtual 103, 3) := by decide +kernel
theorem c_285_88 : cd 285 88 = some (.ifCond .ne (4), 3) := by decide +kernel
theorem c_285_91 : cd 285 91 = some (.return_, 1) := by decide +kernel
theorem c_285_92 : cd 285 92 = some (.aload_n 0, 1) := by decide +kernel
theorem c_285_93 : cd 285 93 = some (.iload_n 1, 1) := by decide +kernel
theorem c_285_94 : cd 285 94 = some (.iload 4, 2) := by decide +kernel
theorem c_285_96 : cd 285 96 = some (.iconst (-1), 1) := by decide +kernel
theorem c_285_97 : cd 285 97 = some (.iconst (1), 1) := by decide +kernel
theorem c_285_98 : cd 285 98 = some (.invokevirtual 313, 3) := by decide +kernel
theorem c_285_101 : cd 285 101 = some (.aload_n 0, 1) := by decide +kernel
theorem c_285_102 : cd 285 102 = some (.iload_n 1, 1) := by decide +kernel
theorem c_285_103 : cd 285 103 = some (.aload_n 0, 1) := by decide +kernel
theorem c_285_104 : cd 285 104 = some (.iload_n 1, 1) := by decide +kernel
theorem c_285_105 : cd 285 105 = some (.iconst (4), 1) := by decide +kernel
theorem c_285_106 : cd 285 106 = some (.invokevirtual 144, 3) := by decide +kernel
theorem c_285_109 : cd 285 109 = some (.iconst (0), 1) := by decide +kernel
theorem c_285_110 : cd 285 110 = some (.invokevirtual 325, 3) := by decide +kernel
theorem c_285_113 : cd 285 113 = some (.istore 5, 2) := by decide +kernel
theorem c_285_115 : cd 285 115 = some (.return_, 1) := by decide +kernel
def f_Mo_isSilent_33 (σ : Mm) : Option Mm := some σ
set_option maxRecDepth 100000 in
set_option maxHeartbeats 4000000 in
theorem t_Mo_isSilent_33 {X : Xt} {S : Sh} (hS : ShOK S) {d : Nat} (hd : 8 ≤ d + 1) (u0 : Value) (u1 : Value) (u2 : Value) (u3 : Value) (u4 : Value) (u5 : Value) (σ : Mm) : Rf X S emV (f_Mo_isSilent_33 σ) (d + 1) 285 33 [u0, u1, u2, u3, u4, u5] [] σ := by
  unfold f_Mo_isSilent_33
  exact rf_vret c_285_33 rfl rfl
def f_Mo_isSilent_91 (σ : Mm) : Option Mm := some σ
set_option maxRecDepth 100000 in
set_option maxHeartbeats 4000000 in
theorem t_Mo_isSilent_91 {X : Xt} {S : Sh} (hS : ShOK S) {d : Nat} (hd : 8 ≤ d + 1) (u0 : Value) (u1 : Value) (u2 : Value) (u3 : Value) (u4 : Value) (u5 : Value) (σ : Mm) : Rf X S emV (f_Mo_isSilent_91 σ) (d + 1) 285 91 [u0, u1, u2, u3, u4, u5] [] σ := by
  unfold f_Mo_isSilent_91
  exact rf_vret c_285_91 rfl rfl
def f_Mo_isSilent (x0 : Nat) (x1 : Int32) (σ : Mm) : Option Mm := (f_Mo_paperOf σ x0 x1 (0 : Int32)).bind fun v3 => (f_Mo_isUnder σ v3 (2 : Int32)).bind fun v9 => (if v9 = 0 then (f_Mo_isSilent_33  σ) else ((f_Mo_isUnderWay σ x0 x1).bind fun v17 => (if v17 = 0 then (f_Mo_isSilent_33  σ) else ((f_Mo_paperOf σ x0 x1 (8 : Int32)).bind fun v27 => (if v27 = 0 then ((f_Mo_dueOf x0 x1 (3 : Int32) σ).bind fun v37 => (f_Mo_dueOf x0 x1 (0 : Int32) v37.2).bind fun v44 => (if v37.1 = 0 then (f_Mo_isSilent_91  v44.2) else ((f_Mo_paperOf v44.2 x0 x1 (5 : Int32)).bind fun v63 => (if ((v44.2 (rfT x0 0) (ix (0 : Int32))) - v63) < v37.1 then (f_Mo_isSilent_91  v44.2) else (if (v44.2 (rfT x0 0) (ix (6 : Int32))) = (24 : Int32) then (f_Mo_isSilent_91  v44.2) else ((f_Mo_isTable v44.2 x0 v44.1).bind fun v85 => (if ¬ v85 = 0 then ((f_Mo_comesTo x0 x1 v44.1 (-1 : Int32) (1 : Int32) v44.2).bind fun v98 => (f_Mo_paperOf v98 x0 x1 (4 : Int32)).bind fun v106 => (f_Mo_decides x0 x1 v106 (0 : Int32) v98).bind fun v110 => some v110.2) else (f_Mo_isSilent_91  v44.2)))))))) else (f_Mo_isSilent_33  σ))))))
set_option maxRecDepth 100000 in
set_option maxHeartbeats 4000000 in
theorem t_Mo_isSilent_e {X : Xt} {S : Sh} (hS : ShOK S) {d : Nat} (hd : 8 ≤ d + 1) (x0 : Nat) (x1 : Int32) (σ : Mm) (h_x0 : tgT x0 = 12) : Rf X S emV (f_Mo_isSilent x0 x1 σ) (d + 1) 285 0 [.ref x0, .int x1, unset0, unset0, unset0, unset0] [] σ := by
  unfold f_Mo_isSilent
  refine rf_ald (i := 0) (Or.inr ⟨0, rfl, rfl, rfl⟩) c_285_0 rfl ?_
  refine rf_ild (i := 1) (Or.inr ⟨1, rfl, rfl, rfl⟩) c_285_1 rfl ?_
  refine rf_iconst c_285_2 ki_0 ?_
  refine rf_callI (as := [.ref x0, .int x1, .int (0 : Int32)]) (kd := 1) c_285_3 rfl (by decide) rfl ml_12_144 (by decide) rfl (rcv_1 hS rfl rfl h_x0 (by decide)) (Nat.zero_le _) rfl rfl (t_Mo_paperOf hS (by omega) σ x0 x1 (0 : Int32) h_x0) (fun v3 => ?_)
  refine rf_ist (i := 2) (Or.inr ⟨2, rfl, rfl, rfl⟩) c_285_6 (Nat.le_of_ble_eq_true rfl) rfl ?_
  refine rf_ild (i := 2) (Or.inr ⟨2, rfl, rfl, rfl⟩) c_285_7 rfl ?_
  refine rf_iconst c_285_8 ki_2 ?_
  refine rf_callI (as := [.int v3, .int (2 : Int32)]) (kd := 0) c_285_9 rfl (by decide) rfl ml_12_151 (by decide) rfl (rcv_0 rfl) (Nat.zero_le _) rfl rfl (t_Mo_isUnder hS (by omega) σ v3 (2 : Int32)) (fun v9 => ?_)
  refine rf_ite (fun hc12 => ?_) (fun hc12 => ?_)
  · refine rf_b1t c_285_12 rfl (decide_eq_true hc12) ?_
    exact t_Mo_isSilent_33 hS hd  (.ref x0) (.int x1) (.int v3) (unset0) (unset0) (unset0) σ
  · refine rf_b1f c_285_12 rfl (decide_eq_false hc12) ?_
    refine rf_ald (i := 0) (Or.inr ⟨0, rfl, rfl, rfl⟩) c_285_15 rfl ?_
    refine rf_ild (i := 1) (Or.inr ⟨1, rfl, rfl, rfl⟩) c_285_16 rfl ?_
    refine rf_callI (as := [.ref x0, .int x1]) (kd := 1) c_285_17 rfl (by decide) rfl ml_12_156 (by decide) rfl (rcv_1 hS rfl rfl h_x0 (by decide)) (Nat.zero_le _) rfl rfl (t_Mo_isUnderWay hS (by omega) σ x0 x1 h_x0) (fun v17 => ?_)
    refine rf_ite (fun hc20 => ?_) (fun hc20 => ?_)
    · refine rf_b1t c_285_20 rfl (decide_eq_true hc20) ?_
      exact t_Mo_isSilent_33 hS hd  (.ref x0) (.int x1) (.int v3) (unset0) (unset0) (unset0) σ
    · refine rf_b1f c_285_20 rfl (decide_eq_false hc20) ?_
      refine rf_ald (i := 0) (Or.inr ⟨0, rfl, rfl, rfl⟩) c_285_23 rfl ?_
      refine rf_ild (i := 1) (Or.inr ⟨1, rfl, rfl, rfl⟩) c_285_24 rfl ?_
      refine rf_bipush c_285_25 kb_8 ?_
      refine rf_callI (as := [.ref x0, .int x1, .int (8 : Int32)]) (kd := 1) c_285_27 rfl (by decide) rfl ml_12_144 (by decide) rfl (rcv_1 hS rfl rfl h_x0 (by decide)) (Nat.zero_le _) rfl rfl (t_Mo_paperOf hS (by omega) σ x0 x1 (8 : Int32) h_x0) (fun v27 => ?_)
      refine rf_ite (fun hc30 => ?_) (fun hc30 => ?_)
      · refine rf_b1t c_285_30 rfl (decide_eq_true hc30) ?_
        refine rf_ald (i := 0) (Or.inr ⟨0, rfl, rfl, rfl⟩) c_285_34 rfl ?_
        refine rf_ild (i := 1) (Or.inr ⟨1, rfl, rfl, rfl⟩) c_285_35 rfl ?_
        refine rf_iconst c_285_36 ki_3 ?_
        refine rf_callM (as := [.ref x0, .int x1, .int (3 : Int32)]) (kd := 1) c_285_37 rfl (by decide) rfl ml_12_301 (by decide) rfl (rcv_1 hS rfl rfl h_x0 (by decide)) (Nat.zero_le _) rfl rfl (t_Mo_dueOf hS (by omega) x0 x1 (3 : Int32) σ h_x0) (fun v37 => ?_)
        refine rf_ist (i := 3) (Or.inr ⟨3, rfl, rfl, rfl⟩) c_285_40 (Nat.le_of_ble_eq_true rfl) rfl ?_
        refine rf_ald (i := 0) (Or.inr ⟨0, rfl, rfl, rfl⟩) c_285_41 rfl ?_
        refine rf_ild (i := 1) (Or.inr ⟨1, rfl, rfl, rfl⟩) c_285_42 rfl ?_
        refine rf_iconst c_285_43 ki_0 ?_
        refine rf_callM (as := [.ref x0, .int x1, .int (0 : Int32)]) (kd := 1) c_285_44 rfl (by decide) rfl ml_12_301 (by decide) rfl (rcv_1 hS rfl rfl h_x0 (by decide)) (Nat.zero_le _) rfl rfl (t_Mo_dueOf hS (by omega) x0 x1 (0 : Int32) v37.2 h_x0) (fun v44 => ?_)
        refine rf_ist (i := 4) (Or.inl ⟨rfl, rfl⟩) c_285_47 (Nat.le_of_ble_eq_true rfl) rfl ?_
        refine rf_ild (i := 3) (Or.inr ⟨3, rfl, rfl, rfl⟩) c_285_49 rfl ?_
        refine rf_ite (fun hc50 => ?_) (fun hc50 => ?_)
        · refine rf_b1t c_285_50 rfl (decide_eq_true hc50) ?_
          exact t_Mo_isSilent_91 hS hd  (.ref x0) (.int x1) (.int v3) (.int v37.1) (.int v44.1) (unset0) v44.2
        · refine rf_b1f c_285_50 rfl (decide_eq_false hc50) ?_
          refine rf_ild (i := 3) (Or.inr ⟨3, rfl, rfl, rfl⟩) c_285_53 rfl ?_
          refine rf_ald (i := 0) (Or.inr ⟨0, rfl, rfl, rfl⟩) c_285_54 rfl ?_
          refine rf_getr hS c_285_55 rfl fl_12_9 rfl h_x0 ?_
          refine rf_iconst c_285_58 ki_0 ?_
          refine rf_iald hS c_285_59 (tf_12_0 h_x0) (lf_12_0 h_x0) (by decide) ?_
          refine rf_ald (i := 0) (Or.inr ⟨0, rfl, rfl, rfl⟩) c_285_60 rfl ?_
          refine rf_ild (i := 1) (Or.inr ⟨1, rfl, rfl, rfl⟩) c_285_61 rfl ?_
          refine rf_iconst c_285_62 ki_5 ?_
          refine rf_callI (as := [.ref x0, .int x1, .int (5 : Int32)]) (kd := 1) c_285_63 rfl (by decide) rfl ml_12_144 (by decide) rfl (rcv_1 hS rfl rfl h_x0 (by decide)) (by simp [Value.category]) rfl rfl (t_Mo_paperOf hS (by omega) v44.2 x0 x1 (5 : Int32) h_x0) (fun v63 => ?_)
          refine rf_isub c_285_66 ?_
          refine rf_ite (fun hc67 => ?_) (fun hc67 => ?_)
          · refine rf_b2t c_285_67 rfl (decide_eq_true hc67) ?_
            exact t_Mo_isSilent_91 hS hd  (.ref x0) (.int x1) (.int v3) (.int v37.1) (.int v44.1) (unset0) v44.2
          · refine rf_b2f c_285_67 rfl (decide_eq_false hc67) ?_
            refine rf_ald (i := 0) (Or.inr ⟨0, rfl, rfl, rfl⟩) c_285_70 rfl ?_
            refine rf_getr hS c_285_71 rfl fl_12_9 rfl h_x0 ?_
            refine rf_bipush c_285_74 kb_6 ?_
            refine rf_iald hS c_285_76 (tf_12_0 h_x0) (lf_12_0 h_x0) (by decide) ?_
            refine rf_bipush c_285_77 kb_24 ?_
            refine rf_ite (fun hc79 => ?_) (fun hc79 => ?_)
            · refine rf_b2t c_285_79 rfl (decide_eq_true hc79) ?_
              exact t_Mo_isSilent_91 hS hd  (.ref x0) (.int x1) (.int v3) (.int v37.1) (.int v44.1) (unset0) v44.2
            · refine rf_b2f c_285_79 rfl (decide_eq_false hc79) ?_
              refine rf_ald (i := 0) (Or.inr ⟨0, rfl, rfl, rfl⟩) c_285_82 rfl ?_
              refine rf_ild (i := 4) (Or.inl ⟨rfl, rfl⟩) c_285_83 rfl ?_
              refine rf_callI (as := [.ref x0, .int v44.1]) (kd := 1) c_285_85 rfl (by decide) rfl ml_12_103 (by decide) rfl (rcv_1 hS rfl rfl h_x0 (by decide)) (Nat.zero_le _) rfl rfl (t_Mo_isTable hS (by omega) v44.2 x0 v44.1 h_x0) (fun v85 => ?_)
              refine rf_ite (fun hc88 => ?_) (fun hc88 => ?_)
              · refine rf_b1t c_285_88 rfl (decide_eq_true hc88) ?_
                refine rf_ald (i := 0) (Or.inr ⟨0, rfl, rfl, rfl⟩) c_285_92 rfl ?_
                refine rf_ild (i := 1) (Or.inr ⟨1, rfl, rfl, rfl⟩) c_285_93 rfl ?_
                refine rf_ild (i := 4) (Or.inl ⟨rfl, rfl⟩) c_285_94 rfl ?_
                refine rf_iconst c_285_96 ki_m1 ?_
                refine rf_iconst c_285_97 ki_1 ?_
                refine rf_callV (as := [.ref x0, .int x1, .int v44.1, .int (-1 : Int32), .int (1 : Int32)]) (kd := 1) c_285_98 rfl (by decide) rfl ml_12_313 (by decide) rfl (rcv_1 hS rfl rfl h_x0 (by decide)) (Nat.zero_le _) rfl rfl (t_Mo_comesTo hS (by omega) x0 x1 v44.1 (-1 : Int32) (1 : Int32) v44.2 h_x0) (fun v98 => ?_)
                refine rf_ald (i := 0) (Or.inr ⟨0, rfl, rfl, rfl⟩) c_285_101 rfl ?_
                refine rf_ild (i := 1) (Or.inr ⟨1, rfl, rfl, rfl⟩) c_285_102 rfl ?_
                refine rf_ald (i := 0) (Or.inr ⟨0, rfl, rfl, rfl⟩) c_285_103 rfl ?_
                refine rf_ild (i := 1) (Or.inr ⟨1, rfl, rfl, rfl⟩) c_285_104 rfl ?_
                refine rf_iconst c_285_105 ki_4 ?_
                refine rf_callI (as := [.ref x0, .int x1, .int (4 : Int32)]) (kd := 1) c_285_106 rfl (by decide) rfl ml_12_144 (by decide) rfl (rcv_1 hS rfl rfl h_x0 (by decide)) (by simp [Value.category]) rfl rfl (t_Mo_paperOf hS (by omega) v98 x0 x1 (4 : Int32) h_x0) (fun v106 => ?_)
                refine rf_iconst c_285_109 ki_0 ?_
                refine rf_callM (as := [.ref x0, .int x1, .int v106, .int (0 : Int32)]) (kd := 1) c_285_110 rfl (by decide) rfl ml_12_325 (by decide) rfl (rcv_1 hS rfl rfl h_x0 (by decide)) (Nat.zero_le _) rfl rfl (t_Mo_decides hS (by omega) x0 x1 v106 (0 : Int32) v98 h_x0) (fun v110 => ?_)
                refine rf_ist (i := 5) (Or.inl ⟨rfl, rfl⟩) c_285_113 (Nat.le_of_ble_eq_true rfl) rfl ?_
                exact rf_vret c_285_115 rfl rfl
              · refine rf_b1f c_285_88 rfl (decide_eq_false hc88) ?_
                exact t_Mo_isSilent_91 hS hd  (.ref x0) (.int x1) (.int v3) (.int v37.1) (.int v44.1) (unset0) v44.2
      · refine rf_b1f c_285_30 rfl (decide_eq_false hc30) ?_
        exact t_Mo_isSilent_33 hS hd  (.ref x0) (.int x1) (.int v3) (unset0) (unset0) (unset0) σ
theorem t_Mo_isSilent {X : Xt} {S : Sh} (hS : ShOK S) {d : Nat} (hd : 8 ≤ d) (x0 : Nat) (x1 : Int32) (σ : Mm) (h_x0 : tgT x0 = 12) : Rf X S emV (f_Mo_isSilent x0 x1 σ) d 285 0 [.ref x0, .int x1, unset0, unset0, unset0, unset0] [] σ := by
  obtain ⟨d1, rfl⟩ : ∃ d1, d = d1 + 1 := ⟨d - 1, by omega⟩
  exact t_Mo_isSilent_e hS hd x0 x1 σ h_x0
theorem c_286_0 : cd 286 0 = some (.iconst (0), 1) := by decide +kernel
theorem c_286_1 : cd 286 1 = some (.istore_n 1, 1) := by decide +kernel
theorem c_286_2 : cd 286 2 = some (.iload_n 1, 1) := by decide +kernel
theorem c_286_3 : cd 286 3 = some (.aload_n 0, 1) := by decide +kernel
theorem c_286_4 : cd 286 4 = some (.getfield 9, 3) := by decide +kernel
theorem c_286_7 : cd 286 7 = some (.iconst (4), 1) := by decide +kernel
theorem c_286_8 : cd 286 8 = some (.iaload, 1) := by decide +kernel
theorem c_286_9 : cd 286 9 = some (.if_icmp .ge (14), 3) := by decide +kernel
theorem c_286_12 : cd 286 12 = some (.aload_n 0, 1) := by decide +kernel
theorem c_286_13 : cd 286 13 = some (.iload_n 1, 1) := by decide +kernel
theorem c_286_14 : cd 286 14 = some (.invokevirtual 346, 3) := by decide +kernel
theorem c_286_17 : cd 286 17 = some (.iinc 1 (1), 3) := by decide +kernel
theorem c_286_20 : cd 286 20 = some (.goto (-18), 3) := by decide +kernel
theorem c_286_23 : cd 286 23 = some (.aload_n 0, 1) := by decide +kernel
theorem c_286_24 : cd 286 24 = some (.getfield 9, 3) := by decide +kernel
theorem c_286_27 : cd 286 27 = some (.iconst (0), 1) := by decide +kernel
theorem c_286_28 : cd 286 28 = some (.dup2, 1) := by decide +kernel
theorem c_286_29 : cd 286 29 = some (.iaload, 1) := by decide +kernel
theorem c_286_30 : cd 286 30 = some (.iconst (1), 1) := by decide +kernel
theorem c_286_31 : cd 286 31 = some (.iadd, 1) := by decide +kernel
theorem c_286_32 : cd 286 32 = some (.iastore, 1) := by decide +kernel
theorem c_286_33 : cd 286 33 = some (.return_, 1) := by decide +kernel
def f_Mo_goesBy_2 : Nat → Nat → Int32 → Mm → Option Mm
  | 0, _, _, _ => none
  | n + 1, x0, x1, σ => (if (σ (rfT x0 0) (ix (4 : Int32))) ≤ x1 then (nmM (up2 σ (rfT x0 0) (ix (0 : Int32)) ((σ (rfT x0 0) (ix (0 : Int32))) + (1 : Int32))) fun σ32 => some σ32) else ((f_Mo_isSilent x0 x1 σ).bind fun v14 => f_Mo_goesBy_2  n x0 (x1 + (1 : Int32)) v14))
set_option maxRecDepth 100000 in
set_option maxHeartbeats 4000000 in
theorem t_Mo_goesBy_2 {X : Xt} {S : Sh} (hS : ShOK S) {d : Nat} (hd : 9 ≤ d + 1) : ∀ (n : Nat) (x0 : Nat) (x1 : Int32) (σ : Mm) (h_x0 : tgT x0 = 12), Rf X S emV (f_Mo_goesBy_2 n x0 x1 σ) (d + 1) 286 2 [.ref x0, .int x1] [] σ := by
  intro n
  induction n with
  | zero => intro x0 x1 σ h_x0; exact rf_none
  | succ n ih =>
    intro x0 x1 σ h_x0
    rw [f_Mo_goesBy_2]
    refine rf_ild (i := 1) (Or.inr ⟨1, rfl, rfl, rfl⟩) c_286_2 rfl ?_
    refine rf_ald (i := 0) (Or.inr ⟨0, rfl, rfl, rfl⟩) c_286_3 rfl ?_
    refine rf_getr hS c_286_4 rfl fl_12_9 rfl h_x0 ?_
    refine rf_iconst c_286_7 ki_4 ?_
    refine rf_iald hS c_286_8 (tf_12_0 h_x0) (lf_12_0 h_x0) (by decide) ?_
    refine rf_ite (fun hc9 => ?_) (fun hc9 => ?_)
    · refine rf_b2t c_286_9 rfl (decide_eq_true hc9) ?_
      refine rf_ald (i := 0) (Or.inr ⟨0, rfl, rfl, rfl⟩) c_286_23 rfl ?_
      refine rf_getr hS c_286_24 rfl fl_12_9 rfl h_x0 ?_
      refine rf_iconst c_286_27 ki_0 ?_
      refine rf_dup2 c_286_28 rfl rfl ?_
      refine rf_iald hS c_286_29 (tf_12_0 h_x0) (lf_12_0 h_x0) (by decide) ?_
      refine rf_iconst c_286_30 ki_1 ?_
      refine rf_iadd c_286_31 ?_
      refine rf_iast hS c_286_32 (tf_12_0 h_x0) (lf_12_0 h_x0) (by decide) ?_
      refine rf_nm (fun σ32 => ?_)
      exact rf_vret c_286_33 rfl rfl
    · refine rf_b2f c_286_9 rfl (decide_eq_false hc9) ?_
      refine rf_ald (i := 0) (Or.inr ⟨0, rfl, rfl, rfl⟩) c_286_12 rfl ?_
      refine rf_ild (i := 1) (Or.inr ⟨1, rfl, rfl, rfl⟩) c_286_13 rfl ?_
      refine rf_callV (as := [.ref x0, .int x1]) (kd := 1) c_286_14 rfl (by decide) rfl ml_12_346 (by decide) rfl (rcv_1 hS rfl rfl h_x0 (by decide)) (Nat.zero_le _) rfl rfl (t_Mo_isSilent hS (by omega) x0 x1 σ h_x0) (fun v14 => ?_)
      refine rf_iinc c_286_17 rfl ki_1 rfl ?_
      refine rf_goto c_286_20 rfl ?_
      exact ih x0 (x1 + (1 : Int32)) v14 h_x0
def f_Mo_goesBy (x0 : Nat) (σ : Mm) : Option Mm := f_Mo_goesBy_2  NN x0 (0 : Int32) σ
set_option maxRecDepth 100000 in
set_option maxHeartbeats 4000000 in
theorem t_Mo_goesBy_e {X : Xt} {S : Sh} (hS : ShOK S) {d : Nat} (hd : 9 ≤ d + 1) (x0 : Nat) (σ : Mm) (h_x0 : tgT x0 = 12) : Rf X S emV (f_Mo_goesBy x0 σ) (d + 1) 286 0 [.ref x0, unset0] [] σ := by
  unfold f_Mo_goesBy
  refine rf_iconst c_286_0 ki_0 ?_
  refine rf_ist (i := 1) (Or.inr ⟨1, rfl, rfl, rfl⟩) c_286_1 (Nat.le_of_ble_eq_true rfl) rfl ?_
  exact t_Mo_goesBy_2 hS hd  NN x0 (0 : Int32) σ h_x0
theorem t_Mo_goesBy {X : Xt} {S : Sh} (hS : ShOK S) {d : Nat} (hd : 9 ≤ d) (x0 : Nat) (σ : Mm) (h_x0 : tgT x0 = 12) : Rf X S emV (f_Mo_goesBy x0 σ) d 286 0 [.ref x0, unset0] [] σ := by
  obtain ⟨d1, rfl⟩ : ∃ d1, d = d1 + 1 := ⟨d - 1, by omega⟩
  exact t_Mo_goesBy_e hS hd x0 σ h_x0
