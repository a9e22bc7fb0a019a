/-! methods: Mo_run Mo_beside Mo_copyOf Mo_copy Mo_comesBack Mo_out Mo_markAt Mo_suspectOf Mo_isPrinted Mo_suspect Mo_alikeAt Mo_look Mo_hasCopy Mo_knows Mo_openNow Mo_open Mo_group Mo_reckoned Mo_isRegister Mo_register Mo_note Mo_carry -/
theorem c_287_0 : cd 287 0 = some (.iload_n 1, 1) := by decide +kernel
theorem c_287_1 : cd 287 1 = some (.iconst (1), 1) := by decide +kernel
theorem c_287_2 : cd 287 2 = some (.bipush (60), 2) := by decide +kernel
theorem c_287_4 : cd 287 4 = some (.invokestatic 82, 3) := by decide +kernel
theorem c_287_7 : cd 287 7 = some (.ifCond .ne (6), 3) := by decide +kernel
theorem c_287_10 : cd 287 10 = some (.ldc 91, 2) := by decide +kernel
theorem c_287_12 : cd 287 12 = some (.ireturn, 1) := by decide +kernel
theorem c_287_13 : cd 287 13 = some (.aload_n 0, 1) := by decide +kernel
theorem c_287_14 : cd 287 14 = some (.getfield 9, 3) := by decide +kernel
theorem c_287_17 : cd 287 17 = some (.iconst (0), 1) := by decide +kernel
theorem c_287_18 : cd 287 18 = some (.iaload, 1) := by decide +kernel
theorem c_287_19 : cd 287 19 = some (.iload_n 1, 1) := by decide +kernel
theorem c_287_20 : cd 287 20 = some (.iadd, 1) := by decide +kernel
theorem c_287_21 : cd 287 21 = some (.sipush (999), 3) := by decide +kernel
theorem c_287_24 : cd 287 24 = some (.if_icmp .le (6), 3) := by decide +kernel
theorem c_287_27 : cd 287 27 = some (.ldc 86, 2) := by decide +kernel
theorem c_287_29 : cd 287 29 = some (.ireturn, 1) := by decide +kernel
theorem c_287_30 : cd 287 30 = some (.iconst (0), 1) := by decide +kernel
theorem c_287_31 : cd 287 31 = some (.istore_n 2, 1) := by decide +kernel
theorem c_287_32 : cd 287 32 = some (.iload_n 2, 1) := by decide +kernel
theorem c_287_33 : cd 287 33 = some (.iload_n 1, 1) := by decide +kernel
theorem c_287_34 : cd 287 34 = some (.if_icmp .ge (13), 3) := by decide +kernel
theorem c_287_37 : cd 287 37 = some (.aload_n 0, 1) := by decide +kernel
theorem c_287_38 : cd 287 38 = some (.invokevirtual 349, 3) := by decide +kernel
theorem c_287_41 : cd 287 41 = some (.iinc 2 (1), 3) := by decide +kernel
theorem c_287_44 : cd 287 44 = some (.goto (-12), 3) := by decide +kernel
theorem c_287_47 : cd 287 47 = some (.aload_n 0, 1) := by decide +kernel
theorem c_287_48 : cd 287 48 = some (.getfield 9, 3) := by decide +kernel
theorem c_287_51 : cd 287 51 = some (.iconst (0), 1) := by decide +kernel
theorem c_287_52 : cd 287 52 = some (.iaload, 1) := by decide +kernel
theorem c_287_53 : cd 287 53 = some (.ireturn, 1) := by decide +kernel
def f_Mo_run_32 : Nat → Nat → Int32 → Int32 → Mm → Option (Int32 × Mm)
  | 0, _, _, _, _ => none
  | n + 1, x0, x1, x2, σ => (if x1 ≤ x2 then (some ((σ (rfT x0 0) (ix (0 : Int32))), σ)) else ((f_Mo_goesBy x0 σ).bind fun v38 => f_Mo_run_32  n x0 x1 (x2 + (1 : Int32)) v38))
set_option maxRecDepth 100000 in
set_option maxHeartbeats 4000000 in
theorem t_Mo_run_32 {X : Xt} {S : Sh} (hS : ShOK S) {d : Nat} (hd : 10 ≤ d + 1) : ∀ (n : Nat) (x0 : Nat) (x1 : Int32) (x2 : Int32) (σ : Mm) (h_x0 : tgT x0 = 12), Rf X S emM (f_Mo_run_32 n x0 x1 x2 σ) (d + 1) 287 32 [.ref x0, .int x1, .int x2] [] σ := by
  intro n
  induction n with
  | zero => intro x0 x1 x2 σ h_x0; exact rf_none
  | succ n ih =>
    intro x0 x1 x2 σ h_x0
    rw [f_Mo_run_32]
    refine rf_ild (i := 2) (Or.inr ⟨2, rfl, rfl, rfl⟩) c_287_32 rfl ?_
    refine rf_ild (i := 1) (Or.inr ⟨1, rfl, rfl, rfl⟩) c_287_33 rfl ?_
    refine rf_ite (fun hc34 => ?_) (fun hc34 => ?_)
    · refine rf_b2t c_287_34 rfl (decide_eq_true hc34) ?_
      refine rf_ald (i := 0) (Or.inr ⟨0, rfl, rfl, rfl⟩) c_287_47 rfl ?_
      refine rf_getr hS c_287_48 rfl fl_12_9 rfl h_x0 ?_
      refine rf_iconst c_287_51 ki_0 ?_
      refine rf_iald hS c_287_52 (tf_12_0 h_x0) (lf_12_0 h_x0) (by decide) ?_
      exact rf_ret c_287_53 rfl rfl rfl rfl
    · refine rf_b2f c_287_34 rfl (decide_eq_false hc34) ?_
      refine rf_ald (i := 0) (Or.inr ⟨0, rfl, rfl, rfl⟩) c_287_37 rfl ?_
      refine rf_callV (as := [.ref x0]) (kd := 1) c_287_38 rfl (by decide) rfl ml_12_349 (by decide) rfl (rcv_1 hS rfl rfl h_x0 (by decide)) (Nat.zero_le _) rfl rfl (t_Mo_goesBy hS (by omega) x0 σ h_x0) (fun v38 => ?_)
      refine rf_iinc c_287_41 rfl ki_1 rfl ?_
      refine rf_goto c_287_44 rfl ?_
      exact ih x0 x1 (x2 + (1 : Int32)) v38 h_x0
def f_Mo_run (x0 : Nat) (x1 : Int32) (σ : Mm) : Option (Int32 × Mm) := (f_Mo_in σ x1 (1 : Int32) (60 : Int32)).bind fun v4 => (if ¬ v4 = 0 then (if ((σ (rfT x0 0) (ix (0 : Int32))) + x1) ≤ (999 : Int32) then (f_Mo_run_32  NN x0 x1 (0 : Int32) σ) else (some ((-1000000003 : Int32), σ))) else (some ((-1000000001 : Int32), σ)))
set_option maxRecDepth 100000 in
set_option maxHeartbeats 4000000 in
theorem t_Mo_run_e {X : Xt} {S : Sh} (hS : ShOK S) {d : Nat} (hd : 10 ≤ d + 1) (x0 : Nat) (x1 : Int32) (σ : Mm) (h_x0 : tgT x0 = 12) : Rf X S emM (f_Mo_run x0 x1 σ) (d + 1) 287 0 [.ref x0, .int x1, unset0] [] σ := by
  unfold f_Mo_run
  refine rf_ild (i := 1) (Or.inr ⟨1, rfl, rfl, rfl⟩) c_287_0 rfl ?_
  refine rf_iconst c_287_1 ki_1 ?_
  refine rf_bipush c_287_2 kb_60 ?_
  refine rf_callI (as := [.int x1, .int (1 : Int32), .int (60 : Int32)]) (kd := 0) c_287_4 rfl (by decide) rfl ml_12_82 (by decide) rfl (rcv_0 rfl) (Nat.zero_le _) rfl rfl (t_Mo_in hS (by omega) σ x1 (1 : Int32) (60 : Int32)) (fun v4 => ?_)
  refine rf_ite (fun hc7 => ?_) (fun hc7 => ?_)
  · refine rf_b1t c_287_7 rfl (decide_eq_true hc7) ?_
    refine rf_ald (i := 0) (Or.inr ⟨0, rfl, rfl, rfl⟩) c_287_13 rfl ?_
    refine rf_getr hS c_287_14 rfl fl_12_9 rfl h_x0 ?_
    refine rf_iconst c_287_17 ki_0 ?_
    refine rf_iald hS c_287_18 (tf_12_0 h_x0) (lf_12_0 h_x0) (by decide) ?_
    refine rf_ild (i := 1) (Or.inr ⟨1, rfl, rfl, rfl⟩) c_287_19 rfl ?_
    refine rf_iadd c_287_20 ?_
    refine rf_sipush c_287_21 ks_999 ?_
    refine rf_ite (fun hc24 => ?_) (fun hc24 => ?_)
    · refine rf_b2t c_287_24 rfl (decide_eq_true hc24) ?_
      refine rf_iconst c_287_30 ki_0 ?_
      refine rf_ist (i := 2) (Or.inr ⟨2, rfl, rfl, rfl⟩) c_287_31 (Nat.le_of_ble_eq_true rfl) rfl ?_
      exact t_Mo_run_32 hS hd  NN x0 x1 (0 : Int32) σ h_x0
    · refine rf_b2f c_287_24 rfl (decide_eq_false hc24) ?_
      refine rf_ldc (Or.inl ⟨rfl, rfl⟩) c_287_27 rfl kl_12_86 ?_
      exact rf_ret c_287_29 rfl rfl rfl rfl
  · refine rf_b1f c_287_7 rfl (decide_eq_false hc7) ?_
    refine rf_ldc (Or.inl ⟨rfl, rfl⟩) c_287_10 rfl kl_12_91 ?_
    exact rf_ret c_287_12 rfl rfl rfl rfl
theorem t_Mo_run {X : Xt} {S : Sh} (hS : ShOK S) {d : Nat} (hd : 10 ≤ d) (x0 : Nat) (x1 : Int32) (σ : Mm) (h_x0 : tgT x0 = 12) : Rf X S emM (f_Mo_run x0 x1 σ) d 287 0 [.ref x0, .int x1, unset0] [] σ := by
  obtain ⟨d1, rfl⟩ : ∃ d1, d = d1 + 1 := ⟨d - 1, by omega⟩
  exact t_Mo_run_e hS hd x0 x1 σ h_x0
theorem c_288_0 : cd 288 0 = some (.iload_n 1, 1) := by decide +kernel
theorem c_288_1 : cd 288 1 = some (.iconst (0), 1) := by decide +kernel
theorem c_288_2 : cd 288 2 = some (.bipush (99), 2) := by decide +kernel
theorem c_288_4 : cd 288 4 = some (.invokestatic 82, 3) := by decide +kernel
theorem c_288_7 : cd 288 7 = some (.ifCond .ne (6), 3) := by decide +kernel
theorem c_288_10 : cd 288 10 = some (.ldc 91, 2) := by decide +kernel
theorem c_288_12 : cd 288 12 = some (.ireturn, 1) := by decide +kernel
theorem c_288_13 : cd 288 13 = some (.iconst (0), 1) := by decide +kernel
theorem c_288_14 : cd 288 14 = some (.istore_n 2, 1) := by decide +kernel
theorem c_288_15 : cd 288 15 = some (.iconst (0), 1) := by decide +kernel
theorem c_288_16 : cd 288 16 = some (.istore_n 3, 1) := by decide +kernel
theorem c_288_17 : cd 288 17 = some (.iload_n 3, 1) := by decide +kernel
theorem c_288_18 : cd 288 18 = some (.aload_n 0, 1) := by decide +kernel
theorem c_288_19 : cd 288 19 = some (.getfield 9, 3) := by decide +kernel
theorem c_288_22 : cd 288 22 = some (.iconst (4), 1) := by decide +kernel
theorem c_288_23 : cd 288 23 = some (.iaload, 1) := by decide +kernel
theorem c_288_24 : cd 288 24 = some (.if_icmp .ge (85), 3) := by decide +kernel
theorem c_288_27 : cd 288 27 = some (.aload_n 0, 1) := by decide +kernel
theorem c_288_28 : cd 288 28 = some (.iload_n 3, 1) := by decide +kernel
theorem c_288_29 : cd 288 29 = some (.bipush (9), 2) := by decide +kernel
theorem c_288_31 : cd 288 31 = some (.invokevirtual 144, 3) := by decide +kernel
theorem c_288_34 : cd 288 34 = some (.ifCond .lt (27), 3) := by decide +kernel
theorem c_288_37 : cd 288 37 = some (.aload_n 0, 1) := by decide +kernel
theorem c_288_38 : cd 288 38 = some (.iload_n 3, 1) := by decide +kernel
theorem c_288_39 : cd 288 39 = some (.bipush (11), 2) := by decide +kernel
theorem c_288_41 : cd 288 41 = some (.invokevirtual 144, 3) := by decide +kernel
theorem c_288_44 : cd 288 44 = some (.ifCond .ge (17), 3) := by decide +kernel
theorem c_288_47 : cd 288 47 = some (.aload_n 0, 1) := by decide +kernel
theorem c_288_48 : cd 288 48 = some (.iload_n 3, 1) := by decide +kernel
theorem c_288_49 : cd 288 49 = some (.bipush (12), 2) := by decide +kernel
theorem c_288_51 : cd 288 51 = some (.invokevirtual 144, 3) := by decide +kernel
theorem c_288_54 : cd 288 54 = some (.ifCond .ne (7), 3) := by decide +kernel
theorem c_288_57 : cd 288 57 = some (.iconst (1), 1) := by decide +kernel
theorem c_288_58 : cd 288 58 = some (.goto (4), 3) := by decide +kernel
theorem c_288_61 : cd 288 61 = some (.iconst (0), 1) := by decide +kernel
theorem c_288_62 : cd 288 62 = some (.istore 4, 2) := by decide +kernel
theorem c_288_64 : cd 288 64 = some (.iload_n 2, 1) := by decide +kernel
theorem c_288_65 : cd 288 65 = some (.iload 4, 2) := by decide +kernel
theorem c_288_67 : cd 288 67 = some (.ifCond .eq (33), 3) := by decide +kernel
theorem c_288_70 : cd 288 70 = some (.aload_n 0, 1) := by decide +kernel
theorem c_288_71 : cd 288 71 = some (.iload_n 3, 1) := by decide +kernel
theorem c_288_72 : cd 288 72 = some (.bipush (10), 2) := by decide +kernel
theorem c_288_74 : cd 288 74 = some (.invokevirtual 144, 3) := by decide +kernel
theorem c_288_77 : cd 288 77 = some (.aload_n 0, 1) := by decide +kernel
theorem c_288_78 : cd 288 78 = some (.iload_n 3, 1) := by decide +kernel
theorem c_288_79 : cd 288 79 = some (.iconst (5), 1) := by decide +kernel
theorem c_288_80 : cd 288 80 = some (.invokevirtual 144, 3) := by decide +kernel
theorem c_288_83 : cd 288 83 = some (.isub, 1) := by decide +kernel
theorem c_288_84 : cd 288 84 = some (.aload_n 0, 1) := by decide +kernel
theorem c_288_85 : cd 288 85 = some (.iload_n 3, 1) := by decide +kernel
theorem c_288_86 : cd 288 86 = some (.bipush (13), 2) := by decide +kernel
theorem c_288_88 : cd 288 88 = some (.invokevirtual 144, 3) := by decide +kernel
theorem c_288_91 : cd 288 91 = some (.iload_n 1, 1) := by decide +kernel
theorem c_288_92 : cd 288 92 = some (.iadd, 1) := by decide +kernel
theorem c_288_93 : cd 288 93 = some (.if_icmp .ge (7), 3) := by decide +kernel
theorem c_288_96 : cd 288 96 = some (.iconst (1), 1) := by decide +kernel
theorem c_288_97 : cd 288 97 = some (.goto (4), 3) := by decide +kernel
theorem c_288_100 : cd 288 100 = some (.iconst (0), 1) := by decide +kernel
theorem c_288_101 : cd 288 101 = some (.iadd, 1) := by decide +kernel
theorem c_288_102 : cd 288 102 = some (.istore_n 2, 1) := by decide +kernel
theorem c_288_103 : cd 288 103 = some (.iinc 3 (1), 3) := by decide +kernel
theorem c_288_106 : cd 288 106 = some (.goto (-89), 3) := by decide +kernel
theorem c_288_109 : cd 288 109 = some (.iload_n 2, 1) := by decide +kernel
theorem c_288_110 : cd 288 110 = some (.ireturn, 1) := by decide +kernel
def f_Mo_beside_101 (σ : Mm) (k17 : Nat → Int32 → Int32 → Int32 → Option (Int32)) (x0 : Nat) (x1 : Int32) (x3 : Int32) (y0 : Int32) (y1 : Int32) : Option Int32 := k17 x0 x1 (y0 + y1) (x3 + (1 : Int32))
set_option maxRecDepth 100000 in
set_option maxHeartbeats 4000000 in
theorem t_Mo_beside_101 {X : Xt} {S : Sh} (hS : ShOK S) {d : Nat} (hd : 1 ≤ d + 1) (σ : Mm) {k17 : Nat → Int32 → Int32 → Int32 → Option (Int32)} (hk17 : ∀ (x0 : Nat) (x1 : Int32) (x2 : Int32) (x3 : Int32) (u4 : Value) (h_x0 : tgT x0 = 12), Rf X S (emI σ) (k17 x0 x1 x2 x3) (d + 1) 288 17 [.ref x0, .int x1, .int x2, .int x3, u4] [] σ) (x0 : Nat) (x1 : Int32) (x3 : Int32) (y0 : Int32) (y1 : Int32) (u2 : Value) (u4 : Value) (h_x0 : tgT x0 = 12) : Rf X S (emI σ) (f_Mo_beside_101 σ k17 x0 x1 x3 y0 y1) (d + 1) 288 101 [.ref x0, .int x1, u2, .int x3, u4] [.int y1, .int y0] σ := by
  unfold f_Mo_beside_101
  refine rf_iadd c_288_101 ?_
  refine rf_ist (i := 2) (Or.inr ⟨2, rfl, rfl, rfl⟩) c_288_102 (Nat.le_of_ble_eq_true rfl) rfl ?_
  refine rf_iinc c_288_103 rfl ki_1 rfl ?_
  refine rf_goto c_288_106 rfl ?_
  exact hk17 x0 x1 (y0 + y1) (x3 + (1 : Int32)) (u4) h_x0
def f_Mo_beside_100 (σ : Mm) (k17 : Nat → Int32 → Int32 → Int32 → Option (Int32)) (x0 : Nat) (x1 : Int32) (x3 : Int32) (y0 : Int32) : Option Int32 := f_Mo_beside_101 σ k17 x0 x1 x3 y0 (0 : Int32)
set_option maxRecDepth 100000 in
set_option maxHeartbeats 4000000 in
theorem t_Mo_beside_100 {X : Xt} {S : Sh} (hS : ShOK S) {d : Nat} (hd : 1 ≤ d + 1) (σ : Mm) {k17 : Nat → Int32 → Int32 → Int32 → Option (Int32)} (hk17 : ∀ (x0 : Nat) (x1 : Int32) (x2 : Int32) (x3 : Int32) (u4 : Value) (h_x0 : tgT x0 = 12), Rf X S (emI σ) (k17 x0 x1 x2 x3) (d + 1) 288 17 [.ref x0, .int x1, .int x2, .int x3, u4] [] σ) (x0 : Nat) (x1 : Int32) (x3 : Int32) (y0 : Int32) (u2 : Value) (u4 : Value) (h_x0 : tgT x0 = 12) : Rf X S (emI σ) (f_Mo_beside_100 σ k17 x0 x1 x3 y0) (d + 1) 288 100 [.ref x0, .int x1, u2, .int x3, u4] [.int y0] σ := by
  unfold f_Mo_beside_100
  refine rf_iconst c_288_100 ki_0 ?_
  exact t_Mo_beside_101 hS hd σ hk17 x0 x1 x3 y0 (0 : Int32) (u2) (u4) h_x0
def f_Mo_beside_62 (σ : Mm) (k17 : Nat → Int32 → Int32 → Int32 → Option (Int32)) (x0 : Nat) (x1 : Int32) (x2 : Int32) (x3 : Int32) (y0 : Int32) : Option Int32 := (if y0 = 0 then (f_Mo_beside_100 σ k17 x0 x1 x3 x2) else ((f_Mo_paperOf σ x0 x3 (10 : Int32)).bind fun v74 => (f_Mo_paperOf σ x0 x3 (5 : Int32)).bind fun v80 => (f_Mo_paperOf σ x0 x3 (13 : Int32)).bind fun v88 => (if (v88 + x1) ≤ (v74 - v80) then (f_Mo_beside_100 σ k17 x0 x1 x3 x2) else (f_Mo_beside_101 σ k17 x0 x1 x3 x2 (1 : Int32)))))
set_option maxRecDepth 100000 in
set_option maxHeartbeats 4000000 in
theorem t_Mo_beside_62 {X : Xt} {S : Sh} (hS : ShOK S) {d : Nat} (hd : 1 ≤ d + 1) (σ : Mm) {k17 : Nat → Int32 → Int32 → Int32 → Option (Int32)} (hk17 : ∀ (x0 : Nat) (x1 : Int32) (x2 : Int32) (x3 : Int32) (u4 : Value) (h_x0 : tgT x0 = 12), Rf X S (emI σ) (k17 x0 x1 x2 x3) (d + 1) 288 17 [.ref x0, .int x1, .int x2, .int x3, u4] [] σ) (x0 : Nat) (x1 : Int32) (x2 : Int32) (x3 : Int32) (y0 : Int32) (u4 : Value) (h_x0 : tgT x0 = 12) : Rf X S (emI σ) (f_Mo_beside_62 σ k17 x0 x1 x2 x3 y0) (d + 1) 288 62 [.ref x0, .int x1, .int x2, .int x3, u4] [.int y0] σ := by
  unfold f_Mo_beside_62
  refine rf_ist (i := 4) (Or.inl ⟨rfl, rfl⟩) c_288_62 (Nat.le_of_ble_eq_true rfl) rfl ?_
  refine rf_ild (i := 2) (Or.inr ⟨2, rfl, rfl, rfl⟩) c_288_64 rfl ?_
  refine rf_ild (i := 4) (Or.inl ⟨rfl, rfl⟩) c_288_65 rfl ?_
  refine rf_ite (fun hc67 => ?_) (fun hc67 => ?_)
  · refine rf_b1t c_288_67 rfl (decide_eq_true hc67) ?_
    exact t_Mo_beside_100 hS hd σ hk17 x0 x1 x3 x2 (.int x2) (.int y0) h_x0
  · refine rf_b1f c_288_67 rfl (decide_eq_false hc67) ?_
    refine rf_ald (i := 0) (Or.inr ⟨0, rfl, rfl, rfl⟩) c_288_70 rfl ?_
    refine rf_ild (i := 3) (Or.inr ⟨3, rfl, rfl, rfl⟩) c_288_71 rfl ?_
    refine rf_bipush c_288_72 kb_10 ?_
    refine rf_callI (as := [.ref x0, .int x3, .int (10 : Int32)]) (kd := 1) c_288_74 rfl (by decide) rfl ml_12_144 (by decide) rfl (rcv_1 hS rfl rfl h_x0 (by decide)) (by simp [Value.category]) rfl rfl (t_Mo_paperOf hS (by omega) σ x0 x3 (10 : Int32) h_x0) (fun v74 => ?_)
    refine rf_ald (i := 0) (Or.inr ⟨0, rfl, rfl, rfl⟩) c_288_77 rfl ?_
    refine rf_ild (i := 3) (Or.inr ⟨3, rfl, rfl, rfl⟩) c_288_78 rfl ?_
    refine rf_iconst c_288_79 ki_5 ?_
    refine rf_callI (as := [.ref x0, .int x3, .int (5 : Int32)]) (kd := 1) c_288_80 rfl (by decide) rfl ml_12_144 (by decide) rfl (rcv_1 hS rfl rfl h_x0 (by decide)) (by simp [Value.category]) rfl rfl (t_Mo_paperOf hS (by omega) σ x0 x3 (5 : Int32) h_x0) (fun v80 => ?_)
    refine rf_isub c_288_83 ?_
    refine rf_ald (i := 0) (Or.inr ⟨0, rfl, rfl, rfl⟩) c_288_84 rfl ?_
    refine rf_ild (i := 3) (Or.inr ⟨3, rfl, rfl, rfl⟩) c_288_85 rfl ?_
    refine rf_bipush c_288_86 kb_13 ?_
    refine rf_callI (as := [.ref x0, .int x3, .int (13 : Int32)]) (kd := 1) c_288_88 rfl (by decide) rfl ml_12_144 (by decide) rfl (rcv_1 hS rfl rfl h_x0 (by decide)) (by simp [Value.category]) rfl rfl (t_Mo_paperOf hS (by omega) σ x0 x3 (13 : Int32) h_x0) (fun v88 => ?_)
    refine rf_ild (i := 1) (Or.inr ⟨1, rfl, rfl, rfl⟩) c_288_91 rfl ?_
    refine rf_iadd c_288_92 ?_
    refine rf_ite (fun hc93 => ?_) (fun hc93 => ?_)
    · refine rf_b2t c_288_93 rfl (decide_eq_true hc93) ?_
      exact t_Mo_beside_100 hS hd σ hk17 x0 x1 x3 x2 (.int x2) (.int y0) h_x0
    · refine rf_b2f c_288_93 rfl (decide_eq_false hc93) ?_
      refine rf_iconst c_288_96 ki_1 ?_
      refine rf_goto c_288_97 rfl ?_
      exact t_Mo_beside_101 hS hd σ hk17 x0 x1 x3 x2 (1 : Int32) (.int x2) (.int y0) h_x0
def f_Mo_beside_61 (σ : Mm) (k17 : Nat → Int32 → Int32 → Int32 → Option (Int32)) (x0 : Nat) (x1 : Int32) (x2 : Int32) (x3 : Int32) : Option Int32 := f_Mo_beside_62 σ k17 x0 x1 x2 x3 (0 : Int32)
set_option maxRecDepth 100000 in
set_option maxHeartbeats 4000000 in
theorem t_Mo_beside_61 {X : Xt} {S : Sh} (hS : ShOK S) {d : Nat} (hd : 1 ≤ d + 1) (σ : Mm) {k17 : Nat → Int32 → Int32 → Int32 → Option (Int32)} (hk17 : ∀ (x0 : Nat) (x1 : Int32) (x2 : Int32) (x3 : Int32) (u4 : Value) (h_x0 : tgT x0 = 12), Rf X S (emI σ) (k17 x0 x1 x2 x3) (d + 1) 288 17 [.ref x0, .int x1, .int x2, .int x3, u4] [] σ) (x0 : Nat) (x1 : Int32) (x2 : Int32) (x3 : Int32) (u4 : Value) (h_x0 : tgT x0 = 12) : Rf X S (emI σ) (f_Mo_beside_61 σ k17 x0 x1 x2 x3) (d + 1) 288 61 [.ref x0, .int x1, .int x2, .int x3, u4] [] σ := by
  unfold f_Mo_beside_61
  refine rf_iconst c_288_61 ki_0 ?_
  exact t_Mo_beside_62 hS hd σ hk17 x0 x1 x2 x3 (0 : Int32) (u4) h_x0
def f_Mo_beside_17 (σ : Mm) : Nat → Nat → Int32 → Int32 → Int32 → Option Int32
  | 0, _, _, _, _ => none
  | n + 1, x0, x1, x2, x3 => (if (σ (rfT x0 0) (ix (4 : Int32))) ≤ x3 then (some x2) else ((f_Mo_paperOf σ x0 x3 (9 : Int32)).bind fun v31 => (if v31 < 0 then (f_Mo_beside_61 σ (f_Mo_beside_17 σ n) x0 x1 x2 x3) else ((f_Mo_paperOf σ x0 x3 (11 : Int32)).bind fun v41 => (if 0 ≤ v41 then (f_Mo_beside_61 σ (f_Mo_beside_17 σ n) x0 x1 x2 x3) else ((f_Mo_paperOf σ x0 x3 (12 : Int32)).bind fun v51 => (if ¬ v51 = 0 then (f_Mo_beside_61 σ (f_Mo_beside_17 σ n) x0 x1 x2 x3) else (f_Mo_beside_62 σ (f_Mo_beside_17 σ n) x0 x1 x2 x3 (1 : Int32)))))))))
set_option maxRecDepth 100000 in
set_option maxHeartbeats 4000000 in
theorem t_Mo_beside_17 {X : Xt} {S : Sh} (hS : ShOK S) {d : Nat} (hd : 1 ≤ d + 1) (σ : Mm) : ∀ (n : Nat) (x0 : Nat) (x1 : Int32) (x2 : Int32) (x3 : Int32) (u4 : Value) (h_x0 : tgT x0 = 12), Rf X S (emI σ) (f_Mo_beside_17 σ n x0 x1 x2 x3) (d + 1) 288 17 [.ref x0, .int x1, .int x2, .int x3, u4] [] σ := by
  intro n
  induction n with
  | zero => intro x0 x1 x2 x3 u4 h_x0; exact rf_none
  | succ n ih =>
    intro x0 x1 x2 x3 u4 h_x0
    rw [f_Mo_beside_17]
    refine rf_ild (i := 3) (Or.inr ⟨3, rfl, rfl, rfl⟩) c_288_17 rfl ?_
    refine rf_ald (i := 0) (Or.inr ⟨0, rfl, rfl, rfl⟩) c_288_18 rfl ?_
    refine rf_getr hS c_288_19 rfl fl_12_9 rfl h_x0 ?_
    refine rf_iconst c_288_22 ki_4 ?_
    refine rf_iald hS c_288_23 (tf_12_0 h_x0) (lf_12_0 h_x0) (by decide) ?_
    refine rf_ite (fun hc24 => ?_) (fun hc24 => ?_)
    · refine rf_b2t c_288_24 rfl (decide_eq_true hc24) ?_
      refine rf_ild (i := 2) (Or.inr ⟨2, rfl, rfl, rfl⟩) c_288_109 rfl ?_
      exact rf_ret c_288_110 rfl rfl rfl rfl
    · refine rf_b2f c_288_24 rfl (decide_eq_false hc24) ?_
      refine rf_ald (i := 0) (Or.inr ⟨0, rfl, rfl, rfl⟩) c_288_27 rfl ?_
      refine rf_ild (i := 3) (Or.inr ⟨3, rfl, rfl, rfl⟩) c_288_28 rfl ?_
      refine rf_bipush c_288_29 kb_9 ?_
      refine rf_callI (as := [.ref x0, .int x3, .int (9 : Int32)]) (kd := 1) c_288_31 rfl (by decide) rfl ml_12_144 (by decide) rfl (rcv_1 hS rfl rfl h_x0 (by decide)) (Nat.zero_le _) rfl rfl (t_Mo_paperOf hS (by omega) σ x0 x3 (9 : Int32) h_x0) (fun v31 => ?_)
      refine rf_ite (fun hc34 => ?_) (fun hc34 => ?_)
      · refine rf_b1t c_288_34 rfl (decide_eq_true hc34) ?_
        exact t_Mo_beside_61 hS hd σ ih x0 x1 x2 x3 (u4) h_x0
      · refine rf_b1f c_288_34 rfl (decide_eq_false hc34) ?_
        refine rf_ald (i := 0) (Or.inr ⟨0, rfl, rfl, rfl⟩) c_288_37 rfl ?_
        refine rf_ild (i := 3) (Or.inr ⟨3, rfl, rfl, rfl⟩) c_288_38 rfl ?_
        refine rf_bipush c_288_39 kb_11 ?_
        refine rf_callI (as := [.ref x0, .int x3, .int (11 : Int32)]) (kd := 1) c_288_41 rfl (by decide) rfl ml_12_144 (by decide) rfl (rcv_1 hS rfl rfl h_x0 (by decide)) (Nat.zero_le _) rfl rfl (t_Mo_paperOf hS (by omega) σ x0 x3 (11 : Int32) h_x0) (fun v41 => ?_)
        refine rf_ite (fun hc44 => ?_) (fun hc44 => ?_)
        · refine rf_b1t c_288_44 rfl (decide_eq_true hc44) ?_
          exact t_Mo_beside_61 hS hd σ ih x0 x1 x2 x3 (u4) h_x0
        · refine rf_b1f c_288_44 rfl (decide_eq_false hc44) ?_
          refine rf_ald (i := 0) (Or.inr ⟨0, rfl, rfl, rfl⟩) c_288_47 rfl ?_
          refine rf_ild (i := 3) (Or.inr ⟨3, rfl, rfl, rfl⟩) c_288_48 rfl ?_
          refine rf_bipush c_288_49 kb_12 ?_
          refine rf_callI (as := [.ref x0, .int x3, .int (12 : Int32)]) (kd := 1) c_288_51 rfl (by decide) rfl ml_12_144 (by decide) rfl (rcv_1 hS rfl rfl h_x0 (by decide)) (Nat.zero_le _) rfl rfl (t_Mo_paperOf hS (by omega) σ x0 x3 (12 : Int32) h_x0) (fun v51 => ?_)
          refine rf_ite (fun hc54 => ?_) (fun hc54 => ?_)
          · refine rf_b1t c_288_54 rfl (decide_eq_true hc54) ?_
            exact t_Mo_beside_61 hS hd σ ih x0 x1 x2 x3 (u4) h_x0
          · refine rf_b1f c_288_54 rfl (decide_eq_false hc54) ?_
            refine rf_iconst c_288_57 ki_1 ?_
            refine rf_goto c_288_58 rfl ?_
            exact t_Mo_beside_62 hS hd σ ih x0 x1 x2 x3 (1 : Int32) (u4) h_x0
def f_Mo_beside (σ : Mm) (x0 : Nat) (x1 : Int32) : Option Int32 := (f_Mo_in σ x1 (0 : Int32) (99 : Int32)).bind fun v4 => (if ¬ v4 = 0 then (f_Mo_beside_17 σ NN x0 x1 (0 : Int32) (0 : Int32)) else (some (-1000000001 : Int32)))
set_option maxRecDepth 100000 in
set_option maxHeartbeats 4000000 in
theorem t_Mo_beside_e {X : Xt} {S : Sh} (hS : ShOK S) {d : Nat} (hd : 1 ≤ d + 1) (σ : Mm) (x0 : Nat) (x1 : Int32) (h_x0 : tgT x0 = 12) : Rf X S (emI σ) (f_Mo_beside σ x0 x1) (d + 1) 288 0 [.ref x0, .int x1, unset0, unset0, unset0] [] σ := by
  unfold f_Mo_beside
  refine rf_ild (i := 1) (Or.inr ⟨1, rfl, rfl, rfl⟩) c_288_0 rfl ?_
  refine rf_iconst c_288_1 ki_0 ?_
  refine rf_bipush c_288_2 kb_99 ?_
  refine rf_callI (as := [.int x1, .int (0 : Int32), .int (99 : Int32)]) (kd := 0) c_288_4 rfl (by decide) rfl ml_12_82 (by decide) rfl (rcv_0 rfl) (Nat.zero_le _) rfl rfl (t_Mo_in hS (by omega) σ x1 (0 : Int32) (99 : Int32)) (fun v4 => ?_)
  refine rf_ite (fun hc7 => ?_) (fun hc7 => ?_)
  · refine rf_b1t c_288_7 rfl (decide_eq_true hc7) ?_
    refine rf_iconst c_288_13 ki_0 ?_
    refine rf_ist (i := 2) (Or.inr ⟨2, rfl, rfl, rfl⟩) c_288_14 (Nat.le_of_ble_eq_true rfl) rfl ?_
    refine rf_iconst c_288_15 ki_0 ?_
    refine rf_ist (i := 3) (Or.inr ⟨3, rfl, rfl, rfl⟩) c_288_16 (Nat.le_of_ble_eq_true rfl) rfl ?_
    exact t_Mo_beside_17 hS hd σ  NN x0 x1 (0 : Int32) (0 : Int32) (unset0) h_x0
  · refine rf_b1f c_288_7 rfl (decide_eq_false hc7) ?_
    refine rf_ldc (Or.inl ⟨rfl, rfl⟩) c_288_10 rfl kl_12_91 ?_
    exact rf_ret c_288_12 rfl rfl rfl rfl
theorem t_Mo_beside {X : Xt} {S : Sh} (hS : ShOK S) {d : Nat} (hd : 1 ≤ d) (σ : Mm) (x0 : Nat) (x1 : Int32) (h_x0 : tgT x0 = 12) : Rf X S (emI σ) (f_Mo_beside σ x0 x1) d 288 0 [.ref x0, .int x1, unset0, unset0, unset0] [] σ := by
  obtain ⟨d1, rfl⟩ : ∃ d1, d = d1 + 1 := ⟨d - 1, by omega⟩
  exact t_Mo_beside_e hS hd σ x0 x1 h_x0
theorem c_289_0 : cd 289 0 = some (.aload_n 0, 1) := by decide +kernel
theorem c_289_1 : cd 289 1 = some (.getfield 9, 3) := by decide +kernel
theorem c_289_4 : cd 289 4 = some (.sipush (5420), 3) := by decide +kernel
theorem c_289_7 : cd 289 7 = some (.iconst (5), 1) := by decide +kernel
theorem c_289_8 : cd 289 8 = some (.iload_n 1, 1) := by decide +kernel
theorem c_289_9 : cd 289 9 = some (.imul, 1) := by decide +kernel
theorem c_289_10 : cd 289 10 = some (.iadd, 1) := by decide +kernel
theorem c_289_11 : cd 289 11 = some (.iload_n 2, 1) := by decide +kernel
theorem c_289_12 : cd 289 12 = some (.iadd, 1) := by decide +kernel
theorem c_289_13 : cd 289 13 = some (.iaload, 1) := by decide +kernel
theorem c_289_14 : cd 289 14 = some (.ireturn, 1) := by decide +kernel
def f_Mo_copyOf (σ : Mm) (x0 : Nat) (x1 : Int32) (x2 : Int32) : Option Int32 := if inbB (((5420 : Int32) + ((5 : Int32) * x1)) + x2) 5528 = true then some (σ (rfT x0 0) (ix (((5420 : Int32) + ((5 : Int32) * x1)) + x2))) else none
set_option maxRecDepth 100000 in
set_option maxHeartbeats 4000000 in
theorem t_Mo_copyOf {X : Xt} {S : Sh} (hS : ShOK S) {d : Nat} (hd : 0 ≤ d) (σ : Mm) (x0 : Nat) (x1 : Int32) (x2 : Int32) (h_x0 : tgT x0 = 12) : Rf X S (emI σ) (f_Mo_copyOf σ x0 x1 x2) d 289 0 [.ref x0, .int x1, .int x2] [] σ := by
  unfold f_Mo_copyOf
  refine rf_ald (i := 0) (Or.inr ⟨0, rfl, rfl, rfl⟩) c_289_0 rfl ?_
  refine rf_getr hS c_289_1 rfl fl_12_9 rfl h_x0 ?_
  refine rf_sipush c_289_4 ks_5420 ?_
  refine rf_iconst c_289_7 ki_5 ?_
  refine rf_ild (i := 1) (Or.inr ⟨1, rfl, rfl, rfl⟩) c_289_8 rfl ?_
  refine rf_imul c_289_9 ?_
  refine rf_iadd c_289_10 ?_
  refine rf_ild (i := 2) (Or.inr ⟨2, rfl, rfl, rfl⟩) c_289_11 rfl ?_
  refine rf_iadd c_289_12 ?_
  refine rf_ite (fun hb13 => ?_) (fun _ => rf_none)
  refine rf_iald hS c_289_13 (tf_12_0 h_x0) (lf_12_0 h_x0) hb13 ?_
  exact rf_ret c_289_14 rfl rfl rfl rfl
theorem c_290_0 : cd 290 0 = some (.aload_n 0, 1) := by decide +kernel
theorem c_290_1 : cd 290 1 = some (.iload_n 1, 1) := by decide +kernel
theorem c_290_2 : cd 290 2 = some (.invokevirtual 141, 3) := by decide +kernel
theorem c_290_5 : cd 290 5 = some (.ifCond .eq (22), 3) := by decide +kernel
theorem c_290_8 : cd 290 8 = some (.aload_n 0, 1) := by decide +kernel
theorem c_290_9 : cd 290 9 = some (.iload_n 2, 1) := by decide +kernel
theorem c_290_10 : cd 290 10 = some (.invokevirtual 87, 3) := by decide +kernel
theorem c_290_13 : cd 290 13 = some (.ifCond .eq (14), 3) := by decide +kernel
theorem c_290_16 : cd 290 16 = some (.iload_n 3, 1) := by decide +kernel
theorem c_290_17 : cd 290 17 = some (.iconst (0), 1) := by decide +kernel
theorem c_290_18 : cd 290 18 = some (.ldc_w 352, 3) := by decide +kernel
theorem c_290_21 : cd 290 21 = some (.invokestatic 82, 3) := by decide +kernel
theorem c_290_24 : cd 290 24 = some (.ifCond .ne (6), 3) := by decide +kernel
theorem c_290_27 : cd 290 27 = some (.ldc 91, 2) := by decide +kernel
theorem c_290_29 : cd 290 29 = some (.ireturn, 1) := by decide +kernel
theorem c_290_30 : cd 290 30 = some (.aload_n 0, 1) := by decide +kernel
theorem c_290_31 : cd 290 31 = some (.getfield 9, 3) := by decide +kernel
theorem c_290_34 : cd 290 34 = some (.bipush (7), 2) := by decide +kernel
theorem c_290_36 : cd 290 36 = some (.iaload, 1) := by decide +kernel
theorem c_290_37 : cd 290 37 = some (.bipush (20), 2) := by decide +kernel
theorem c_290_39 : cd 290 39 = some (.if_icmp .ne (6), 3) := by decide +kernel
theorem c_290_42 : cd 290 42 = some (.ldc 86, 2) := by decide +kernel
theorem c_290_44 : cd 290 44 = some (.ireturn, 1) := by decide +kernel
theorem c_290_45 : cd 290 45 = some (.sipush (5420), 3) := by decide +kernel
theorem c_290_48 : cd 290 48 = some (.iconst (5), 1) := by decide +kernel
theorem c_290_49 : cd 290 49 = some (.aload_n 0, 1) := by decide +kernel
theorem c_290_50 : cd 290 50 = some (.getfield 9, 3) := by decide +kernel
theorem c_290_53 : cd 290 53 = some (.bipush (7), 2) := by decide +kernel
theorem c_290_55 : cd 290 55 = some (.iaload, 1) := by decide +kernel
theorem c_290_56 : cd 290 56 = some (.imul, 1) := by decide +kernel
theorem c_290_57 : cd 290 57 = some (.iadd, 1) := by decide +kernel
theorem c_290_58 : cd 290 58 = some (.istore 4, 2) := by decide +kernel
theorem c_290_60 : cd 290 60 = some (.aload_n 0, 1) := by decide +kernel
theorem c_290_61 : cd 290 61 = some (.getfield 9, 3) := by decide +kernel
theorem c_290_64 : cd 290 64 = some (.iload 4, 2) := by decide +kernel
theorem c_290_66 : cd 290 66 = some (.iload_n 1, 1) := by decide +kernel
theorem c_290_67 : cd 290 67 = some (.iastore, 1) := by decide +kernel
theorem c_290_68 : cd 290 68 = some (.aload_n 0, 1) := by decide +kernel
theorem c_290_69 : cd 290 69 = some (.getfield 9, 3) := by decide +kernel
theorem c_290_72 : cd 290 72 = some (.iload 4, 2) := by decide +kernel
theorem c_290_74 : cd 290 74 = some (.iconst (1), 1) := by decide +kernel
theorem c_290_75 : cd 290 75 = some (.iadd, 1) := by decide +kernel
theorem c_290_76 : cd 290 76 = some (.iload_n 2, 1) := by decide +kernel
theorem c_290_77 : cd 290 77 = some (.iastore, 1) := by decide +kernel
theorem c_290_78 : cd 290 78 = some (.aload_n 0, 1) := by decide +kernel
theorem c_290_79 : cd 290 79 = some (.getfield 9, 3) := by decide +kernel
theorem c_290_82 : cd 290 82 = some (.iload 4, 2) := by decide +kernel
theorem c_290_84 : cd 290 84 = some (.iconst (2), 1) := by decide +kernel
theorem c_290_85 : cd 290 85 = some (.iadd, 1) := by decide +kernel
theorem c_290_86 : cd 290 86 = some (.aload_n 0, 1) := by decide +kernel
theorem c_290_87 : cd 290 87 = some (.getfield 9, 3) := by decide +kernel
theorem c_290_90 : cd 290 90 = some (.iconst (0), 1) := by decide +kernel
theorem c_290_91 : cd 290 91 = some (.iaload, 1) := by decide +kernel
theorem c_290_92 : cd 290 92 = some (.iastore, 1) := by decide +kernel
theorem c_290_93 : cd 290 93 = some (.aload_n 0, 1) := by decide +kernel
theorem c_290_94 : cd 290 94 = some (.getfield 9, 3) := by decide +kernel
theorem c_290_97 : cd 290 97 = some (.iload 4, 2) := by decide +kernel
theorem c_290_99 : cd 290 99 = some (.iconst (3), 1) := by decide +kernel
theorem c_290_100 : cd 290 100 = some (.iadd, 1) := by decide +kernel
theorem c_290_101 : cd 290 101 = some (.iload_n 3, 1) := by decide +kernel
theorem c_290_102 : cd 290 102 = some (.iastore, 1) := by decide +kernel
theorem c_290_103 : cd 290 103 = some (.aload_n 0, 1) := by decide +kernel
theorem c_290_104 : cd 290 104 = some (.getfield 9, 3) := by decide +kernel
theorem c_290_107 : cd 290 107 = some (.iload 4, 2) := by decide +kernel
theorem c_290_109 : cd 290 109 = some (.iconst (4), 1) := by decide +kernel
theorem c_290_110 : cd 290 110 = some (.iadd, 1) := by decide +kernel
theorem c_290_111 : cd 290 111 = some (.iconst (0), 1) := by decide +kernel
theorem c_290_112 : cd 290 112 = some (.iastore, 1) := by decide +kernel
theorem c_290_113 : cd 290 113 = some (.aload_n 0, 1) := by decide +kernel
theorem c_290_114 : cd 290 114 = some (.getfield 9, 3) := by decide +kernel
theorem c_290_117 : cd 290 117 = some (.bipush (7), 2) := by decide +kernel
theorem c_290_119 : cd 290 119 = some (.dup2, 1) := by decide +kernel
theorem c_290_120 : cd 290 120 = some (.iaload, 1) := by decide +kernel
theorem c_290_121 : cd 290 121 = some (.iconst (1), 1) := by decide +kernel
theorem c_290_122 : cd 290 122 = some (.iadd, 1) := by decide +kernel
theorem c_290_123 : cd 290 123 = some (.iastore, 1) := by decide +kernel
theorem c_290_124 : cd 290 124 = some (.aload_n 0, 1) := by decide +kernel
theorem c_290_125 : cd 290 125 = some (.getfield 9, 3) := by decide +kernel
theorem c_290_128 : cd 290 128 = some (.bipush (7), 2) := by decide +kernel
theorem c_290_130 : cd 290 130 = some (.iaload, 1) := by decide +kernel
theorem c_290_131 : cd 290 131 = some (.iconst (1), 1) := by decide +kernel
theorem c_290_132 : cd 290 132 = some (.isub, 1) := by decide +kernel
theorem c_290_133 : cd 290 133 = some (.ireturn, 1) := by decide +kernel
def f_Mo_copy_27 (σ : Mm) : Option (Int32 × Mm) := some ((-1000000001 : Int32), σ)
set_option maxRecDepth 100000 in
set_option maxHeartbeats 4000000 in
theorem t_Mo_copy_27 {X : Xt} {S : Sh} (hS : ShOK S) {d : Nat} (hd : 2 ≤ d + 1) (u0 : Value) (u1 : Value) (u2 : Value) (u3 : Value) (u4 : Value) (σ : Mm) : Rf X S emM (f_Mo_copy_27 σ) (d + 1) 290 27 [u0, u1, u2, u3, u4] [] σ := by
  unfold f_Mo_copy_27
  refine rf_ldc (Or.inl ⟨rfl, rfl⟩) c_290_27 rfl kl_12_91 ?_
  exact rf_ret c_290_29 rfl rfl rfl rfl
def f_Mo_copy (x0 : Nat) (x1 : Int32) (x2 : Int32) (x3 : Int32) (σ : Mm) : Option (Int32 × Mm) := (f_Mo_isPaper σ x0 x1).bind fun v2 => (if v2 = 0 then (f_Mo_copy_27  σ) else ((f_Mo_isOffice σ x0 x2).bind fun v10 => (if v10 = 0 then (f_Mo_copy_27  σ) else ((f_Mo_in σ x3 (0 : Int32) (65535 : Int32)).bind fun v21 => (if ¬ v21 = 0 then (if ¬ (σ (rfT x0 0) (ix (7 : Int32))) = (20 : Int32) then (if inbB ((5420 : Int32) + ((5 : Int32) * (σ (rfT x0 0) (ix (7 : Int32))))) 5528 = true then nmM (up2 σ (rfT x0 0) (ix ((5420 : Int32) + ((5 : Int32) * (σ (rfT x0 0) (ix (7 : Int32)))))) x1) fun σ67 => if inbB (((5420 : Int32) + ((5 : Int32) * (σ (rfT x0 0) (ix (7 : Int32))))) + (1 : Int32)) 5528 = true then nmM (up2 σ67 (rfT x0 0) (ix (((5420 : Int32) + ((5 : Int32) * (σ (rfT x0 0) (ix (7 : Int32))))) + (1 : Int32))) x2) fun σ77 => if inbB (((5420 : Int32) + ((5 : Int32) * (σ (rfT x0 0) (ix (7 : Int32))))) + (2 : Int32)) 5528 = true then nmM (up2 σ77 (rfT x0 0) (ix (((5420 : Int32) + ((5 : Int32) * (σ (rfT x0 0) (ix (7 : Int32))))) + (2 : Int32))) (σ77 (rfT x0 0) (ix (0 : Int32)))) fun σ92 => if inbB (((5420 : Int32) + ((5 : Int32) * (σ (rfT x0 0) (ix (7 : Int32))))) + (3 : Int32)) 5528 = true then nmM (up2 σ92 (rfT x0 0) (ix (((5420 : Int32) + ((5 : Int32) * (σ (rfT x0 0) (ix (7 : Int32))))) + (3 : Int32))) x3) fun σ102 => if inbB (((5420 : Int32) + ((5 : Int32) * (σ (rfT x0 0) (ix (7 : Int32))))) + (4 : Int32)) 5528 = true then nmM (up2 σ102 (rfT x0 0) (ix (((5420 : Int32) + ((5 : Int32) * (σ (rfT x0 0) (ix (7 : Int32))))) + (4 : Int32))) (0 : Int32)) fun σ112 => nmM (up2 σ112 (rfT x0 0) (ix (7 : Int32)) ((σ112 (rfT x0 0) (ix (7 : Int32))) + (1 : Int32))) fun σ123 => some (((σ123 (rfT x0 0) (ix (7 : Int32))) - (1 : Int32)), σ123) else none else none else none else none else none) else (some ((-1000000003 : Int32), σ))) else (f_Mo_copy_27  σ))))))
set_option maxRecDepth 100000 in
set_option maxHeartbeats 4000000 in
theorem t_Mo_copy_e {X : Xt} {S : Sh} (hS : ShOK S) {d : Nat} (hd : 2 ≤ d + 1) (x0 : Nat) (x1 : Int32) (x2 : Int32) (x3 : Int32) (σ : Mm) (h_x0 : tgT x0 = 12) : Rf X S emM (f_Mo_copy x0 x1 x2 x3 σ) (d + 1) 290 0 [.ref x0, .int x1, .int x2, .int x3, unset0] [] σ := by
  unfold f_Mo_copy
  refine rf_ald (i := 0) (Or.inr ⟨0, rfl, rfl, rfl⟩) c_290_0 rfl ?_
  refine rf_ild (i := 1) (Or.inr ⟨1, rfl, rfl, rfl⟩) c_290_1 rfl ?_
  refine rf_callI (as := [.ref x0, .int x1]) (kd := 1) c_290_2 rfl (by decide) rfl ml_12_141 (by decide) rfl (rcv_1 hS rfl rfl h_x0 (by decide)) (Nat.zero_le _) rfl rfl (t_Mo_isPaper hS (by omega) σ x0 x1 h_x0) (fun v2 => ?_)
  refine rf_ite (fun hc5 => ?_) (fun hc5 => ?_)
  · refine rf_b1t c_290_5 rfl (decide_eq_true hc5) ?_
    exact t_Mo_copy_27 hS hd  (.ref x0) (.int x1) (.int x2) (.int x3) (unset0) σ
  · refine rf_b1f c_290_5 rfl (decide_eq_false hc5) ?_
    refine rf_ald (i := 0) (Or.inr ⟨0, rfl, rfl, rfl⟩) c_290_8 rfl ?_
    refine rf_ild (i := 2) (Or.inr ⟨2, rfl, rfl, rfl⟩) c_290_9 rfl ?_
    refine rf_callI (as := [.ref x0, .int x2]) (kd := 1) c_290_10 rfl (by decide) rfl ml_12_87 (by decide) rfl (rcv_1 hS rfl rfl h_x0 (by decide)) (Nat.zero_le _) rfl rfl (t_Mo_isOffice hS (by omega) σ x0 x2 h_x0) (fun v10 => ?_)
    refine rf_ite (fun hc13 => ?_) (fun hc13 => ?_)
    · refine rf_b1t c_290_13 rfl (decide_eq_true hc13) ?_
      exact t_Mo_copy_27 hS hd  (.ref x0) (.int x1) (.int x2) (.int x3) (unset0) σ
    · refine rf_b1f c_290_13 rfl (decide_eq_false hc13) ?_
      refine rf_ild (i := 3) (Or.inr ⟨3, rfl, rfl, rfl⟩) c_290_16 rfl ?_
      refine rf_iconst c_290_17 ki_0 ?_
      refine rf_ldc (Or.inr ⟨rfl, rfl⟩) c_290_18 rfl kl_12_352 ?_
      refine rf_callI (as := [.int x3, .int (0 : Int32), .int (65535 : Int32)]) (kd := 0) c_290_21 rfl (by decide) rfl ml_12_82 (by decide) rfl (rcv_0 rfl) (Nat.zero_le _) rfl rfl (t_Mo_in hS (by omega) σ x3 (0 : Int32) (65535 : Int32)) (fun v21 => ?_)
      refine rf_ite (fun hc24 => ?_) (fun hc24 => ?_)
      · refine rf_b1t c_290_24 rfl (decide_eq_true hc24) ?_
        refine rf_ald (i := 0) (Or.inr ⟨0, rfl, rfl, rfl⟩) c_290_30 rfl ?_
        refine rf_getr hS c_290_31 rfl fl_12_9 rfl h_x0 ?_
        refine rf_bipush c_290_34 kb_7 ?_
        refine rf_iald hS c_290_36 (tf_12_0 h_x0) (lf_12_0 h_x0) (by decide) ?_
        refine rf_bipush c_290_37 kb_20 ?_
        refine rf_ite (fun hc39 => ?_) (fun hc39 => ?_)
        · refine rf_b2t c_290_39 rfl (decide_eq_true hc39) ?_
          refine rf_sipush c_290_45 ks_5420 ?_
          refine rf_iconst c_290_48 ki_5 ?_
          refine rf_ald (i := 0) (Or.inr ⟨0, rfl, rfl, rfl⟩) c_290_49 rfl ?_
          refine rf_getr hS c_290_50 rfl fl_12_9 rfl h_x0 ?_
          refine rf_bipush c_290_53 kb_7 ?_
          refine rf_iald hS c_290_55 (tf_12_0 h_x0) (lf_12_0 h_x0) (by decide) ?_
          refine rf_imul c_290_56 ?_
          refine rf_iadd c_290_57 ?_
          refine rf_ist (i := 4) (Or.inl ⟨rfl, rfl⟩) c_290_58 (Nat.le_of_ble_eq_true rfl) rfl ?_
          refine rf_ald (i := 0) (Or.inr ⟨0, rfl, rfl, rfl⟩) c_290_60 rfl ?_
          refine rf_getr hS c_290_61 rfl fl_12_9 rfl h_x0 ?_
          refine rf_ild (i := 4) (Or.inl ⟨rfl, rfl⟩) c_290_64 rfl ?_
          refine rf_ild (i := 1) (Or.inr ⟨1, rfl, rfl, rfl⟩) c_290_66 rfl ?_
          refine rf_ite (fun hb67 => ?_) (fun _ => rf_none)
          refine rf_iast hS c_290_67 (tf_12_0 h_x0) (lf_12_0 h_x0) hb67 ?_
          refine rf_nm (fun σ67 => ?_)
          refine rf_ald (i := 0) (Or.inr ⟨0, rfl, rfl, rfl⟩) c_290_68 rfl ?_
          refine rf_getr hS c_290_69 rfl fl_12_9 rfl h_x0 ?_
          refine rf_ild (i := 4) (Or.inl ⟨rfl, rfl⟩) c_290_72 rfl ?_
          refine rf_iconst c_290_74 ki_1 ?_
          refine rf_iadd c_290_75 ?_
          refine rf_ild (i := 2) (Or.inr ⟨2, rfl, rfl, rfl⟩) c_290_76 rfl ?_
          refine rf_ite (fun hb77 => ?_) (fun _ => rf_none)
          refine rf_iast hS c_290_77 (tf_12_0 h_x0) (lf_12_0 h_x0) hb77 ?_
          refine rf_nm (fun σ77 => ?_)
          refine rf_ald (i := 0) (Or.inr ⟨0, rfl, rfl, rfl⟩) c_290_78 rfl ?_
          refine rf_getr hS c_290_79 rfl fl_12_9 rfl h_x0 ?_
          refine rf_ild (i := 4) (Or.inl ⟨rfl, rfl⟩) c_290_82 rfl ?_
          refine rf_iconst c_290_84 ki_2 ?_
          refine rf_iadd c_290_85 ?_
          refine rf_ald (i := 0) (Or.inr ⟨0, rfl, rfl, rfl⟩) c_290_86 rfl ?_
          refine rf_getr hS c_290_87 rfl fl_12_9 rfl h_x0 ?_
          refine rf_iconst c_290_90 ki_0 ?_
          refine rf_iald hS c_290_91 (tf_12_0 h_x0) (lf_12_0 h_x0) (by decide) ?_
          refine rf_ite (fun hb92 => ?_) (fun _ => rf_none)
          refine rf_iast hS c_290_92 (tf_12_0 h_x0) (lf_12_0 h_x0) hb92 ?_
          refine rf_nm (fun σ92 => ?_)
          refine rf_ald (i := 0) (Or.inr ⟨0, rfl, rfl, rfl⟩) c_290_93 rfl ?_
          refine rf_getr hS c_290_94 rfl fl_12_9 rfl h_x0 ?_
          refine rf_ild (i := 4) (Or.inl ⟨rfl, rfl⟩) c_290_97 rfl ?_
          refine rf_iconst c_290_99 ki_3 ?_
          refine rf_iadd c_290_100 ?_
          refine rf_ild (i := 3) (Or.inr ⟨3, rfl, rfl, rfl⟩) c_290_101 rfl ?_
          refine rf_ite (fun hb102 => ?_) (fun _ => rf_none)
          refine rf_iast hS c_290_102 (tf_12_0 h_x0) (lf_12_0 h_x0) hb102 ?_
          refine rf_nm (fun σ102 => ?_)
          refine rf_ald (i := 0) (Or.inr ⟨0, rfl, rfl, rfl⟩) c_290_103 rfl ?_
          refine rf_getr hS c_290_104 rfl fl_12_9 rfl h_x0 ?_
          refine rf_ild (i := 4) (Or.inl ⟨rfl, rfl⟩) c_290_107 rfl ?_
          refine rf_iconst c_290_109 ki_4 ?_
          refine rf_iadd c_290_110 ?_
          refine rf_iconst c_290_111 ki_0 ?_
          refine rf_ite (fun hb112 => ?_) (fun _ => rf_none)
          refine rf_iast hS c_290_112 (tf_12_0 h_x0) (lf_12_0 h_x0) hb112 ?_
          refine rf_nm (fun σ112 => ?_)
          refine rf_ald (i := 0) (Or.inr ⟨0, rfl, rfl, rfl⟩) c_290_113 rfl ?_
          refine rf_getr hS c_290_114 rfl fl_12_9 rfl h_x0 ?_
          refine rf_bipush c_290_117 kb_7 ?_
          refine rf_dup2 c_290_119 rfl rfl ?_
          refine rf_iald hS c_290_120 (tf_12_0 h_x0) (lf_12_0 h_x0) (by decide) ?_
          refine rf_iconst c_290_121 ki_1 ?_
          refine rf_iadd c_290_122 ?_
          refine rf_iast hS c_290_123 (tf_12_0 h_x0) (lf_12_0 h_x0) (by decide) ?_
          refine rf_nm (fun σ123 => ?_)
          refine rf_ald (i := 0) (Or.inr ⟨0, rfl, rfl, rfl⟩) c_290_124 rfl ?_
          refine rf_getr hS c_290_125 rfl fl_12_9 rfl h_x0 ?_
          refine rf_bipush c_290_128 kb_7 ?_
          refine rf_iald hS c_290_130 (tf_12_0 h_x0) (lf_12_0 h_x0) (by decide) ?_
          refine rf_iconst c_290_131 ki_1 ?_
          refine rf_isub c_290_132 ?_
          exact rf_ret c_290_133 rfl rfl rfl rfl
        · refine rf_b2f c_290_39 rfl (decide_eq_false hc39) ?_
          refine rf_ldc (Or.inl ⟨rfl, rfl⟩) c_290_42 rfl kl_12_86 ?_
          exact rf_ret c_290_44 rfl rfl rfl rfl
      · refine rf_b1f c_290_24 rfl (decide_eq_false hc24) ?_
        exact t_Mo_copy_27 hS hd  (.ref x0) (.int x1) (.int x2) (.int x3) (unset0) σ
theorem t_Mo_copy {X : Xt} {S : Sh} (hS : ShOK S) {d : Nat} (hd : 2 ≤ d) (x0 : Nat) (x1 : Int32) (x2 : Int32) (x3 : Int32) (σ : Mm) (h_x0 : tgT x0 = 12) : Rf X S emM (f_Mo_copy x0 x1 x2 x3 σ) d 290 0 [.ref x0, .int x1, .int x2, .int x3, unset0] [] σ := by
  obtain ⟨d1, rfl⟩ : ∃ d1, d = d1 + 1 := ⟨d - 1, by omega⟩
  exact t_Mo_copy_e hS hd x0 x1 x2 x3 σ h_x0
theorem c_291_0 : cd 291 0 = some (.iload_n 1, 1) := by decide +kernel
theorem c_291_1 : cd 291 1 = some (.iconst (0), 1) := by decide +kernel
theorem c_291_2 : cd 291 2 = some (.aload_n 0, 1) := by decide +kernel
theorem c_291_3 : cd 291 3 = some (.getfield 9, 3) := by decide +kernel
theorem c_291_6 : cd 291 6 = some (.bipush (7), 2) := by decide +kernel
theorem c_291_8 : cd 291 8 = some (.iaload, 1) := by decide +kernel
theorem c_291_9 : cd 291 9 = some (.iconst (1), 1) := by decide +kernel
theorem c_291_10 : cd 291 10 = some (.isub, 1) := by decide +kernel
theorem c_291_11 : cd 291 11 = some (.invokestatic 82, 3) := by decide +kernel
theorem c_291_14 : cd 291 14 = some (.ifCond .ne (6), 3) := by decide +kernel
theorem c_291_17 : cd 291 17 = some (.ldc 91, 2) := by decide +kernel
theorem c_291_19 : cd 291 19 = some (.ireturn, 1) := by decide +kernel
theorem c_291_20 : cd 291 20 = some (.aload_n 0, 1) := by decide +kernel
theorem c_291_21 : cd 291 21 = some (.iload_n 1, 1) := by decide +kernel
theorem c_291_22 : cd 291 22 = some (.iconst (4), 1) := by decide +kernel
theorem c_291_23 : cd 291 23 = some (.invokevirtual 353, 3) := by decide +kernel
theorem c_291_26 : cd 291 26 = some (.istore_n 2, 1) := by decide +kernel
theorem c_291_27 : cd 291 27 = some (.aload_n 0, 1) := by decide +kernel
theorem c_291_28 : cd 291 28 = some (.getfield 9, 3) := by decide +kernel
theorem c_291_31 : cd 291 31 = some (.sipush (5420), 3) := by decide +kernel
theorem c_291_34 : cd 291 34 = some (.iconst (5), 1) := by decide +kernel
theorem c_291_35 : cd 291 35 = some (.iload_n 1, 1) := by decide +kernel
theorem c_291_36 : cd 291 36 = some (.imul, 1) := by decide +kernel
theorem c_291_37 : cd 291 37 = some (.iadd, 1) := by decide +kernel
theorem c_291_38 : cd 291 38 = some (.iconst (4), 1) := by decide +kernel
theorem c_291_39 : cd 291 39 = some (.iadd, 1) := by decide +kernel
theorem c_291_40 : cd 291 40 = some (.iconst (1), 1) := by decide +kernel
theorem c_291_41 : cd 291 41 = some (.iastore, 1) := by decide +kernel
theorem c_291_42 : cd 291 42 = some (.iconst (1), 1) := by decide +kernel
theorem c_291_43 : cd 291 43 = some (.iload_n 2, 1) := by decide +kernel
theorem c_291_44 : cd 291 44 = some (.isub, 1) := by decide +kernel
theorem c_291_45 : cd 291 45 = some (.ireturn, 1) := by decide +kernel
def f_Mo_comesBack (x0 : Nat) (x1 : Int32) (σ : Mm) : Option (Int32 × Mm) := (f_Mo_in σ x1 (0 : Int32) ((σ (rfT x0 0) (ix (7 : Int32))) - (1 : Int32))).bind fun v11 => (if ¬ v11 = 0 then ((f_Mo_copyOf σ x0 x1 (4 : Int32)).bind fun v23 => if inbB (((5420 : Int32) + ((5 : Int32) * x1)) + (4 : Int32)) 5528 = true then nmM (up2 σ (rfT x0 0) (ix (((5420 : Int32) + ((5 : Int32) * x1)) + (4 : Int32))) (1 : Int32)) fun σ41 => some (((1 : Int32) - v23), σ41) else none) else (some ((-1000000001 : Int32), σ)))
set_option maxRecDepth 100000 in
set_option maxHeartbeats 4000000 in
theorem t_Mo_comesBack_e {X : Xt} {S : Sh} (hS : ShOK S) {d : Nat} (hd : 1 ≤ d + 1) (x0 : Nat) (x1 : Int32) (σ : Mm) (h_x0 : tgT x0 = 12) : Rf X S emM (f_Mo_comesBack x0 x1 σ) (d + 1) 291 0 [.ref x0, .int x1, unset0] [] σ := by
  unfold f_Mo_comesBack
  refine rf_ild (i := 1) (Or.inr ⟨1, rfl, rfl, rfl⟩) c_291_0 rfl ?_
  refine rf_iconst c_291_1 ki_0 ?_
  refine rf_ald (i := 0) (Or.inr ⟨0, rfl, rfl, rfl⟩) c_291_2 rfl ?_
  refine rf_getr hS c_291_3 rfl fl_12_9 rfl h_x0 ?_
  refine rf_bipush c_291_6 kb_7 ?_
  refine rf_iald hS c_291_8 (tf_12_0 h_x0) (lf_12_0 h_x0) (by decide) ?_
  refine rf_iconst c_291_9 ki_1 ?_
  refine rf_isub c_291_10 ?_
  refine rf_callI (as := [.int x1, .int (0 : Int32), .int ((σ (rfT x0 0) (ix (7 : Int32))) - (1 : Int32))]) (kd := 0) c_291_11 rfl (by decide) rfl ml_12_82 (by decide) rfl (rcv_0 rfl) (Nat.zero_le _) rfl rfl (t_Mo_in hS (by omega) σ x1 (0 : Int32) ((σ (rfT x0 0) (ix (7 : Int32))) - (1 : Int32))) (fun v11 => ?_)
  refine rf_ite (fun hc14 => ?_) (fun hc14 => ?_)
  · refine rf_b1t c_291_14 rfl (decide_eq_true hc14) ?_
    refine rf_ald (i := 0) (Or.inr ⟨0, rfl, rfl, rfl⟩) c_291_20 rfl ?_
    refine rf_ild (i := 1) (Or.inr ⟨1, rfl, rfl, rfl⟩) c_291_21 rfl ?_
    refine rf_iconst c_291_22 ki_4 ?_
    refine rf_callI (as := [.ref x0, .int x1, .int (4 : Int32)]) (kd := 1) c_291_23 rfl (by decide) rfl ml_12_353 (by decide) rfl (rcv_1 hS rfl rfl h_x0 (by decide)) (Nat.zero_le _) rfl rfl (t_Mo_copyOf hS (by omega) σ x0 x1 (4 : Int32) h_x0) (fun v23 => ?_)
    refine rf_ist (i := 2) (Or.inr ⟨2, rfl, rfl, rfl⟩) c_291_26 (Nat.le_of_ble_eq_true rfl) rfl ?_
    refine rf_ald (i := 0) (Or.inr ⟨0, rfl, rfl, rfl⟩) c_291_27 rfl ?_
    refine rf_getr hS c_291_28 rfl fl_12_9 rfl h_x0 ?_
    refine rf_sipush c_291_31 ks_5420 ?_
    refine rf_iconst c_291_34 ki_5 ?_
    refine rf_ild (i := 1) (Or.inr ⟨1, rfl, rfl, rfl⟩) c_291_35 rfl ?_
    refine rf_imul c_291_36 ?_
    refine rf_iadd c_291_37 ?_
    refine rf_iconst c_291_38 ki_4 ?_
    refine rf_iadd c_291_39 ?_
    refine rf_iconst c_291_40 ki_1 ?_
    refine rf_ite (fun hb41 => ?_) (fun _ => rf_none)
    refine rf_iast hS c_291_41 (tf_12_0 h_x0) (lf_12_0 h_x0) hb41 ?_
    refine rf_nm (fun σ41 => ?_)
    refine rf_iconst c_291_42 ki_1 ?_
    refine rf_ild (i := 2) (Or.inr ⟨2, rfl, rfl, rfl⟩) c_291_43 rfl ?_
    refine rf_isub c_291_44 ?_
    exact rf_ret c_291_45 rfl rfl rfl rfl
  · refine rf_b1f c_291_14 rfl (decide_eq_false hc14) ?_
    refine rf_ldc (Or.inl ⟨rfl, rfl⟩) c_291_17 rfl kl_12_91 ?_
    exact rf_ret c_291_19 rfl rfl rfl rfl
theorem t_Mo_comesBack {X : Xt} {S : Sh} (hS : ShOK S) {d : Nat} (hd : 1 ≤ d) (x0 : Nat) (x1 : Int32) (σ : Mm) (h_x0 : tgT x0 = 12) : Rf X S emM (f_Mo_comesBack x0 x1 σ) d 291 0 [.ref x0, .int x1, unset0] [] σ := by
  obtain ⟨d1, rfl⟩ : ∃ d1, d = d1 + 1 := ⟨d - 1, by omega⟩
  exact t_Mo_comesBack_e hS hd x0 x1 σ h_x0
theorem c_292_0 : cd 292 0 = some (.aload_n 0, 1) := by decide +kernel
theorem c_292_1 : cd 292 1 = some (.iload_n 1, 1) := by decide +kernel
theorem c_292_2 : cd 292 2 = some (.invokevirtual 87, 3) := by decide +kernel
theorem c_292_5 : cd 292 5 = some (.ifCond .ne (6), 3) := by decide +kernel
theorem c_292_8 : cd 292 8 = some (.ldc 91, 2) := by decide +kernel
theorem c_292_10 : cd 292 10 = some (.ireturn, 1) := by decide +kernel
theorem c_292_11 : cd 292 11 = some (.iconst (0), 1) := by decide +kernel
theorem c_292_12 : cd 292 12 = some (.istore_n 2, 1) := by decide +kernel
theorem c_292_13 : cd 292 13 = some (.iconst (0), 1) := by decide +kernel
theorem c_292_14 : cd 292 14 = some (.istore_n 3, 1) := by decide +kernel
theorem c_292_15 : cd 292 15 = some (.iload_n 3, 1) := by decide +kernel
theorem c_292_16 : cd 292 16 = some (.aload_n 0, 1) := by decide +kernel
theorem c_292_17 : cd 292 17 = some (.getfield 9, 3) := by decide +kernel
theorem c_292_20 : cd 292 20 = some (.bipush (7), 2) := by decide +kernel
theorem c_292_22 : cd 292 22 = some (.iaload, 1) := by decide +kernel
theorem c_292_23 : cd 292 23 = some (.if_icmp .ge (38), 3) := by decide +kernel
theorem c_292_26 : cd 292 26 = some (.iload_n 2, 1) := by decide +kernel
theorem c_292_27 : cd 292 27 = some (.aload_n 0, 1) := by decide +kernel
theorem c_292_28 : cd 292 28 = some (.iload_n 3, 1) := by decide +kernel
theorem c_292_29 : cd 292 29 = some (.iconst (1), 1) := by decide +kernel
theorem c_292_30 : cd 292 30 = some (.invokevirtual 353, 3) := by decide +kernel
theorem c_292_33 : cd 292 33 = some (.iload_n 1, 1) := by decide +kernel
theorem c_292_34 : cd 292 34 = some (.if_icmp .ne (18), 3) := by decide +kernel
theorem c_292_37 : cd 292 37 = some (.aload_n 0, 1) := by decide +kernel
theorem c_292_38 : cd 292 38 = some (.iload_n 3, 1) := by decide +kernel
theorem c_292_39 : cd 292 39 = some (.iconst (4), 1) := by decide +kernel
theorem c_292_40 : cd 292 40 = some (.invokevirtual 353, 3) := by decide +kernel
theorem c_292_43 : cd 292 43 = some (.ifCond .ne (9), 3) := by decide +kernel
theorem c_292_46 : cd 292 46 = some (.iconst (1), 1) := by decide +kernel
theorem c_292_47 : cd 292 47 = some (.iload_n 3, 1) := by decide +kernel
theorem c_292_48 : cd 292 48 = some (.ishl, 1) := by decide +kernel
theorem c_292_49 : cd 292 49 = some (.goto (4), 3) := by decide +kernel
theorem c_292_52 : cd 292 52 = some (.iconst (0), 1) := by decide +kernel
theorem c_292_53 : cd 292 53 = some (.ior, 1) := by decide +kernel
theorem c_292_54 : cd 292 54 = some (.istore_n 2, 1) := by decide +kernel
theorem c_292_55 : cd 292 55 = some (.iinc 3 (1), 3) := by decide +kernel
theorem c_292_58 : cd 292 58 = some (.goto (-43), 3) := by decide +kernel
theorem c_292_61 : cd 292 61 = some (.iload_n 2, 1) := by decide +kernel
theorem c_292_62 : cd 292 62 = some (.ireturn, 1) := by decide +kernel
def f_Mo_out_53 (σ : Mm) (k15 : Nat → Int32 → Int32 → Int32 → Option (Int32)) (x0 : Nat) (x1 : Int32) (x3 : Int32) (y0 : Int32) (y1 : Int32) : Option Int32 := k15 x0 x1 (y0 ||| y1) (x3 + (1 : Int32))
set_option maxRecDepth 100000 in
set_option maxHeartbeats 4000000 in
theorem t_Mo_out_53 {X : Xt} {S : Sh} (hS : ShOK S) {d : Nat} (hd : 2 ≤ d + 1) (σ : Mm) {k15 : Nat → Int32 → Int32 → Int32 → Option (Int32)} (hk15 : ∀ (x0 : Nat) (x1 : Int32) (x2 : Int32) (x3 : Int32) (h_x0 : tgT x0 = 12), Rf X S (emI σ) (k15 x0 x1 x2 x3) (d + 1) 292 15 [.ref x0, .int x1, .int x2, .int x3] [] σ) (x0 : Nat) (x1 : Int32) (x3 : Int32) (y0 : Int32) (y1 : Int32) (u2 : Value) (h_x0 : tgT x0 = 12) : Rf X S (emI σ) (f_Mo_out_53 σ k15 x0 x1 x3 y0 y1) (d + 1) 292 53 [.ref x0, .int x1, u2, .int x3] [.int y1, .int y0] σ := by
  unfold f_Mo_out_53
  refine rf_ior c_292_53 ?_
  refine rf_ist (i := 2) (Or.inr ⟨2, rfl, rfl, rfl⟩) c_292_54 (Nat.le_of_ble_eq_true rfl) rfl ?_
  refine rf_iinc c_292_55 rfl ki_1 rfl ?_
  refine rf_goto c_292_58 rfl ?_
  exact hk15 x0 x1 (y0 ||| y1) (x3 + (1 : Int32)) h_x0
def f_Mo_out_52 (σ : Mm) (k15 : Nat → Int32 → Int32 → Int32 → Option (Int32)) (x0 : Nat) (x1 : Int32) (x3 : Int32) (y0 : Int32) : Option Int32 := f_Mo_out_53 σ k15 x0 x1 x3 y0 (0 : Int32)
set_option maxRecDepth 100000 in
set_option maxHeartbeats 4000000 in
theorem t_Mo_out_52 {X : Xt} {S : Sh} (hS : ShOK S) {d : Nat} (hd : 2 ≤ d + 1) (σ : Mm) {k15 : Nat → Int32 → Int32 → Int32 → Option (Int32)} (hk15 : ∀ (x0 : Nat) (x1 : Int32) (x2 : Int32) (x3 : Int32) (h_x0 : tgT x0 = 12), Rf X S (emI σ) (k15 x0 x1 x2 x3) (d + 1) 292 15 [.ref x0, .int x1, .int x2, .int x3] [] σ) (x0 : Nat) (x1 : Int32) (x3 : Int32) (y0 : Int32) (u2 : Value) (h_x0 : tgT x0 = 12) : Rf X S (emI σ) (f_Mo_out_52 σ k15 x0 x1 x3 y0) (d + 1) 292 52 [.ref x0, .int x1, u2, .int x3] [.int y0] σ := by
  unfold f_Mo_out_52
  refine rf_iconst c_292_52 ki_0 ?_
  exact t_Mo_out_53 hS hd σ hk15 x0 x1 x3 y0 (0 : Int32) (u2) h_x0
def f_Mo_out_15 (σ : Mm) : Nat → Nat → Int32 → Int32 → Int32 → Option Int32
  | 0, _, _, _, _ => none
  | n + 1, x0, x1, x2, x3 => (if (σ (rfT x0 0) (ix (7 : Int32))) ≤ x3 then (some x2) else ((f_Mo_copyOf σ x0 x3 (1 : Int32)).bind fun v30 => (if ¬ v30 = x1 then (f_Mo_out_52 σ (f_Mo_out_15 σ n) x0 x1 x3 x2) else ((f_Mo_copyOf σ x0 x3 (4 : Int32)).bind fun v40 => (if ¬ v40 = 0 then (f_Mo_out_52 σ (f_Mo_out_15 σ n) x0 x1 x3 x2) else (f_Mo_out_53 σ (f_Mo_out_15 σ n) x0 x1 x3 x2 ((1 : Int32) <<< (x3 &&& 31))))))))
set_option maxRecDepth 100000 in
set_option maxHeartbeats 4000000 in
theorem t_Mo_out_15 {X : Xt} {S : Sh} (hS : ShOK S) {d : Nat} (hd : 2 ≤ d + 1) (σ : Mm) : ∀ (n : Nat) (x0 : Nat) (x1 : Int32) (x2 : Int32) (x3 : Int32) (h_x0 : tgT x0 = 12), Rf X S (emI σ) (f_Mo_out_15 σ n x0 x1 x2 x3) (d + 1) 292 15 [.ref x0, .int x1, .int x2, .int x3] [] σ := by
  intro n
  induction n with
  | zero => intro x0 x1 x2 x3 h_x0; exact rf_none
  | succ n ih =>
    intro x0 x1 x2 x3 h_x0
    rw [f_Mo_out_15]
    refine rf_ild (i := 3) (Or.inr ⟨3, rfl, rfl, rfl⟩) c_292_15 rfl ?_
    refine rf_ald (i := 0) (Or.inr ⟨0, rfl, rfl, rfl⟩) c_292_16 rfl ?_
    refine rf_getr hS c_292_17 rfl fl_12_9 rfl h_x0 ?_
    refine rf_bipush c_292_20 kb_7 ?_
    refine rf_iald hS c_292_22 (tf_12_0 h_x0) (lf_12_0 h_x0) (by decide) ?_
    refine rf_ite (fun hc23 => ?_) (fun hc23 => ?_)
    · refine rf_b2t c_292_23 rfl (decide_eq_true hc23) ?_
      refine rf_ild (i := 2) (Or.inr ⟨2, rfl, rfl, rfl⟩) c_292_61 rfl ?_
      exact rf_ret c_292_62 rfl rfl rfl rfl
    · refine rf_b2f c_292_23 rfl (decide_eq_false hc23) ?_
      refine rf_ild (i := 2) (Or.inr ⟨2, rfl, rfl, rfl⟩) c_292_26 rfl ?_
      refine rf_ald (i := 0) (Or.inr ⟨0, rfl, rfl, rfl⟩) c_292_27 rfl ?_
      refine rf_ild (i := 3) (Or.inr ⟨3, rfl, rfl, rfl⟩) c_292_28 rfl ?_
      refine rf_iconst c_292_29 ki_1 ?_
      refine rf_callI (as := [.ref x0, .int x3, .int (1 : Int32)]) (kd := 1) c_292_30 rfl (by decide) rfl ml_12_353 (by decide) rfl (rcv_1 hS rfl rfl h_x0 (by decide)) (by simp [Value.category]) rfl rfl (t_Mo_copyOf hS (by omega) σ x0 x3 (1 : Int32) h_x0) (fun v30 => ?_)
      refine rf_ild (i := 1) (Or.inr ⟨1, rfl, rfl, rfl⟩) c_292_33 rfl ?_
      refine rf_ite (fun hc34 => ?_) (fun hc34 => ?_)
      · refine rf_b2t c_292_34 rfl (decide_eq_true hc34) ?_
        exact t_Mo_out_52 hS hd σ ih x0 x1 x3 x2 (.int x2) h_x0
      · refine rf_b2f c_292_34 rfl (decide_eq_false hc34) ?_
        refine rf_ald (i := 0) (Or.inr ⟨0, rfl, rfl, rfl⟩) c_292_37 rfl ?_
        refine rf_ild (i := 3) (Or.inr ⟨3, rfl, rfl, rfl⟩) c_292_38 rfl ?_
        refine rf_iconst c_292_39 ki_4 ?_
        refine rf_callI (as := [.ref x0, .int x3, .int (4 : Int32)]) (kd := 1) c_292_40 rfl (by decide) rfl ml_12_353 (by decide) rfl (rcv_1 hS rfl rfl h_x0 (by decide)) (by simp [Value.category]) rfl rfl (t_Mo_copyOf hS (by omega) σ x0 x3 (4 : Int32) h_x0) (fun v40 => ?_)
        refine rf_ite (fun hc43 => ?_) (fun hc43 => ?_)
        · refine rf_b1t c_292_43 rfl (decide_eq_true hc43) ?_
          exact t_Mo_out_52 hS hd σ ih x0 x1 x3 x2 (.int x2) h_x0
        · refine rf_b1f c_292_43 rfl (decide_eq_false hc43) ?_
          refine rf_iconst c_292_46 ki_1 ?_
          refine rf_ild (i := 3) (Or.inr ⟨3, rfl, rfl, rfl⟩) c_292_47 rfl ?_
          refine rf_ishl c_292_48 ?_
          refine rf_goto c_292_49 rfl ?_
          exact t_Mo_out_53 hS hd σ ih x0 x1 x3 x2 ((1 : Int32) <<< (x3 &&& 31)) (.int x2) h_x0
def f_Mo_out (σ : Mm) (x0 : Nat) (x1 : Int32) : Option Int32 := (f_Mo_isOffice σ x0 x1).bind fun v2 => (if ¬ v2 = 0 then (f_Mo_out_15 σ NN x0 x1 (0 : Int32) (0 : Int32)) else (some (-1000000001 : Int32)))
set_option maxRecDepth 100000 in
set_option maxHeartbeats 4000000 in
theorem t_Mo_out_e {X : Xt} {S : Sh} (hS : ShOK S) {d : Nat} (hd : 2 ≤ d + 1) (σ : Mm) (x0 : Nat) (x1 : Int32) (h_x0 : tgT x0 = 12) : Rf X S (emI σ) (f_Mo_out σ x0 x1) (d + 1) 292 0 [.ref x0, .int x1, unset0, unset0] [] σ := by
  unfold f_Mo_out
  refine rf_ald (i := 0) (Or.inr ⟨0, rfl, rfl, rfl⟩) c_292_0 rfl ?_
  refine rf_ild (i := 1) (Or.inr ⟨1, rfl, rfl, rfl⟩) c_292_1 rfl ?_
  refine rf_callI (as := [.ref x0, .int x1]) (kd := 1) c_292_2 rfl (by decide) rfl ml_12_87 (by decide) rfl (rcv_1 hS rfl rfl h_x0 (by decide)) (Nat.zero_le _) rfl rfl (t_Mo_isOffice hS (by omega) σ x0 x1 h_x0) (fun v2 => ?_)
  refine rf_ite (fun hc5 => ?_) (fun hc5 => ?_)
  · refine rf_b1t c_292_5 rfl (decide_eq_true hc5) ?_
    refine rf_iconst c_292_11 ki_0 ?_
    refine rf_ist (i := 2) (Or.inr ⟨2, rfl, rfl, rfl⟩) c_292_12 (Nat.le_of_ble_eq_true rfl) rfl ?_
    refine rf_iconst c_292_13 ki_0 ?_
    refine rf_ist (i := 3) (Or.inr ⟨3, rfl, rfl, rfl⟩) c_292_14 (Nat.le_of_ble_eq_true rfl) rfl ?_
    exact t_Mo_out_15 hS hd σ  NN x0 x1 (0 : Int32) (0 : Int32) h_x0
  · refine rf_b1f c_292_5 rfl (decide_eq_false hc5) ?_
    refine rf_ldc (Or.inl ⟨rfl, rfl⟩) c_292_8 rfl kl_12_91 ?_
    exact rf_ret c_292_10 rfl rfl rfl rfl
theorem t_Mo_out {X : Xt} {S : Sh} (hS : ShOK S) {d : Nat} (hd : 2 ≤ d) (σ : Mm) (x0 : Nat) (x1 : Int32) (h_x0 : tgT x0 = 12) : Rf X S (emI σ) (f_Mo_out σ x0 x1) d 292 0 [.ref x0, .int x1, unset0, unset0] [] σ := by
  obtain ⟨d1, rfl⟩ : ∃ d1, d = d1 + 1 := ⟨d - 1, by omega⟩
  exact t_Mo_out_e hS hd σ x0 x1 h_x0
theorem c_293_0 : cd 293 0 = some (.iload_n 0, 1) := by decide +kernel
theorem c_293_1 : cd 293 1 = some (.iconst (2), 1) := by decide +kernel
theorem c_293_2 : cd 293 2 = some (.iload_n 1, 1) := by decide +kernel
theorem c_293_3 : cd 293 3 = some (.imul, 1) := by decide +kernel
theorem c_293_4 : cd 293 4 = some (.ishr, 1) := by decide +kernel
theorem c_293_5 : cd 293 5 = some (.iconst (3), 1) := by decide +kernel
theorem c_293_6 : cd 293 6 = some (.iand, 1) := by decide +kernel
theorem c_293_7 : cd 293 7 = some (.ireturn, 1) := by decide +kernel
def f_Mo_markAt (σ : Mm) (x0 : Int32) (x1 : Int32) : Option Int32 := some ((x0 >>> (((2 : Int32) * x1) &&& 31)) &&& (3 : Int32))
set_option maxRecDepth 100000 in
set_option maxHeartbeats 4000000 in
theorem t_Mo_markAt {X : Xt} {S : Sh} (hS : ShOK S) {d : Nat} (hd : 0 ≤ d) (σ : Mm) (x0 : Int32) (x1 : Int32) : Rf X S (emI σ) (f_Mo_markAt σ x0 x1) d 293 0 [.int x0, .int x1] [] σ := by
  unfold f_Mo_markAt
  refine rf_ild (i := 0) (Or.inr ⟨0, rfl, rfl, rfl⟩) c_293_0 rfl ?_
  refine rf_iconst c_293_1 ki_2 ?_
  refine rf_ild (i := 1) (Or.inr ⟨1, rfl, rfl, rfl⟩) c_293_2 rfl ?_
  refine rf_imul c_293_3 ?_
  refine rf_ishr c_293_4 ?_
  refine rf_iconst c_293_5 ki_3 ?_
  refine rf_iand c_293_6 ?_
  exact rf_ret c_293_7 rfl rfl rfl rfl
theorem c_294_0 : cd 294 0 = some (.iconst (0), 1) := by decide +kernel
theorem c_294_1 : cd 294 1 = some (.istore 4, 2) := by decide +kernel
theorem c_294_3 : cd 294 3 = some (.iconst (0), 1) := by decide +kernel
theorem c_294_4 : cd 294 4 = some (.istore 5, 2) := by decide +kernel
theorem c_294_6 : cd 294 6 = some (.iload 5, 2) := by decide +kernel
theorem c_294_8 : cd 294 8 = some (.aload_n 0, 1) := by decide +kernel
theorem c_294_9 : cd 294 9 = some (.getfield 9, 3) := by decide +kernel
theorem c_294_12 : cd 294 12 = some (.bipush (7), 2) := by decide +kernel
theorem c_294_14 : cd 294 14 = some (.iaload, 1) := by decide +kernel
theorem c_294_15 : cd 294 15 = some (.if_icmp .ge (103), 3) := by decide +kernel
theorem c_294_18 : cd 294 18 = some (.aload_n 0, 1) := by decide +kernel
theorem c_294_19 : cd 294 19 = some (.iload 5, 2) := by decide +kernel
theorem c_294_21 : cd 294 21 = some (.iconst (0), 1) := by decide +kernel
theorem c_294_22 : cd 294 22 = some (.invokevirtual 353, 3) := by decide +kernel
theorem c_294_25 : cd 294 25 = some (.iload_n 1, 1) := by decide +kernel
theorem c_294_26 : cd 294 26 = some (.if_icmp .ne (7), 3) := by decide +kernel
theorem c_294_29 : cd 294 29 = some (.iconst (1), 1) := by decide +kernel
theorem c_294_30 : cd 294 30 = some (.goto (4), 3) := by decide +kernel
theorem c_294_33 : cd 294 33 = some (.iconst (0), 1) := by decide +kernel
theorem c_294_34 : cd 294 34 = some (.istore 6, 2) := by decide +kernel
theorem c_294_36 : cd 294 36 = some (.iconst (0), 1) := by decide +kernel
theorem c_294_37 : cd 294 37 = some (.istore 7, 2) := by decide +kernel
theorem c_294_39 : cd 294 39 = some (.iload 7, 2) := by decide +kernel
theorem c_294_41 : cd 294 41 = some (.bipush (8), 2) := by decide +kernel
theorem c_294_43 : cd 294 43 = some (.if_icmp .ge (51), 3) := by decide +kernel
theorem c_294_46 : cd 294 46 = some (.iload 6, 2) := by decide +kernel
theorem c_294_48 : cd 294 48 = some (.ifCond .eq (37), 3) := by decide +kernel
theorem c_294_51 : cd 294 51 = some (.iload_n 2, 1) := by decide +kernel
theorem c_294_52 : cd 294 52 = some (.iload 7, 2) := by decide +kernel
theorem c_294_54 : cd 294 54 = some (.ishr, 1) := by decide +kernel
theorem c_294_55 : cd 294 55 = some (.iconst (1), 1) := by decide +kernel
theorem c_294_56 : cd 294 56 = some (.iand, 1) := by decide +kernel
theorem c_294_57 : cd 294 57 = some (.ifCond .eq (24), 3) := by decide +kernel
theorem c_294_60 : cd 294 60 = some (.aload_n 0, 1) := by decide +kernel
theorem c_294_61 : cd 294 61 = some (.iload 5, 2) := by decide +kernel
theorem c_294_63 : cd 294 63 = some (.iconst (3), 1) := by decide +kernel
theorem c_294_64 : cd 294 64 = some (.invokevirtual 353, 3) := by decide +kernel
theorem c_294_67 : cd 294 67 = some (.iload 7, 2) := by decide +kernel
theorem c_294_69 : cd 294 69 = some (.invokestatic 356, 3) := by decide +kernel
theorem c_294_72 : cd 294 72 = some (.iload_n 3, 1) := by decide +kernel
theorem c_294_73 : cd 294 73 = some (.iload 7, 2) := by decide +kernel
theorem c_294_75 : cd 294 75 = some (.invokestatic 356, 3) := by decide +kernel
theorem c_294_78 : cd 294 78 = some (.if_icmp .ne (7), 3) := by decide +kernel
theorem c_294_81 : cd 294 81 = some (.iconst (1), 1) := by decide +kernel
theorem c_294_82 : cd 294 82 = some (.goto (4), 3) := by decide +kernel
theorem c_294_85 : cd 294 85 = some (.iconst (0), 1) := by decide +kernel
theorem c_294_86 : cd 294 86 = some (.istore 6, 2) := by decide +kernel
theorem c_294_88 : cd 294 88 = some (.iinc 7 (1), 3) := by decide +kernel
theorem c_294_91 : cd 294 91 = some (.goto (-52), 3) := by decide +kernel
theorem c_294_94 : cd 294 94 = some (.iload 4, 2) := by decide +kernel
theorem c_294_96 : cd 294 96 = some (.iload 6, 2) := by decide +kernel
theorem c_294_98 : cd 294 98 = some (.ifCond .eq (10), 3) := by decide +kernel
theorem c_294_101 : cd 294 101 = some (.iconst (1), 1) := by decide +kernel
theorem c_294_102 : cd 294 102 = some (.iload 5, 2) := by decide +kernel
theorem c_294_104 : cd 294 104 = some (.ishl, 1) := by decide +kernel
theorem c_294_105 : cd 294 105 = some (.goto (4), 3) := by decide +kernel
theorem c_294_108 : cd 294 108 = some (.iconst (0), 1) := by decide +kernel
theorem c_294_109 : cd 294 109 = some (.ior, 1) := by decide +kernel
theorem c_294_110 : cd 294 110 = some (.istore 4, 2) := by decide +kernel
theorem c_294_112 : cd 294 112 = some (.iinc 5 (1), 3) := by decide +kernel
theorem c_294_115 : cd 294 115 = some (.goto (-109), 3) := by decide +kernel
theorem c_294_118 : cd 294 118 = some (.iload 4, 2) := by decide +kernel
theorem c_294_120 : cd 294 120 = some (.ireturn, 1) := by decide +kernel
def f_Mo_suspectOf_86 (σ : Mm) (k6 : Nat → Int32 → Int32 → Int32 → Int32 → Int32 → Option (Int32)) (k39 : Nat → Int32 → Int32 → Int32 → Int32 → Int32 → Int32 → Int32 → Option (Int32)) (x0 : Nat) (x1 : Int32) (x2 : Int32) (x3 : Int32) (x4 : Int32) (x5 : Int32) (x7 : Int32) (y0 : Int32) : Option Int32 := k39 x0 x1 x2 x3 x4 x5 y0 (x7 + (1 : Int32))
set_option maxRecDepth 100000 in
set_option maxHeartbeats 4000000 in
theorem t_Mo_suspectOf_86 {X : Xt} {S : Sh} (hS : ShOK S) {d : Nat} (hd : 1 ≤ d + 1) (σ : Mm) {k6 : Nat → Int32 → Int32 → Int32 → Int32 → Int32 → Option (Int32)} (hk6 : ∀ (x0 : Nat) (x1 : Int32) (x2 : Int32) (x3 : Int32) (x4 : Int32) (x5 : Int32) (u6 : Value) (u7 : Value) (h_x0 : tgT x0 = 12), Rf X S (emI σ) (k6 x0 x1 x2 x3 x4 x5) (d + 1) 294 6 [.ref x0, .int x1, .int x2, .int x3, .int x4, .int x5, u6, u7] [] σ) {k39 : Nat → Int32 → Int32 → Int32 → Int32 → Int32 → Int32 → Int32 → Option (Int32)} (hk39 : ∀ (x0 : Nat) (x1 : Int32) (x2 : Int32) (x3 : Int32) (x4 : Int32) (x5 : Int32) (x6 : Int32) (x7 : Int32) (h_x0 : tgT x0 = 12), Rf X S (emI σ) (k39 x0 x1 x2 x3 x4 x5 x6 x7) (d + 1) 294 39 [.ref x0, .int x1, .int x2, .int x3, .int x4, .int x5, .int x6, .int x7] [] σ) (x0 : Nat) (x1 : Int32) (x2 : Int32) (x3 : Int32) (x4 : Int32) (x5 : Int32) (x7 : Int32) (y0 : Int32) (u6 : Value) (h_x0 : tgT x0 = 12) : Rf X S (emI σ) (f_Mo_suspectOf_86 σ k6 k39 x0 x1 x2 x3 x4 x5 x7 y0) (d + 1) 294 86 [.ref x0, .int x1, .int x2, .int x3, .int x4, .int x5, u6, .int x7] [.int y0] σ := by
  unfold f_Mo_suspectOf_86
  refine rf_ist (i := 6) (Or.inl ⟨rfl, rfl⟩) c_294_86 (Nat.le_of_ble_eq_true rfl) rfl ?_
  refine rf_iinc c_294_88 rfl ki_1 rfl ?_
  refine rf_goto c_294_91 rfl ?_
  exact hk39 x0 x1 x2 x3 x4 x5 y0 (x7 + (1 : Int32)) h_x0
def f_Mo_suspectOf_81 (σ : Mm) (k6 : Nat → Int32 → Int32 → Int32 → Int32 → Int32 → Option (Int32)) (k39 : Nat → Int32 → Int32 → Int32 → Int32 → Int32 → Int32 → Int32 → Option (Int32)) (x0 : Nat) (x1 : Int32) (x2 : Int32) (x3 : Int32) (x4 : Int32) (x5 : Int32) (x7 : Int32) : Option Int32 := f_Mo_suspectOf_86 σ k6 k39 x0 x1 x2 x3 x4 x5 x7 (1 : Int32)
set_option maxRecDepth 100000 in
set_option maxHeartbeats 4000000 in
theorem t_Mo_suspectOf_81 {X : Xt} {S : Sh} (hS : ShOK S) {d : Nat} (hd : 1 ≤ d + 1) (σ : Mm) {k6 : Nat → Int32 → Int32 → Int32 → Int32 → Int32 → Option (Int32)} (hk6 : ∀ (x0 : Nat) (x1 : Int32) (x2 : Int32) (x3 : Int32) (x4 : Int32) (x5 : Int32) (u6 : Value) (u7 : Value) (h_x0 : tgT x0 = 12), Rf X S (emI σ) (k6 x0 x1 x2 x3 x4 x5) (d + 1) 294 6 [.ref x0, .int x1, .int x2, .int x3, .int x4, .int x5, u6, u7] [] σ) {k39 : Nat → Int32 → Int32 → Int32 → Int32 → Int32 → Int32 → Int32 → Option (Int32)} (hk39 : ∀ (x0 : Nat) (x1 : Int32) (x2 : Int32) (x3 : Int32) (x4 : Int32) (x5 : Int32) (x6 : Int32) (x7 : Int32) (h_x0 : tgT x0 = 12), Rf X S (emI σ) (k39 x0 x1 x2 x3 x4 x5 x6 x7) (d + 1) 294 39 [.ref x0, .int x1, .int x2, .int x3, .int x4, .int x5, .int x6, .int x7] [] σ) (x0 : Nat) (x1 : Int32) (x2 : Int32) (x3 : Int32) (x4 : Int32) (x5 : Int32) (x7 : Int32) (u6 : Value) (h_x0 : tgT x0 = 12) : Rf X S (emI σ) (f_Mo_suspectOf_81 σ k6 k39 x0 x1 x2 x3 x4 x5 x7) (d + 1) 294 81 [.ref x0, .int x1, .int x2, .int x3, .int x4, .int x5, u6, .int x7] [] σ := by
  unfold f_Mo_suspectOf_81
  refine rf_iconst c_294_81 ki_1 ?_
  refine rf_goto c_294_82 rfl ?_
  exact t_Mo_suspectOf_86 hS hd σ hk6 hk39 x0 x1 x2 x3 x4 x5 x7 (1 : Int32) (u6) h_x0
def f_Mo_suspectOf_85 (σ : Mm) (k6 : Nat → Int32 → Int32 → Int32 → Int32 → Int32 → Option (Int32)) (k39 : Nat → Int32 → Int32 → Int32 → Int32 → Int32 → Int32 → Int32 → Option (Int32)) (x0 : Nat) (x1 : Int32) (x2 : Int32) (x3 : Int32) (x4 : Int32) (x5 : Int32) (x7 : Int32) : Option Int32 := f_Mo_suspectOf_86 σ k6 k39 x0 x1 x2 x3 x4 x5 x7 (0 : Int32)
set_option maxRecDepth 100000 in
set_option maxHeartbeats 4000000 in
theorem t_Mo_suspectOf_85 {X : Xt} {S : Sh} (hS : ShOK S) {d : Nat} (hd : 1 ≤ d + 1) (σ : Mm) {k6 : Nat → Int32 → Int32 → Int32 → Int32 → Int32 → Option (Int32)} (hk6 : ∀ (x0 : Nat) (x1 : Int32) (x2 : Int32) (x3 : Int32) (x4 : Int32) (x5 : Int32) (u6 : Value) (u7 : Value) (h_x0 : tgT x0 = 12), Rf X S (emI σ) (k6 x0 x1 x2 x3 x4 x5) (d + 1) 294 6 [.ref x0, .int x1, .int x2, .int x3, .int x4, .int x5, u6, u7] [] σ) {k39 : Nat → Int32 → Int32 → Int32 → Int32 → Int32 → Int32 → Int32 → Option (Int32)} (hk39 : ∀ (x0 : Nat) (x1 : Int32) (x2 : Int32) (x3 : Int32) (x4 : Int32) (x5 : Int32) (x6 : Int32) (x7 : Int32) (h_x0 : tgT x0 = 12), Rf X S (emI σ) (k39 x0 x1 x2 x3 x4 x5 x6 x7) (d + 1) 294 39 [.ref x0, .int x1, .int x2, .int x3, .int x4, .int x5, .int x6, .int x7] [] σ) (x0 : Nat) (x1 : Int32) (x2 : Int32) (x3 : Int32) (x4 : Int32) (x5 : Int32) (x7 : Int32) (u6 : Value) (h_x0 : tgT x0 = 12) : Rf X S (emI σ) (f_Mo_suspectOf_85 σ k6 k39 x0 x1 x2 x3 x4 x5 x7) (d + 1) 294 85 [.ref x0, .int x1, .int x2, .int x3, .int x4, .int x5, u6, .int x7] [] σ := by
  unfold f_Mo_suspectOf_85
  refine rf_iconst c_294_85 ki_0 ?_
  exact t_Mo_suspectOf_86 hS hd σ hk6 hk39 x0 x1 x2 x3 x4 x5 x7 (0 : Int32) (u6) h_x0
def f_Mo_suspectOf_109 (σ : Mm) (k6 : Nat → Int32 → Int32 → Int32 → Int32 → Int32 → Option (Int32)) (x0 : Nat) (x1 : Int32) (x2 : Int32) (x3 : Int32) (x5 : Int32) (y0 : Int32) (y1 : Int32) : Option Int32 := k6 x0 x1 x2 x3 (y0 ||| y1) (x5 + (1 : Int32))
set_option maxRecDepth 100000 in
set_option maxHeartbeats 4000000 in
theorem t_Mo_suspectOf_109 {X : Xt} {S : Sh} (hS : ShOK S) {d : Nat} (hd : 1 ≤ d + 1) (σ : Mm) {k6 : Nat → Int32 → Int32 → Int32 → Int32 → Int32 → Option (Int32)} (hk6 : ∀ (x0 : Nat) (x1 : Int32) (x2 : Int32) (x3 : Int32) (x4 : Int32) (x5 : Int32) (u6 : Value) (u7 : Value) (h_x0 : tgT x0 = 12), Rf X S (emI σ) (k6 x0 x1 x2 x3 x4 x5) (d + 1) 294 6 [.ref x0, .int x1, .int x2, .int x3, .int x4, .int x5, u6, u7] [] σ) (x0 : Nat) (x1 : Int32) (x2 : Int32) (x3 : Int32) (x5 : Int32) (y0 : Int32) (y1 : Int32) (u4 : Value) (u6 : Value) (u7 : Value) (h_x0 : tgT x0 = 12) : Rf X S (emI σ) (f_Mo_suspectOf_109 σ k6 x0 x1 x2 x3 x5 y0 y1) (d + 1) 294 109 [.ref x0, .int x1, .int x2, .int x3, u4, .int x5, u6, u7] [.int y1, .int y0] σ := by
  unfold f_Mo_suspectOf_109
  refine rf_ior c_294_109 ?_
  refine rf_ist (i := 4) (Or.inl ⟨rfl, rfl⟩) c_294_110 (Nat.le_of_ble_eq_true rfl) rfl ?_
  refine rf_iinc c_294_112 rfl ki_1 rfl ?_
  refine rf_goto c_294_115 rfl ?_
  exact hk6 x0 x1 x2 x3 (y0 ||| y1) (x5 + (1 : Int32)) (u6) (u7) h_x0
def f_Mo_suspectOf_39 (σ : Mm) (k6 : Nat → Int32 → Int32 → Int32 → Int32 → Int32 → Option (Int32)) : Nat → Nat → Int32 → Int32 → Int32 → Int32 → Int32 → Int32 → Int32 → Option Int32
  | 0, _, _, _, _, _, _, _, _ => none
  | n + 1, x0, x1, x2, x3, x4, x5, x6, x7 => (if (8 : Int32) ≤ x7 then (if x6 = 0 then (f_Mo_suspectOf_109 σ k6 x0 x1 x2 x3 x5 x4 (0 : Int32)) else (f_Mo_suspectOf_109 σ k6 x0 x1 x2 x3 x5 x4 ((1 : Int32) <<< (x5 &&& 31)))) else (if x6 = 0 then (f_Mo_suspectOf_85 σ k6 (f_Mo_suspectOf_39 σ k6 n) x0 x1 x2 x3 x4 x5 x7) else (if ((x2 >>> (x7 &&& 31)) &&& (1 : Int32)) = 0 then (f_Mo_suspectOf_81 σ k6 (f_Mo_suspectOf_39 σ k6 n) x0 x1 x2 x3 x4 x5 x7) else ((f_Mo_copyOf σ x0 x5 (3 : Int32)).bind fun v64 => (f_Mo_markAt σ v64 x7).bind fun v69 => (f_Mo_markAt σ x3 x7).bind fun v75 => (if ¬ v69 = v75 then (f_Mo_suspectOf_85 σ k6 (f_Mo_suspectOf_39 σ k6 n) x0 x1 x2 x3 x4 x5 x7) else (f_Mo_suspectOf_81 σ k6 (f_Mo_suspectOf_39 σ k6 n) x0 x1 x2 x3 x4 x5 x7))))))
set_option maxRecDepth 100000 in
set_option maxHeartbeats 4000000 in
theorem t_Mo_suspectOf_39 {X : Xt} {S : Sh} (hS : ShOK S) {d : Nat} (hd : 1 ≤ d + 1) (σ : Mm) {k6 : Nat → Int32 → Int32 → Int32 → Int32 → Int32 → Option (Int32)} (hk6 : ∀ (x0 : Nat) (x1 : Int32) (x2 : Int32) (x3 : Int32) (x4 : Int32) (x5 : Int32) (u6 : Value) (u7 : Value) (h_x0 : tgT x0 = 12), Rf X S (emI σ) (k6 x0 x1 x2 x3 x4 x5) (d + 1) 294 6 [.ref x0, .int x1, .int x2, .int x3, .int x4, .int x5, u6, u7] [] σ) : ∀ (n : Nat) (x0 : Nat) (x1 : Int32) (x2 : Int32) (x3 : Int32) (x4 : Int32) (x5 : Int32) (x6 : Int32) (x7 : Int32) (h_x0 : tgT x0 = 12), Rf X S (emI σ) (f_Mo_suspectOf_39 σ k6 n x0 x1 x2 x3 x4 x5 x6 x7) (d + 1) 294 39 [.ref x0, .int x1, .int x2, .int x3, .int x4, .int x5, .int x6, .int x7] [] σ := by
  intro n
  induction n with
  | zero => intro x0 x1 x2 x3 x4 x5 x6 x7 h_x0; exact rf_none
  | succ n ih =>
    intro x0 x1 x2 x3 x4 x5 x6 x7 h_x0
    rw [f_Mo_suspectOf_39]
    refine rf_ild (i := 7) (Or.inl ⟨rfl, rfl⟩) c_294_39 rfl ?_
    refine rf_bipush c_294_41 kb_8 ?_
    refine rf_ite (fun hc43 => ?_) (fun hc43 => ?_)
    · refine rf_b2t c_294_43 rfl (decide_eq_true hc43) ?_
      refine rf_ild (i := 4) (Or.inl ⟨rfl, rfl⟩) c_294_94 rfl ?_
      refine rf_ild (i := 6) (Or.inl ⟨rfl, rfl⟩) c_294_96 rfl ?_
      refine rf_ite (fun hc98 => ?_) (fun hc98 => ?_)
      · refine rf_b1t c_294_98 rfl (decide_eq_true hc98) ?_
        refine rf_iconst c_294_108 ki_0 ?_
        exact t_Mo_suspectOf_109 hS hd σ hk6 x0 x1 x2 x3 x5 x4 (0 : Int32) (.int x4) (.int x6) (.int x7) h_x0
      · refine rf_b1f c_294_98 rfl (decide_eq_false hc98) ?_
        refine rf_iconst c_294_101 ki_1 ?_
        refine rf_ild (i := 5) (Or.inl ⟨rfl, rfl⟩) c_294_102 rfl ?_
        refine rf_ishl c_294_104 ?_
        refine rf_goto c_294_105 rfl ?_
        exact t_Mo_suspectOf_109 hS hd σ hk6 x0 x1 x2 x3 x5 x4 ((1 : Int32) <<< (x5 &&& 31)) (.int x4) (.int x6) (.int x7) h_x0
    · refine rf_b2f c_294_43 rfl (decide_eq_false hc43) ?_
      refine rf_ild (i := 6) (Or.inl ⟨rfl, rfl⟩) c_294_46 rfl ?_
      refine rf_ite (fun hc48 => ?_) (fun hc48 => ?_)
      · refine rf_b1t c_294_48 rfl (decide_eq_true hc48) ?_
        exact t_Mo_suspectOf_85 hS hd σ hk6 ih x0 x1 x2 x3 x4 x5 x7 (.int x6) h_x0
      · refine rf_b1f c_294_48 rfl (decide_eq_false hc48) ?_
        refine rf_ild (i := 2) (Or.inr ⟨2, rfl, rfl, rfl⟩) c_294_51 rfl ?_
        refine rf_ild (i := 7) (Or.inl ⟨rfl, rfl⟩) c_294_52 rfl ?_
        refine rf_ishr c_294_54 ?_
        refine rf_iconst c_294_55 ki_1 ?_
        refine rf_iand c_294_56 ?_
        refine rf_ite (fun hc57 => ?_) (fun hc57 => ?_)
        · refine rf_b1t c_294_57 rfl (decide_eq_true hc57) ?_
          exact t_Mo_suspectOf_81 hS hd σ hk6 ih x0 x1 x2 x3 x4 x5 x7 (.int x6) h_x0
        · refine rf_b1f c_294_57 rfl (decide_eq_false hc57) ?_
          refine rf_ald (i := 0) (Or.inr ⟨0, rfl, rfl, rfl⟩) c_294_60 rfl ?_
          refine rf_ild (i := 5) (Or.inl ⟨rfl, rfl⟩) c_294_61 rfl ?_
          refine rf_iconst c_294_63 ki_3 ?_
          refine rf_callI (as := [.ref x0, .int x5, .int (3 : Int32)]) (kd := 1) c_294_64 rfl (by decide) rfl ml_12_353 (by decide) rfl (rcv_1 hS rfl rfl h_x0 (by decide)) (Nat.zero_le _) rfl rfl (t_Mo_copyOf hS (by omega) σ x0 x5 (3 : Int32) h_x0) (fun v64 => ?_)
          refine rf_ild (i := 7) (Or.inl ⟨rfl, rfl⟩) c_294_67 rfl ?_
          refine rf_callI (as := [.int v64, .int x7]) (kd := 0) c_294_69 rfl (by decide) rfl ml_12_356 (by decide) rfl (rcv_0 rfl) (Nat.zero_le _) rfl rfl (t_Mo_markAt hS (by omega) σ v64 x7) (fun v69 => ?_)
          refine rf_ild (i := 3) (Or.inr ⟨3, rfl, rfl, rfl⟩) c_294_72 rfl ?_
          refine rf_ild (i := 7) (Or.inl ⟨rfl, rfl⟩) c_294_73 rfl ?_
          refine rf_callI (as := [.int x3, .int x7]) (kd := 0) c_294_75 rfl (by decide) rfl ml_12_356 (by decide) rfl (rcv_0 rfl) (by simp [Value.category]) rfl rfl (t_Mo_markAt hS (by omega) σ x3 x7) (fun v75 => ?_)
          refine rf_ite (fun hc78 => ?_) (fun hc78 => ?_)
          · refine rf_b2t c_294_78 rfl (decide_eq_true hc78) ?_
            exact t_Mo_suspectOf_85 hS hd σ hk6 ih x0 x1 x2 x3 x4 x5 x7 (.int x6) h_x0
          · refine rf_b2f c_294_78 rfl (decide_eq_false hc78) ?_
            exact t_Mo_suspectOf_81 hS hd σ hk6 ih x0 x1 x2 x3 x4 x5 x7 (.int x6) h_x0
def f_Mo_suspectOf_34 (σ : Mm) (k6 : Nat → Int32 → Int32 → Int32 → Int32 → Int32 → Option (Int32)) (x0 : Nat) (x1 : Int32) (x2 : Int32) (x3 : Int32) (x4 : Int32) (x5 : Int32) (y0 : Int32) : Option Int32 := f_Mo_suspectOf_39 σ k6 NN x0 x1 x2 x3 x4 x5 y0 (0 : Int32)
set_option maxRecDepth 100000 in
set_option maxHeartbeats 4000000 in
theorem t_Mo_suspectOf_34 {X : Xt} {S : Sh} (hS : ShOK S) {d : Nat} (hd : 1 ≤ d + 1) (σ : Mm) {k6 : Nat → Int32 → Int32 → Int32 → Int32 → Int32 → Option (Int32)} (hk6 : ∀ (x0 : Nat) (x1 : Int32) (x2 : Int32) (x3 : Int32) (x4 : Int32) (x5 : Int32) (u6 : Value) (u7 : Value) (h_x0 : tgT x0 = 12), Rf X S (emI σ) (k6 x0 x1 x2 x3 x4 x5) (d + 1) 294 6 [.ref x0, .int x1, .int x2, .int x3, .int x4, .int x5, u6, u7] [] σ) (x0 : Nat) (x1 : Int32) (x2 : Int32) (x3 : Int32) (x4 : Int32) (x5 : Int32) (y0 : Int32) (u6 : Value) (u7 : Value) (h_x0 : tgT x0 = 12) : Rf X S (emI σ) (f_Mo_suspectOf_34 σ k6 x0 x1 x2 x3 x4 x5 y0) (d + 1) 294 34 [.ref x0, .int x1, .int x2, .int x3, .int x4, .int x5, u6, u7] [.int y0] σ := by
  unfold f_Mo_suspectOf_34
  refine rf_ist (i := 6) (Or.inl ⟨rfl, rfl⟩) c_294_34 (Nat.le_of_ble_eq_true rfl) rfl ?_
  refine rf_iconst c_294_36 ki_0 ?_
  refine rf_ist (i := 7) (Or.inl ⟨rfl, rfl⟩) c_294_37 (Nat.le_of_ble_eq_true rfl) rfl ?_
  exact t_Mo_suspectOf_39 hS hd σ hk6 NN x0 x1 x2 x3 x4 x5 y0 (0 : Int32) h_x0
def f_Mo_suspectOf_6 (σ : Mm) : Nat → Nat → Int32 → Int32 → Int32 → Int32 → Int32 → Option Int32
  | 0, _, _, _, _, _, _ => none
  | n + 1, x0, x1, x2, x3, x4, x5 => (if (σ (rfT x0 0) (ix (7 : Int32))) ≤ x5 then (some x4) else ((f_Mo_copyOf σ x0 x5 (0 : Int32)).bind fun v22 => (if ¬ v22 = x1 then (f_Mo_suspectOf_34 σ (f_Mo_suspectOf_6 σ n) x0 x1 x2 x3 x4 x5 (0 : Int32)) else (f_Mo_suspectOf_34 σ (f_Mo_suspectOf_6 σ n) x0 x1 x2 x3 x4 x5 (1 : Int32)))))
set_option maxRecDepth 100000 in
set_option maxHeartbeats 4000000 in
theorem t_Mo_suspectOf_6 {X : Xt} {S : Sh} (hS : ShOK S) {d : Nat} (hd : 1 ≤ d + 1) (σ : Mm) : ∀ (n : Nat) (x0 : Nat) (x1 : Int32) (x2 : Int32) (x3 : Int32) (x4 : Int32) (x5 : Int32) (u6 : Value) (u7 : Value) (h_x0 : tgT x0 = 12), Rf X S (emI σ) (f_Mo_suspectOf_6 σ n x0 x1 x2 x3 x4 x5) (d + 1) 294 6 [.ref x0, .int x1, .int x2, .int x3, .int x4, .int x5, u6, u7] [] σ := by
  intro n
  induction n with
  | zero => intro x0 x1 x2 x3 x4 x5 u6 u7 h_x0; exact rf_none
  | succ n ih =>
    intro x0 x1 x2 x3 x4 x5 u6 u7 h_x0
    rw [f_Mo_suspectOf_6]
    refine rf_ild (i := 5) (Or.inl ⟨rfl, rfl⟩) c_294_6 rfl ?_
    refine rf_ald (i := 0) (Or.inr ⟨0, rfl, rfl, rfl⟩) c_294_8 rfl ?_
    refine rf_getr hS c_294_9 rfl fl_12_9 rfl h_x0 ?_
    refine rf_bipush c_294_12 kb_7 ?_
    refine rf_iald hS c_294_14 (tf_12_0 h_x0) (lf_12_0 h_x0) (by decide) ?_
    refine rf_ite (fun hc15 => ?_) (fun hc15 => ?_)
    · refine rf_b2t c_294_15 rfl (decide_eq_true hc15) ?_
      refine rf_ild (i := 4) (Or.inl ⟨rfl, rfl⟩) c_294_118 rfl ?_
      exact rf_ret c_294_120 rfl rfl rfl rfl
    · refine rf_b2f c_294_15 rfl (decide_eq_false hc15) ?_
      refine rf_ald (i := 0) (Or.inr ⟨0, rfl, rfl, rfl⟩) c_294_18 rfl ?_
      refine rf_ild (i := 5) (Or.inl ⟨rfl, rfl⟩) c_294_19 rfl ?_
      refine rf_iconst c_294_21 ki_0 ?_
      refine rf_callI (as := [.ref x0, .int x5, .int (0 : Int32)]) (kd := 1) c_294_22 rfl (by decide) rfl ml_12_353 (by decide) rfl (rcv_1 hS rfl rfl h_x0 (by decide)) (Nat.zero_le _) rfl rfl (t_Mo_copyOf hS (by omega) σ x0 x5 (0 : Int32) h_x0) (fun v22 => ?_)
      refine rf_ild (i := 1) (Or.inr ⟨1, rfl, rfl, rfl⟩) c_294_25 rfl ?_
      refine rf_ite (fun hc26 => ?_) (fun hc26 => ?_)
      · refine rf_b2t c_294_26 rfl (decide_eq_true hc26) ?_
        refine rf_iconst c_294_33 ki_0 ?_
        exact t_Mo_suspectOf_34 hS hd σ ih x0 x1 x2 x3 x4 x5 (0 : Int32) (u6) (u7) h_x0
      · refine rf_b2f c_294_26 rfl (decide_eq_false hc26) ?_
        refine rf_iconst c_294_29 ki_1 ?_
        refine rf_goto c_294_30 rfl ?_
        exact t_Mo_suspectOf_34 hS hd σ ih x0 x1 x2 x3 x4 x5 (1 : Int32) (u6) (u7) h_x0
def f_Mo_suspectOf (σ : Mm) (x0 : Nat) (x1 : Int32) (x2 : Int32) (x3 : Int32) : Option Int32 := f_Mo_suspectOf_6 σ NN x0 x1 x2 x3 (0 : Int32) (0 : Int32)
set_option maxRecDepth 100000 in
set_option maxHeartbeats 4000000 in
theorem t_Mo_suspectOf_e {X : Xt} {S : Sh} (hS : ShOK S) {d : Nat} (hd : 1 ≤ d + 1) (σ : Mm) (x0 : Nat) (x1 : Int32) (x2 : Int32) (x3 : Int32) (h_x0 : tgT x0 = 12) : Rf X S (emI σ) (f_Mo_suspectOf σ x0 x1 x2 x3) (d + 1) 294 0 [.ref x0, .int x1, .int x2, .int x3, unset0, unset0, unset0, unset0] [] σ := by
  unfold f_Mo_suspectOf
  refine rf_iconst c_294_0 ki_0 ?_
  refine rf_ist (i := 4) (Or.inl ⟨rfl, rfl⟩) c_294_1 (Nat.le_of_ble_eq_true rfl) rfl ?_
  refine rf_iconst c_294_3 ki_0 ?_
  refine rf_ist (i := 5) (Or.inl ⟨rfl, rfl⟩) c_294_4 (Nat.le_of_ble_eq_true rfl) rfl ?_
  exact t_Mo_suspectOf_6 hS hd σ  NN x0 x1 x2 x3 (0 : Int32) (0 : Int32) (unset0) (unset0) h_x0
theorem t_Mo_suspectOf {X : Xt} {S : Sh} (hS : ShOK S) {d : Nat} (hd : 1 ≤ d) (σ : Mm) (x0 : Nat) (x1 : Int32) (x2 : Int32) (x3 : Int32) (h_x0 : tgT x0 = 12) : Rf X S (emI σ) (f_Mo_suspectOf σ x0 x1 x2 x3) d 294 0 [.ref x0, .int x1, .int x2, .int x3, unset0, unset0, unset0, unset0] [] σ := by
  obtain ⟨d1, rfl⟩ : ∃ d1, d = d1 + 1 := ⟨d - 1, by omega⟩
  exact t_Mo_suspectOf_e hS hd σ x0 x1 x2 x3 h_x0
theorem c_295_0 : cd 295 0 = some (.aload_n 0, 1) := by decide +kernel
theorem c_295_1 : cd 295 1 = some (.iload_n 1, 1) := by decide +kernel
theorem c_295_2 : cd 295 2 = some (.invokevirtual 141, 3) := by decide +kernel
theorem c_295_5 : cd 295 5 = some (.ifCond .eq (29), 3) := by decide +kernel
theorem c_295_8 : cd 295 8 = some (.iload_n 2, 1) := by decide +kernel
theorem c_295_9 : cd 295 9 = some (.iconst (0), 1) := by decide +kernel
theorem c_295_10 : cd 295 10 = some (.sipush (255), 3) := by decide +kernel
theorem c_295_13 : cd 295 13 = some (.invokestatic 82, 3) := by decide +kernel
theorem c_295_16 : cd 295 16 = some (.ifCond .eq (18), 3) := by decide +kernel
theorem c_295_19 : cd 295 19 = some (.iload_n 3, 1) := by decide +kernel
theorem c_295_20 : cd 295 20 = some (.iconst (0), 1) := by decide +kernel
theorem c_295_21 : cd 295 21 = some (.ldc_w 352, 3) := by decide +kernel
theorem c_295_24 : cd 295 24 = some (.invokestatic 82, 3) := by decide +kernel
theorem c_295_27 : cd 295 27 = some (.ifCond .eq (7), 3) := by decide +kernel
theorem c_295_30 : cd 295 30 = some (.iconst (1), 1) := by decide +kernel
theorem c_295_31 : cd 295 31 = some (.goto (4), 3) := by decide +kernel
theorem c_295_34 : cd 295 34 = some (.iconst (0), 1) := by decide +kernel
theorem c_295_35 : cd 295 35 = some (.ireturn, 1) := by decide +kernel
def f_Mo_isPrinted_35 (σ : Mm) (y0 : Int32) : Option Int32 := if zB y0 = true then some y0 else none
set_option maxRecDepth 100000 in
set_option maxHeartbeats 4000000 in
theorem t_Mo_isPrinted_35 {X : Xt} {S : Sh} (hS : ShOK S) {d : Nat} (hd : 2 ≤ d + 1) (σ : Mm) (y0 : Int32) (u0 : Value) (u1 : Value) (u2 : Value) (u3 : Value) : Rf X S (emI σ) (f_Mo_isPrinted_35 σ y0) (d + 1) 295 35 [u0, u1, u2, u3] [.int y0] σ := by
  unfold f_Mo_isPrinted_35
  refine rf_ite (fun hq35 => ?_) (fun _ => rf_none)
  exact rf_ret c_295_35 rfl (zB_n hq35) rfl rfl
def f_Mo_isPrinted_34 (σ : Mm) : Option Int32 := f_Mo_isPrinted_35 σ (0 : Int32)
set_option maxRecDepth 100000 in
set_option maxHeartbeats 4000000 in
theorem t_Mo_isPrinted_34 {X : Xt} {S : Sh} (hS : ShOK S) {d : Nat} (hd : 2 ≤ d + 1) (σ : Mm) (u0 : Value) (u1 : Value) (u2 : Value) (u3 : Value) : Rf X S (emI σ) (f_Mo_isPrinted_34 σ) (d + 1) 295 34 [u0, u1, u2, u3] [] σ := by
  unfold f_Mo_isPrinted_34
  refine rf_iconst c_295_34 ki_0 ?_
  exact t_Mo_isPrinted_35 hS hd σ  (0 : Int32) (u0) (u1) (u2) (u3)
def f_Mo_isPrinted (σ : Mm) (x0 : Nat) (x1 : Int32) (x2 : Int32) (x3 : Int32) : Option Int32 := (f_Mo_isPaper σ x0 x1).bind fun v2 => (if v2 = 0 then (f_Mo_isPrinted_34 σ ) else ((f_Mo_in σ x2 (0 : Int32) (255 : Int32)).bind fun v13 => (if v13 = 0 then (f_Mo_isPrinted_34 σ ) else ((f_Mo_in σ x3 (0 : Int32) (65535 : Int32)).bind fun v24 => (if v24 = 0 then (f_Mo_isPrinted_34 σ ) else (f_Mo_isPrinted_35 σ (1 : Int32)))))))
set_option maxRecDepth 100000 in
set_option maxHeartbeats 4000000 in
theorem t_Mo_isPrinted_e {X : Xt} {S : Sh} (hS : ShOK S) {d : Nat} (hd : 2 ≤ d + 1) (σ : Mm) (x0 : Nat) (x1 : Int32) (x2 : Int32) (x3 : Int32) (h_x0 : tgT x0 = 12) : Rf X S (emI σ) (f_Mo_isPrinted σ x0 x1 x2 x3) (d + 1) 295 0 [.ref x0, .int x1, .int x2, .int x3] [] σ := by
  unfold f_Mo_isPrinted
  refine rf_ald (i := 0) (Or.inr ⟨0, rfl, rfl, rfl⟩) c_295_0 rfl ?_
  refine rf_ild (i := 1) (Or.inr ⟨1, rfl, rfl, rfl⟩) c_295_1 rfl ?_
  refine rf_callI (as := [.ref x0, .int x1]) (kd := 1) c_295_2 rfl (by decide) rfl ml_12_141 (by decide) rfl (rcv_1 hS rfl rfl h_x0 (by decide)) (Nat.zero_le _) rfl rfl (t_Mo_isPaper hS (by omega) σ x0 x1 h_x0) (fun v2 => ?_)
  refine rf_ite (fun hc5 => ?_) (fun hc5 => ?_)
  · refine rf_b1t c_295_5 rfl (decide_eq_true hc5) ?_
    exact t_Mo_isPrinted_34 hS hd σ  (.ref x0) (.int x1) (.int x2) (.int x3)
  · refine rf_b1f c_295_5 rfl (decide_eq_false hc5) ?_
    refine rf_ild (i := 2) (Or.inr ⟨2, rfl, rfl, rfl⟩) c_295_8 rfl ?_
    refine rf_iconst c_295_9 ki_0 ?_
    refine rf_sipush c_295_10 ks_255 ?_
    refine rf_callI (as := [.int x2, .int (0 : Int32), .int (255 : Int32)]) (kd := 0) c_295_13 rfl (by decide) rfl ml_12_82 (by decide) rfl (rcv_0 rfl) (Nat.zero_le _) rfl rfl (t_Mo_in hS (by omega) σ x2 (0 : Int32) (255 : Int32)) (fun v13 => ?_)
    refine rf_ite (fun hc16 => ?_) (fun hc16 => ?_)
    · refine rf_b1t c_295_16 rfl (decide_eq_true hc16) ?_
      exact t_Mo_isPrinted_34 hS hd σ  (.ref x0) (.int x1) (.int x2) (.int x3)
    · refine rf_b1f c_295_16 rfl (decide_eq_false hc16) ?_
      refine rf_ild (i := 3) (Or.inr ⟨3, rfl, rfl, rfl⟩) c_295_19 rfl ?_
      refine rf_iconst c_295_20 ki_0 ?_
      refine rf_ldc (Or.inr ⟨rfl, rfl⟩) c_295_21 rfl kl_12_352 ?_
      refine rf_callI (as := [.int x3, .int (0 : Int32), .int (65535 : Int32)]) (kd := 0) c_295_24 rfl (by decide) rfl ml_12_82 (by decide) rfl (rcv_0 rfl) (Nat.zero_le _) rfl rfl (t_Mo_in hS (by omega) σ x3 (0 : Int32) (65535 : Int32)) (fun v24 => ?_)
      refine rf_ite (fun hc27 => ?_) (fun hc27 => ?_)
      · refine rf_b1t c_295_27 rfl (decide_eq_true hc27) ?_
        exact t_Mo_isPrinted_34 hS hd σ  (.ref x0) (.int x1) (.int x2) (.int x3)
      · refine rf_b1f c_295_27 rfl (decide_eq_false hc27) ?_
        refine rf_iconst c_295_30 ki_1 ?_
        refine rf_goto c_295_31 rfl ?_
        exact t_Mo_isPrinted_35 hS hd σ  (1 : Int32) (.ref x0) (.int x1) (.int x2) (.int x3)
theorem t_Mo_isPrinted {X : Xt} {S : Sh} (hS : ShOK S) {d : Nat} (hd : 2 ≤ d) (σ : Mm) (x0 : Nat) (x1 : Int32) (x2 : Int32) (x3 : Int32) (h_x0 : tgT x0 = 12) : Rf X S (emI σ) (f_Mo_isPrinted σ x0 x1 x2 x3) d 295 0 [.ref x0, .int x1, .int x2, .int x3] [] σ := by
  obtain ⟨d1, rfl⟩ : ∃ d1, d = d1 + 1 := ⟨d - 1, by omega⟩
  exact t_Mo_isPrinted_e hS hd σ x0 x1 x2 x3 h_x0
theorem c_296_0 : cd 296 0 = some (.aload_n 0, 1) := by decide +kernel
theorem c_296_1 : cd 296 1 = some (.iload_n 1, 1) := by decide +kernel
theorem c_296_2 : cd 296 2 = some (.iload_n 2, 1) := by decide +kernel
theorem c_296_3 : cd 296 3 = some (.iload_n 3, 1) := by decide +kernel
theorem c_296_4 : cd 296 4 = some (.invokevirtual 359, 3) := by decide +kernel
theorem c_296_7 : cd 296 7 = some (.ifCond .eq (13), 3) := by decide +kernel
theorem c_296_10 : cd 296 10 = some (.aload_n 0, 1) := by decide +kernel
theorem c_296_11 : cd 296 11 = some (.iload_n 1, 1) := by decide +kernel
theorem c_296_12 : cd 296 12 = some (.iload_n 2, 1) := by decide +kernel
theorem c_296_13 : cd 296 13 = some (.iload_n 3, 1) := by decide +kernel
theorem c_296_14 : cd 296 14 = some (.invokevirtual 362, 3) := by decide +kernel
theorem c_296_17 : cd 296 17 = some (.goto (5), 3) := by decide +kernel
theorem c_296_20 : cd 296 20 = some (.ldc 91, 2) := by decide +kernel
theorem c_296_22 : cd 296 22 = some (.ireturn, 1) := by decide +kernel
def f_Mo_suspect_22 (σ : Mm) (y0 : Int32) : Option Int32 := some y0
set_option maxRecDepth 100000 in
set_option maxHeartbeats 4000000 in
theorem t_Mo_suspect_22 {X : Xt} {S : Sh} (hS : ShOK S) {d : Nat} (hd : 3 ≤ d + 1) (σ : Mm) (y0 : Int32) (u0 : Value) (u1 : Value) (u2 : Value) (u3 : Value) : Rf X S (emI σ) (f_Mo_suspect_22 σ y0) (d + 1) 296 22 [u0, u1, u2, u3] [.int y0] σ := by
  unfold f_Mo_suspect_22
  exact rf_ret c_296_22 rfl rfl rfl rfl
def f_Mo_suspect (σ : Mm) (x0 : Nat) (x1 : Int32) (x2 : Int32) (x3 : Int32) : Option Int32 := (f_Mo_isPrinted σ x0 x1 x2 x3).bind fun v4 => (if v4 = 0 then (f_Mo_suspect_22 σ (-1000000001 : Int32)) else ((f_Mo_suspectOf σ x0 x1 x2 x3).bind fun v14 => f_Mo_suspect_22 σ v14))
set_option maxRecDepth 100000 in
set_option maxHeartbeats 4000000 in
theorem t_Mo_suspect_e {X : Xt} {S : Sh} (hS : ShOK S) {d : Nat} (hd : 3 ≤ d + 1) (σ : Mm) (x0 : Nat) (x1 : Int32) (x2 : Int32) (x3 : Int32) (h_x0 : tgT x0 = 12) : Rf X S (emI σ) (f_Mo_suspect σ x0 x1 x2 x3) (d + 1) 296 0 [.ref x0, .int x1, .int x2, .int x3] [] σ := by
  unfold f_Mo_suspect
  refine rf_ald (i := 0) (Or.inr ⟨0, rfl, rfl, rfl⟩) c_296_0 rfl ?_
  refine rf_ild (i := 1) (Or.inr ⟨1, rfl, rfl, rfl⟩) c_296_1 rfl ?_
  refine rf_ild (i := 2) (Or.inr ⟨2, rfl, rfl, rfl⟩) c_296_2 rfl ?_
  refine rf_ild (i := 3) (Or.inr ⟨3, rfl, rfl, rfl⟩) c_296_3 rfl ?_
  refine rf_callI (as := [.ref x0, .int x1, .int x2, .int x3]) (kd := 1) c_296_4 rfl (by decide) rfl ml_12_359 (by decide) rfl (rcv_1 hS rfl rfl h_x0 (by decide)) (Nat.zero_le _) rfl rfl (t_Mo_isPrinted hS (by omega) σ x0 x1 x2 x3 h_x0) (fun v4 => ?_)
  refine rf_ite (fun hc7 => ?_) (fun hc7 => ?_)
  · refine rf_b1t c_296_7 rfl (decide_eq_true hc7) ?_
    refine rf_ldc (Or.inl ⟨rfl, rfl⟩) c_296_20 rfl kl_12_91 ?_
    exact t_Mo_suspect_22 hS hd σ  (-1000000001 : Int32) (.ref x0) (.int x1) (.int x2) (.int x3)
  · refine rf_b1f c_296_7 rfl (decide_eq_false hc7) ?_
    refine rf_ald (i := 0) (Or.inr ⟨0, rfl, rfl, rfl⟩) c_296_10 rfl ?_
    refine rf_ild (i := 1) (Or.inr ⟨1, rfl, rfl, rfl⟩) c_296_11 rfl ?_
    refine rf_ild (i := 2) (Or.inr ⟨2, rfl, rfl, rfl⟩) c_296_12 rfl ?_
    refine rf_ild (i := 3) (Or.inr ⟨3, rfl, rfl, rfl⟩) c_296_13 rfl ?_
    refine rf_callI (as := [.ref x0, .int x1, .int x2, .int x3]) (kd := 1) c_296_14 rfl (by decide) rfl ml_12_362 (by decide) rfl (rcv_1 hS rfl rfl h_x0 (by decide)) (Nat.zero_le _) rfl rfl (t_Mo_suspectOf hS (by omega) σ x0 x1 x2 x3 h_x0) (fun v14 => ?_)
    refine rf_goto c_296_17 rfl ?_
    exact t_Mo_suspect_22 hS hd σ  v14 (.ref x0) (.int x1) (.int x2) (.int x3)
theorem t_Mo_suspect {X : Xt} {S : Sh} (hS : ShOK S) {d : Nat} (hd : 3 ≤ d) (σ : Mm) (x0 : Nat) (x1 : Int32) (x2 : Int32) (x3 : Int32) (h_x0 : tgT x0 = 12) : Rf X S (emI σ) (f_Mo_suspect σ x0 x1 x2 x3) d 296 0 [.ref x0, .int x1, .int x2, .int x3] [] σ := by
  obtain ⟨d1, rfl⟩ : ∃ d1, d = d1 + 1 := ⟨d - 1, by omega⟩
  exact t_Mo_suspect_e hS hd σ x0 x1 x2 x3 h_x0
theorem c_297_0 : cd 297 0 = some (.iconst (0), 1) := by decide +kernel
theorem c_297_1 : cd 297 1 = some (.istore_n 3, 1) := by decide +kernel
theorem c_297_2 : cd 297 2 = some (.iconst (0), 1) := by decide +kernel
theorem c_297_3 : cd 297 3 = some (.istore 4, 2) := by decide +kernel
theorem c_297_5 : cd 297 5 = some (.iload 4, 2) := by decide +kernel
theorem c_297_7 : cd 297 7 = some (.iconst (4), 1) := by decide +kernel
theorem c_297_8 : cd 297 8 = some (.if_icmp .ge (82), 3) := by decide +kernel
theorem c_297_11 : cd 297 11 = some (.iconst (0), 1) := by decide +kernel
theorem c_297_12 : cd 297 12 = some (.istore 5, 2) := by decide +kernel
theorem c_297_14 : cd 297 14 = some (.iconst (0), 1) := by decide +kernel
theorem c_297_15 : cd 297 15 = some (.istore 6, 2) := by decide +kernel
theorem c_297_17 : cd 297 17 = some (.iload 6, 2) := by decide +kernel
theorem c_297_19 : cd 297 19 = some (.aload_n 0, 1) := by decide +kernel
theorem c_297_20 : cd 297 20 = some (.getfield 9, 3) := by decide +kernel
theorem c_297_23 : cd 297 23 = some (.bipush (7), 2) := by decide +kernel
theorem c_297_25 : cd 297 25 = some (.iaload, 1) := by decide +kernel
theorem c_297_26 : cd 297 26 = some (.if_icmp .ge (45), 3) := by decide +kernel
theorem c_297_29 : cd 297 29 = some (.iload 5, 2) := by decide +kernel
theorem c_297_31 : cd 297 31 = some (.iload_n 1, 1) := by decide +kernel
theorem c_297_32 : cd 297 32 = some (.iload 6, 2) := by decide +kernel
theorem c_297_34 : cd 297 34 = some (.ishr, 1) := by decide +kernel
theorem c_297_35 : cd 297 35 = some (.iconst (1), 1) := by decide +kernel
theorem c_297_36 : cd 297 36 = some (.iand, 1) := by decide +kernel
theorem c_297_37 : cd 297 37 = some (.iconst (1), 1) := by decide +kernel
theorem c_297_38 : cd 297 38 = some (.if_icmp .ne (23), 3) := by decide +kernel
theorem c_297_41 : cd 297 41 = some (.aload_n 0, 1) := by decide +kernel
theorem c_297_42 : cd 297 42 = some (.iload 6, 2) := by decide +kernel
theorem c_297_44 : cd 297 44 = some (.iconst (3), 1) := by decide +kernel
theorem c_297_45 : cd 297 45 = some (.invokevirtual 353, 3) := by decide +kernel
theorem c_297_48 : cd 297 48 = some (.iload_n 2, 1) := by decide +kernel
theorem c_297_49 : cd 297 49 = some (.invokestatic 356, 3) := by decide +kernel
theorem c_297_52 : cd 297 52 = some (.iload 4, 2) := by decide +kernel
theorem c_297_54 : cd 297 54 = some (.if_icmp .ne (7), 3) := by decide +kernel
theorem c_297_57 : cd 297 57 = some (.iconst (1), 1) := by decide +kernel
theorem c_297_58 : cd 297 58 = some (.goto (4), 3) := by decide +kernel
theorem c_297_61 : cd 297 61 = some (.iconst (0), 1) := by decide +kernel
theorem c_297_62 : cd 297 62 = some (.iadd, 1) := by decide +kernel
theorem c_297_63 : cd 297 63 = some (.istore 5, 2) := by decide +kernel
theorem c_297_65 : cd 297 65 = some (.iinc 6 (1), 3) := by decide +kernel
theorem c_297_68 : cd 297 68 = some (.goto (-51), 3) := by decide +kernel
theorem c_297_71 : cd 297 71 = some (.iload 5, 2) := by decide +kernel
theorem c_297_73 : cd 297 73 = some (.iload_n 3, 1) := by decide +kernel
theorem c_297_74 : cd 297 74 = some (.if_icmp .le (8), 3) := by decide +kernel
theorem c_297_77 : cd 297 77 = some (.iload 5, 2) := by decide +kernel
theorem c_297_79 : cd 297 79 = some (.goto (4), 3) := by decide +kernel
theorem c_297_82 : cd 297 82 = some (.iload_n 3, 1) := by decide +kernel
theorem c_297_83 : cd 297 83 = some (.istore_n 3, 1) := by decide +kernel
theorem c_297_84 : cd 297 84 = some (.iinc 4 (1), 3) := by decide +kernel
theorem c_297_87 : cd 297 87 = some (.goto (-82), 3) := by decide +kernel
theorem c_297_90 : cd 297 90 = some (.iload_n 3, 1) := by decide +kernel
theorem c_297_91 : cd 297 91 = some (.ireturn, 1) := by decide +kernel
def f_Mo_alikeAt_62 (σ : Mm) (k5 : Nat → Int32 → Int32 → Int32 → Int32 → Option (Int32)) (k17 : Nat → Int32 → Int32 → Int32 → Int32 → Int32 → Int32 → Option (Int32)) (x0 : Nat) (x1 : Int32) (x2 : Int32) (x3 : Int32) (x4 : Int32) (x6 : Int32) (y0 : Int32) (y1 : Int32) : Option Int32 := k17 x0 x1 x2 x3 x4 (y0 + y1) (x6 + (1 : Int32))
set_option maxRecDepth 100000 in
set_option maxHeartbeats 4000000 in
theorem t_Mo_alikeAt_62 {X : Xt} {S : Sh} (hS : ShOK S) {d : Nat} (hd : 1 ≤ d + 1) (σ : Mm) {k5 : Nat → Int32 → Int32 → Int32 → Int32 → Option (Int32)} (hk5 : ∀ (x0 : Nat) (x1 : Int32) (x2 : Int32) (x3 : Int32) (x4 : Int32) (u5 : Value) (u6 : Value) (h_x0 : tgT x0 = 12), Rf X S (emI σ) (k5 x0 x1 x2 x3 x4) (d + 1) 297 5 [.ref x0, .int x1, .int x2, .int x3, .int x4, u5, u6] [] σ) {k17 : Nat → Int32 → Int32 → Int32 → Int32 → Int32 → Int32 → Option (Int32)} (hk17 : ∀ (x0 : Nat) (x1 : Int32) (x2 : Int32) (x3 : Int32) (x4 : Int32) (x5 : Int32) (x6 : Int32) (h_x0 : tgT x0 = 12), Rf X S (emI σ) (k17 x0 x1 x2 x3 x4 x5 x6) (d + 1) 297 17 [.ref x0, .int x1, .int x2, .int x3, .int x4, .int x5, .int x6] [] σ) (x0 : Nat) (x1 : Int32) (x2 : Int32) (x3 : Int32) (x4 : Int32) (x6 : Int32) (y0 : Int32) (y1 : Int32) (u5 : Value) (h_x0 : tgT x0 = 12) : Rf X S (emI σ) (f_Mo_alikeAt_62 σ k5 k17 x0 x1 x2 x3 x4 x6 y0 y1) (d + 1) 297 62 [.ref x0, .int x1, .int x2, .int x3, .int x4, u5, .int x6] [.int y1, .int y0] σ := by
  unfold f_Mo_alikeAt_62
  refine rf_iadd c_297_62 ?_
  refine rf_ist (i := 5) (Or.inl ⟨rfl, rfl⟩) c_297_63 (Nat.le_of_ble_eq_true rfl) rfl ?_
  refine rf_iinc c_297_65 rfl ki_1 rfl ?_
  refine rf_goto c_297_68 rfl ?_
  exact hk17 x0 x1 x2 x3 x4 (y0 + y1) (x6 + (1 : Int32)) h_x0
def f_Mo_alikeAt_61 (σ : Mm) (k5 : Nat → Int32 → Int32 → Int32 → Int32 → Option (Int32)) (k17 : Nat → Int32 → Int32 → Int32 → Int32 → Int32 → Int32 → Option (Int32)) (x0 : Nat) (x1 : Int32) (x2 : Int32) (x3 : Int32) (x4 : Int32) (x6 : Int32) (y0 : Int32) : Option Int32 := f_Mo_alikeAt_62 σ k5 k17 x0 x1 x2 x3 x4 x6 y0 (0 : Int32)
set_option maxRecDepth 100000 in
set_option maxHeartbeats 4000000 in
theorem t_Mo_alikeAt_61 {X : Xt} {S : Sh} (hS : ShOK S) {d : Nat} (hd : 1 ≤ d + 1) (σ : Mm) {k5 : Nat → Int32 → Int32 → Int32 → Int32 → Option (Int32)} (hk5 : ∀ (x0 : Nat) (x1 : Int32) (x2 : Int32) (x3 : Int32) (x4 : Int32) (u5 : Value) (u6 : Value) (h_x0 : tgT x0 = 12), Rf X S (emI σ) (k5 x0 x1 x2 x3 x4) (d + 1) 297 5 [.ref x0, .int x1, .int x2, .int x3, .int x4, u5, u6] [] σ) {k17 : Nat → Int32 → Int32 → Int32 → Int32 → Int32 → Int32 → Option (Int32)} (hk17 : ∀ (x0 : Nat) (x1 : Int32) (x2 : Int32) (x3 : Int32) (x4 : Int32) (x5 : Int32) (x6 : Int32) (h_x0 : tgT x0 = 12), Rf X S (emI σ) (k17 x0 x1 x2 x3 x4 x5 x6) (d + 1) 297 17 [.ref x0, .int x1, .int x2, .int x3, .int x4, .int x5, .int x6] [] σ) (x0 : Nat) (x1 : Int32) (x2 : Int32) (x3 : Int32) (x4 : Int32) (x6 : Int32) (y0 : Int32) (u5 : Value) (h_x0 : tgT x0 = 12) : Rf X S (emI σ) (f_Mo_alikeAt_61 σ k5 k17 x0 x1 x2 x3 x4 x6 y0) (d + 1) 297 61 [.ref x0, .int x1, .int x2, .int x3, .int x4, u5, .int x6] [.int y0] σ := by
  unfold f_Mo_alikeAt_61
  refine rf_iconst c_297_61 ki_0 ?_
  exact t_Mo_alikeAt_62 hS hd σ hk5 hk17 x0 x1 x2 x3 x4 x6 y0 (0 : Int32) (u5) h_x0
def f_Mo_alikeAt_83 (σ : Mm) (k5 : Nat → Int32 → Int32 → Int32 → Int32 → Option (Int32)) (x0 : Nat) (x1 : Int32) (x2 : Int32) (x4 : Int32) (y0 : Int32) : Option Int32 := k5 x0 x1 x2 y0 (x4 + (1 : Int32))
set_option maxRecDepth 100000 in
set_option maxHeartbeats 4000000 in
theorem t_Mo_alikeAt_83 {X : Xt} {S : Sh} (hS : ShOK S) {d : Nat} (hd : 1 ≤ d + 1) (σ : Mm) {k5 : Nat → Int32 → Int32 → Int32 → Int32 → Option (Int32)} (hk5 : ∀ (x0 : Nat) (x1 : Int32) (x2 : Int32) (x3 : Int32) (x4 : Int32) (u5 : Value) (u6 : Value) (h_x0 : tgT x0 = 12), Rf X S (emI σ) (k5 x0 x1 x2 x3 x4) (d + 1) 297 5 [.ref x0, .int x1, .int x2, .int x3, .int x4, u5, u6] [] σ) (x0 : Nat) (x1 : Int32) (x2 : Int32) (x4 : Int32) (y0 : Int32) (u3 : Value) (u5 : Value) (u6 : Value) (h_x0 : tgT x0 = 12) : Rf X S (emI σ) (f_Mo_alikeAt_83 σ k5 x0 x1 x2 x4 y0) (d + 1) 297 83 [.ref x0, .int x1, .int x2, u3, .int x4, u5, u6] [.int y0] σ := by
  unfold f_Mo_alikeAt_83
  refine rf_ist (i := 3) (Or.inr ⟨3, rfl, rfl, rfl⟩) c_297_83 (Nat.le_of_ble_eq_true rfl) rfl ?_
  refine rf_iinc c_297_84 rfl ki_1 rfl ?_
  refine rf_goto c_297_87 rfl ?_
  exact hk5 x0 x1 x2 y0 (x4 + (1 : Int32)) (u5) (u6) h_x0
def f_Mo_alikeAt_17 (σ : Mm) (k5 : Nat → Int32 → Int32 → Int32 → Int32 → Option (Int32)) : Nat → Nat → Int32 → Int32 → Int32 → Int32 → Int32 → Int32 → Option Int32
  | 0, _, _, _, _, _, _, _ => none
  | n + 1, x0, x1, x2, x3, x4, x5, x6 => (if (σ (rfT x0 0) (ix (7 : Int32))) ≤ x6 then (if x5 ≤ x3 then (f_Mo_alikeAt_83 σ k5 x0 x1 x2 x4 x3) else (f_Mo_alikeAt_83 σ k5 x0 x1 x2 x4 x5)) else (if ¬ ((x1 >>> (x6 &&& 31)) &&& (1 : Int32)) = (1 : Int32) then (f_Mo_alikeAt_61 σ k5 (f_Mo_alikeAt_17 σ k5 n) x0 x1 x2 x3 x4 x6 x5) else ((f_Mo_copyOf σ x0 x6 (3 : Int32)).bind fun v45 => (f_Mo_markAt σ v45 x2).bind fun v49 => (if ¬ v49 = x4 then (f_Mo_alikeAt_61 σ k5 (f_Mo_alikeAt_17 σ k5 n) x0 x1 x2 x3 x4 x6 x5) else (f_Mo_alikeAt_62 σ k5 (f_Mo_alikeAt_17 σ k5 n) x0 x1 x2 x3 x4 x6 x5 (1 : Int32))))))
set_option maxRecDepth 100000 in
set_option maxHeartbeats 4000000 in
theorem t_Mo_alikeAt_17 {X : Xt} {S : Sh} (hS : ShOK S) {d : Nat} (hd : 1 ≤ d + 1) (σ : Mm) {k5 : Nat → Int32 → Int32 → Int32 → Int32 → Option (Int32)} (hk5 : ∀ (x0 : Nat) (x1 : Int32) (x2 : Int32) (x3 : Int32) (x4 : Int32) (u5 : Value) (u6 : Value) (h_x0 : tgT x0 = 12), Rf X S (emI σ) (k5 x0 x1 x2 x3 x4) (d + 1) 297 5 [.ref x0, .int x1, .int x2, .int x3, .int x4, u5, u6] [] σ) : ∀ (n : Nat) (x0 : Nat) (x1 : Int32) (x2 : Int32) (x3 : Int32) (x4 : Int32) (x5 : Int32) (x6 : Int32) (h_x0 : tgT x0 = 12), Rf X S (emI σ) (f_Mo_alikeAt_17 σ k5 n x0 x1 x2 x3 x4 x5 x6) (d + 1) 297 17 [.ref x0, .int x1, .int x2, .int x3, .int x4, .int x5, .int x6] [] σ := by
  intro n
  induction n with
  | zero => intro x0 x1 x2 x3 x4 x5 x6 h_x0; exact rf_none
  | succ n ih =>
    intro x0 x1 x2 x3 x4 x5 x6 h_x0
    rw [f_Mo_alikeAt_17]
    refine rf_ild (i := 6) (Or.inl ⟨rfl, rfl⟩) c_297_17 rfl ?_
    refine rf_ald (i := 0) (Or.inr ⟨0, rfl, rfl, rfl⟩) c_297_19 rfl ?_
    refine rf_getr hS c_297_20 rfl fl_12_9 rfl h_x0 ?_
    refine rf_bipush c_297_23 kb_7 ?_
    refine rf_iald hS c_297_25 (tf_12_0 h_x0) (lf_12_0 h_x0) (by decide) ?_
    refine rf_ite (fun hc26 => ?_) (fun hc26 => ?_)
    · refine rf_b2t c_297_26 rfl (decide_eq_true hc26) ?_
      refine rf_ild (i := 5) (Or.inl ⟨rfl, rfl⟩) c_297_71 rfl ?_
      refine rf_ild (i := 3) (Or.inr ⟨3, rfl, rfl, rfl⟩) c_297_73 rfl ?_
      refine rf_ite (fun hc74 => ?_) (fun hc74 => ?_)
      · refine rf_b2t c_297_74 rfl (decide_eq_true hc74) ?_
        refine rf_ild (i := 3) (Or.inr ⟨3, rfl, rfl, rfl⟩) c_297_82 rfl ?_
        exact t_Mo_alikeAt_83 hS hd σ hk5 x0 x1 x2 x4 x3 (.int x3) (.int x5) (.int x6) h_x0
      · refine rf_b2f c_297_74 rfl (decide_eq_false hc74) ?_
        refine rf_ild (i := 5) (Or.inl ⟨rfl, rfl⟩) c_297_77 rfl ?_
        refine rf_goto c_297_79 rfl ?_
        exact t_Mo_alikeAt_83 hS hd σ hk5 x0 x1 x2 x4 x5 (.int x3) (.int x5) (.int x6) h_x0
    · refine rf_b2f c_297_26 rfl (decide_eq_false hc26) ?_
      refine rf_ild (i := 5) (Or.inl ⟨rfl, rfl⟩) c_297_29 rfl ?_
      refine rf_ild (i := 1) (Or.inr ⟨1, rfl, rfl, rfl⟩) c_297_31 rfl ?_
      refine rf_ild (i := 6) (Or.inl ⟨rfl, rfl⟩) c_297_32 rfl ?_
      refine rf_ishr c_297_34 ?_
      refine rf_iconst c_297_35 ki_1 ?_
      refine rf_iand c_297_36 ?_
      refine rf_iconst c_297_37 ki_1 ?_
      refine rf_ite (fun hc38 => ?_) (fun hc38 => ?_)
      · refine rf_b2t c_297_38 rfl (decide_eq_true hc38) ?_
        exact t_Mo_alikeAt_61 hS hd σ hk5 ih x0 x1 x2 x3 x4 x6 x5 (.int x5) h_x0
      · refine rf_b2f c_297_38 rfl (decide_eq_false hc38) ?_
        refine rf_ald (i := 0) (Or.inr ⟨0, rfl, rfl, rfl⟩) c_297_41 rfl ?_
        refine rf_ild (i := 6) (Or.inl ⟨rfl, rfl⟩) c_297_42 rfl ?_
        refine rf_iconst c_297_44 ki_3 ?_
        refine rf_callI (as := [.ref x0, .int x6, .int (3 : Int32)]) (kd := 1) c_297_45 rfl (by decide) rfl ml_12_353 (by decide) rfl (rcv_1 hS rfl rfl h_x0 (by decide)) (by simp [Value.category]) rfl rfl (t_Mo_copyOf hS (by omega) σ x0 x6 (3 : Int32) h_x0) (fun v45 => ?_)
        refine rf_ild (i := 2) (Or.inr ⟨2, rfl, rfl, rfl⟩) c_297_48 rfl ?_
        refine rf_callI (as := [.int v45, .int x2]) (kd := 0) c_297_49 rfl (by decide) rfl ml_12_356 (by decide) rfl (rcv_0 rfl) (by simp [Value.category]) rfl rfl (t_Mo_markAt hS (by omega) σ v45 x2) (fun v49 => ?_)
        refine rf_ild (i := 4) (Or.inl ⟨rfl, rfl⟩) c_297_52 rfl ?_
        refine rf_ite (fun hc54 => ?_) (fun hc54 => ?_)
        · refine rf_b2t c_297_54 rfl (decide_eq_true hc54) ?_
          exact t_Mo_alikeAt_61 hS hd σ hk5 ih x0 x1 x2 x3 x4 x6 x5 (.int x5) h_x0
        · refine rf_b2f c_297_54 rfl (decide_eq_false hc54) ?_
          refine rf_iconst c_297_57 ki_1 ?_
          refine rf_goto c_297_58 rfl ?_
          exact t_Mo_alikeAt_62 hS hd σ hk5 ih x0 x1 x2 x3 x4 x6 x5 (1 : Int32) (.int x5) h_x0
def f_Mo_alikeAt_5 (σ : Mm) : Nat → Nat → Int32 → Int32 → Int32 → Int32 → Option Int32
  | 0, _, _, _, _, _ => none
  | n + 1, x0, x1, x2, x3, x4 => (if (4 : Int32) ≤ x4 then (some x3) else (f_Mo_alikeAt_17 σ (f_Mo_alikeAt_5 σ n) NN x0 x1 x2 x3 x4 (0 : Int32) (0 : Int32)))
set_option maxRecDepth 100000 in
set_option maxHeartbeats 4000000 in
theorem t_Mo_alikeAt_5 {X : Xt} {S : Sh} (hS : ShOK S) {d : Nat} (hd : 1 ≤ d + 1) (σ : Mm) : ∀ (n : Nat) (x0 : Nat) (x1 : Int32) (x2 : Int32) (x3 : Int32) (x4 : Int32) (u5 : Value) (u6 : Value) (h_x0 : tgT x0 = 12), Rf X S (emI σ) (f_Mo_alikeAt_5 σ n x0 x1 x2 x3 x4) (d + 1) 297 5 [.ref x0, .int x1, .int x2, .int x3, .int x4, u5, u6] [] σ := by
  intro n
  induction n with
  | zero => intro x0 x1 x2 x3 x4 u5 u6 h_x0; exact rf_none
  | succ n ih =>
    intro x0 x1 x2 x3 x4 u5 u6 h_x0
    rw [f_Mo_alikeAt_5]
    refine rf_ild (i := 4) (Or.inl ⟨rfl, rfl⟩) c_297_5 rfl ?_
    refine rf_iconst c_297_7 ki_4 ?_
    refine rf_ite (fun hc8 => ?_) (fun hc8 => ?_)
    · refine rf_b2t c_297_8 rfl (decide_eq_true hc8) ?_
      refine rf_ild (i := 3) (Or.inr ⟨3, rfl, rfl, rfl⟩) c_297_90 rfl ?_
      exact rf_ret c_297_91 rfl rfl rfl rfl
    · refine rf_b2f c_297_8 rfl (decide_eq_false hc8) ?_
      refine rf_iconst c_297_11 ki_0 ?_
      refine rf_ist (i := 5) (Or.inl ⟨rfl, rfl⟩) c_297_12 (Nat.le_of_ble_eq_true rfl) rfl ?_
      refine rf_iconst c_297_14 ki_0 ?_
      refine rf_ist (i := 6) (Or.inl ⟨rfl, rfl⟩) c_297_15 (Nat.le_of_ble_eq_true rfl) rfl ?_
      exact t_Mo_alikeAt_17 hS hd σ ih NN x0 x1 x2 x3 x4 (0 : Int32) (0 : Int32) h_x0
def f_Mo_alikeAt (σ : Mm) (x0 : Nat) (x1 : Int32) (x2 : Int32) : Option Int32 := f_Mo_alikeAt_5 σ NN x0 x1 x2 (0 : Int32) (0 : Int32)
set_option maxRecDepth 100000 in
set_option maxHeartbeats 4000000 in
theorem t_Mo_alikeAt_e {X : Xt} {S : Sh} (hS : ShOK S) {d : Nat} (hd : 1 ≤ d + 1) (σ : Mm) (x0 : Nat) (x1 : Int32) (x2 : Int32) (h_x0 : tgT x0 = 12) : Rf X S (emI σ) (f_Mo_alikeAt σ x0 x1 x2) (d + 1) 297 0 [.ref x0, .int x1, .int x2, unset0, unset0, unset0, unset0] [] σ := by
  unfold f_Mo_alikeAt
  refine rf_iconst c_297_0 ki_0 ?_
  refine rf_ist (i := 3) (Or.inr ⟨3, rfl, rfl, rfl⟩) c_297_1 (Nat.le_of_ble_eq_true rfl) rfl ?_
  refine rf_iconst c_297_2 ki_0 ?_
  refine rf_ist (i := 4) (Or.inl ⟨rfl, rfl⟩) c_297_3 (Nat.le_of_ble_eq_true rfl) rfl ?_
  exact t_Mo_alikeAt_5 hS hd σ  NN x0 x1 x2 (0 : Int32) (0 : Int32) (unset0) (unset0) h_x0
theorem t_Mo_alikeAt {X : Xt} {S : Sh} (hS : ShOK S) {d : Nat} (hd : 1 ≤ d) (σ : Mm) (x0 : Nat) (x1 : Int32) (x2 : Int32) (h_x0 : tgT x0 = 12) : Rf X S (emI σ) (f_Mo_alikeAt σ x0 x1 x2) d 297 0 [.ref x0, .int x1, .int x2, unset0, unset0, unset0, unset0] [] σ := by
  obtain ⟨d1, rfl⟩ : ∃ d1, d = d1 + 1 := ⟨d - 1, by omega⟩
  exact t_Mo_alikeAt_e hS hd σ x0 x1 x2 h_x0
theorem c_298_0 : cd 298 0 = some (.aload_n 0, 1) := by decide +kernel
theorem c_298_1 : cd 298 1 = some (.iload_n 1, 1) := by decide +kernel
theorem c_298_2 : cd 298 2 = some (.iload_n 2, 1) := by decide +kernel
theorem c_298_3 : cd 298 3 = some (.iload_n 3, 1) := by decide +kernel
theorem c_298_4 : cd 298 4 = some (.invokevirtual 359, 3) := by decide +kernel
theorem c_298_7 : cd 298 7 = some (.ifCond .ne (6), 3) := by decide +kernel
theorem c_298_10 : cd 298 10 = some (.ldc 91, 2) := by decide +kernel
theorem c_298_12 : cd 298 12 = some (.ireturn, 1) := by decide +kernel
theorem c_298_13 : cd 298 13 = some (.aload_n 0, 1) := by decide +kernel
theorem c_298_14 : cd 298 14 = some (.iload_n 1, 1) := by decide +kernel
theorem c_298_15 : cd 298 15 = some (.iload_n 2, 1) := by decide +kernel
theorem c_298_16 : cd 298 16 = some (.iload_n 3, 1) := by decide +kernel
theorem c_298_17 : cd 298 17 = some (.invokevirtual 362, 3) := by decide +kernel
theorem c_298_20 : cd 298 20 = some (.istore 4, 2) := by decide +kernel
theorem c_298_22 : cd 298 22 = some (.ldc 81, 2) := by decide +kernel
theorem c_298_24 : cd 298 24 = some (.istore 5, 2) := by decide +kernel
theorem c_298_26 : cd 298 26 = some (.iconst (0), 1) := by decide +kernel
theorem c_298_27 : cd 298 27 = some (.istore 6, 2) := by decide +kernel
theorem c_298_29 : cd 298 29 = some (.iconst (0), 1) := by decide +kernel
theorem c_298_30 : cd 298 30 = some (.istore 7, 2) := by decide +kernel
theorem c_298_32 : cd 298 32 = some (.iload 7, 2) := by decide +kernel
theorem c_298_34 : cd 298 34 = some (.bipush (8), 2) := by decide +kernel
theorem c_298_36 : cd 298 36 = some (.if_icmp .ge (52), 3) := by decide +kernel
theorem c_298_39 : cd 298 39 = some (.iload_n 2, 1) := by decide +kernel
theorem c_298_40 : cd 298 40 = some (.iload 7, 2) := by decide +kernel
theorem c_298_42 : cd 298 42 = some (.ishr, 1) := by decide +kernel
theorem c_298_43 : cd 298 43 = some (.iconst (1), 1) := by decide +kernel
theorem c_298_44 : cd 298 44 = some (.iand, 1) := by decide +kernel
theorem c_298_45 : cd 298 45 = some (.ifCond .ne (37), 3) := by decide +kernel
theorem c_298_48 : cd 298 48 = some (.iload 5, 2) := by decide +kernel
theorem c_298_50 : cd 298 50 = some (.ldc 81, 2) := by decide +kernel
theorem c_298_52 : cd 298 52 = some (.if_icmp .eq (16), 3) := by decide +kernel
theorem c_298_55 : cd 298 55 = some (.aload_n 0, 1) := by decide +kernel
theorem c_298_56 : cd 298 56 = some (.iload 4, 2) := by decide +kernel
theorem c_298_58 : cd 298 58 = some (.iload 7, 2) := by decide +kernel
theorem c_298_60 : cd 298 60 = some (.invokevirtual 365, 3) := by decide +kernel
theorem c_298_63 : cd 298 63 = some (.iload 6, 2) := by decide +kernel
theorem c_298_65 : cd 298 65 = some (.if_icmp .ge (17), 3) := by decide +kernel
theorem c_298_68 : cd 298 68 = some (.iload 7, 2) := by decide +kernel
theorem c_298_70 : cd 298 70 = some (.istore 5, 2) := by decide +kernel
theorem c_298_72 : cd 298 72 = some (.aload_n 0, 1) := by decide +kernel
theorem c_298_73 : cd 298 73 = some (.iload 4, 2) := by decide +kernel
theorem c_298_75 : cd 298 75 = some (.iload 7, 2) := by decide +kernel
theorem c_298_77 : cd 298 77 = some (.invokevirtual 365, 3) := by decide +kernel
theorem c_298_80 : cd 298 80 = some (.istore 6, 2) := by decide +kernel
theorem c_298_82 : cd 298 82 = some (.iinc 7 (1), 3) := by decide +kernel
theorem c_298_85 : cd 298 85 = some (.goto (-53), 3) := by decide +kernel
theorem c_298_88 : cd 298 88 = some (.iload 5, 2) := by decide +kernel
theorem c_298_90 : cd 298 90 = some (.ireturn, 1) := by decide +kernel
def f_Mo_look_82 (σ : Mm) (k32 : Nat → Int32 → Int32 → Int32 → Int32 → Int32 → Option (Int32)) (x0 : Nat) (x2 : Int32) (x4 : Int32) (x5 : Int32) (x6 : Int32) (x7 : Int32) : Option Int32 := k32 x0 x2 x4 x5 x6 (x7 + (1 : Int32))
set_option maxRecDepth 100000 in
set_option maxHeartbeats 4000000 in
theorem t_Mo_look_82 {X : Xt} {S : Sh} (hS : ShOK S) {d : Nat} (hd : 3 ≤ d + 1) (σ : Mm) {k32 : Nat → Int32 → Int32 → Int32 → Int32 → Int32 → Option (Int32)} (hk32 : ∀ (x0 : Nat) (x2 : Int32) (x4 : Int32) (x5 : Int32) (x6 : Int32) (x7 : Int32) (u1 : Value) (u3 : Value) (h_x0 : tgT x0 = 12), Rf X S (emI σ) (k32 x0 x2 x4 x5 x6 x7) (d + 1) 298 32 [.ref x0, u1, .int x2, u3, .int x4, .int x5, .int x6, .int x7] [] σ) (x0 : Nat) (x2 : Int32) (x4 : Int32) (x5 : Int32) (x6 : Int32) (x7 : Int32) (u1 : Value) (u3 : Value) (h_x0 : tgT x0 = 12) : Rf X S (emI σ) (f_Mo_look_82 σ k32 x0 x2 x4 x5 x6 x7) (d + 1) 298 82 [.ref x0, u1, .int x2, u3, .int x4, .int x5, .int x6, .int x7] [] σ := by
  unfold f_Mo_look_82
  refine rf_iinc c_298_82 rfl ki_1 rfl ?_
  refine rf_goto c_298_85 rfl ?_
  exact hk32 x0 x2 x4 x5 x6 (x7 + (1 : Int32)) (u1) (u3) h_x0
def f_Mo_look_68 (σ : Mm) (k32 : Nat → Int32 → Int32 → Int32 → Int32 → Int32 → Option (Int32)) (x0 : Nat) (x2 : Int32) (x4 : Int32) (x7 : Int32) : Option Int32 := (f_Mo_alikeAt σ x0 x4 x7).bind fun v77 => f_Mo_look_82 σ k32 x0 x2 x4 x7 v77 x7
set_option maxRecDepth 100000 in
set_option maxHeartbeats 4000000 in
theorem t_Mo_look_68 {X : Xt} {S : Sh} (hS : ShOK S) {d : Nat} (hd : 3 ≤ d + 1) (σ : Mm) {k32 : Nat → Int32 → Int32 → Int32 → Int32 → Int32 → Option (Int32)} (hk32 : ∀ (x0 : Nat) (x2 : Int32) (x4 : Int32) (x5 : Int32) (x6 : Int32) (x7 : Int32) (u1 : Value) (u3 : Value) (h_x0 : tgT x0 = 12), Rf X S (emI σ) (k32 x0 x2 x4 x5 x6 x7) (d + 1) 298 32 [.ref x0, u1, .int x2, u3, .int x4, .int x5, .int x6, .int x7] [] σ) (x0 : Nat) (x2 : Int32) (x4 : Int32) (x7 : Int32) (u1 : Value) (u3 : Value) (u5 : Value) (u6 : Value) (h_x0 : tgT x0 = 12) : Rf X S (emI σ) (f_Mo_look_68 σ k32 x0 x2 x4 x7) (d + 1) 298 68 [.ref x0, u1, .int x2, u3, .int x4, u5, u6, .int x7] [] σ := by
  unfold f_Mo_look_68
  refine rf_ild (i := 7) (Or.inl ⟨rfl, rfl⟩) c_298_68 rfl ?_
  refine rf_ist (i := 5) (Or.inl ⟨rfl, rfl⟩) c_298_70 (Nat.le_of_ble_eq_true rfl) rfl ?_
  refine rf_ald (i := 0) (Or.inr ⟨0, rfl, rfl, rfl⟩) c_298_72 rfl ?_
  refine rf_ild (i := 4) (Or.inl ⟨rfl, rfl⟩) c_298_73 rfl ?_
  refine rf_ild (i := 7) (Or.inl ⟨rfl, rfl⟩) c_298_75 rfl ?_
  refine rf_callI (as := [.ref x0, .int x4, .int x7]) (kd := 1) c_298_77 rfl (by decide) rfl ml_12_365 (by decide) rfl (rcv_1 hS rfl rfl h_x0 (by decide)) (Nat.zero_le _) rfl rfl (t_Mo_alikeAt hS (by omega) σ x0 x4 x7 h_x0) (fun v77 => ?_)
  refine rf_ist (i := 6) (Or.inl ⟨rfl, rfl⟩) c_298_80 (Nat.le_of_ble_eq_true rfl) rfl ?_
  exact t_Mo_look_82 hS hd σ hk32 x0 x2 x4 x7 v77 x7 (u1) (u3) h_x0
def f_Mo_look_32 (σ : Mm) : Nat → Nat → Int32 → Int32 → Int32 → Int32 → Int32 → Option Int32
  | 0, _, _, _, _, _, _ => none
  | n + 1, x0, x2, x4, x5, x6, x7 => (if (8 : Int32) ≤ x7 then (some x5) else (if ¬ ((x2 >>> (x7 &&& 31)) &&& (1 : Int32)) = 0 then (f_Mo_look_82 σ (f_Mo_look_32 σ n) x0 x2 x4 x5 x6 x7) else (if x5 = (-1000000005 : Int32) then (f_Mo_look_68 σ (f_Mo_look_32 σ n) x0 x2 x4 x7) else ((f_Mo_alikeAt σ x0 x4 x7).bind fun v60 => (if x6 ≤ v60 then (f_Mo_look_82 σ (f_Mo_look_32 σ n) x0 x2 x4 x5 x6 x7) else (f_Mo_look_68 σ (f_Mo_look_32 σ n) x0 x2 x4 x7))))))
set_option maxRecDepth 100000 in
set_option maxHeartbeats 4000000 in
theorem t_Mo_look_32 {X : Xt} {S : Sh} (hS : ShOK S) {d : Nat} (hd : 3 ≤ d + 1) (σ : Mm) : ∀ (n : Nat) (x0 : Nat) (x2 : Int32) (x4 : Int32) (x5 : Int32) (x6 : Int32) (x7 : Int32) (u1 : Value) (u3 : Value) (h_x0 : tgT x0 = 12), Rf X S (emI σ) (f_Mo_look_32 σ n x0 x2 x4 x5 x6 x7) (d + 1) 298 32 [.ref x0, u1, .int x2, u3, .int x4, .int x5, .int x6, .int x7] [] σ := by
  intro n
  induction n with
  | zero => intro x0 x2 x4 x5 x6 x7 u1 u3 h_x0; exact rf_none
  | succ n ih =>
    intro x0 x2 x4 x5 x6 x7 u1 u3 h_x0
    rw [f_Mo_look_32]
    refine rf_ild (i := 7) (Or.inl ⟨rfl, rfl⟩) c_298_32 rfl ?_
    refine rf_bipush c_298_34 kb_8 ?_
    refine rf_ite (fun hc36 => ?_) (fun hc36 => ?_)
    · refine rf_b2t c_298_36 rfl (decide_eq_true hc36) ?_
      refine rf_ild (i := 5) (Or.inl ⟨rfl, rfl⟩) c_298_88 rfl ?_
      exact rf_ret c_298_90 rfl rfl rfl rfl
    · refine rf_b2f c_298_36 rfl (decide_eq_false hc36) ?_
      refine rf_ild (i := 2) (Or.inr ⟨2, rfl, rfl, rfl⟩) c_298_39 rfl ?_
      refine rf_ild (i := 7) (Or.inl ⟨rfl, rfl⟩) c_298_40 rfl ?_
      refine rf_ishr c_298_42 ?_
      refine rf_iconst c_298_43 ki_1 ?_
      refine rf_iand c_298_44 ?_
      refine rf_ite (fun hc45 => ?_) (fun hc45 => ?_)
      · refine rf_b1t c_298_45 rfl (decide_eq_true hc45) ?_
        exact t_Mo_look_82 hS hd σ ih x0 x2 x4 x5 x6 x7 (u1) (u3) h_x0
      · refine rf_b1f c_298_45 rfl (decide_eq_false hc45) ?_
        refine rf_ild (i := 5) (Or.inl ⟨rfl, rfl⟩) c_298_48 rfl ?_
        refine rf_ldc (Or.inl ⟨rfl, rfl⟩) c_298_50 rfl kl_12_81 ?_
        refine rf_ite (fun hc52 => ?_) (fun hc52 => ?_)
        · refine rf_b2t c_298_52 rfl (decide_eq_true hc52) ?_
          exact t_Mo_look_68 hS hd σ ih x0 x2 x4 x7 (u1) (u3) (.int x5) (.int x6) h_x0
        · refine rf_b2f c_298_52 rfl (decide_eq_false hc52) ?_
          refine rf_ald (i := 0) (Or.inr ⟨0, rfl, rfl, rfl⟩) c_298_55 rfl ?_
          refine rf_ild (i := 4) (Or.inl ⟨rfl, rfl⟩) c_298_56 rfl ?_
          refine rf_ild (i := 7) (Or.inl ⟨rfl, rfl⟩) c_298_58 rfl ?_
          refine rf_callI (as := [.ref x0, .int x4, .int x7]) (kd := 1) c_298_60 rfl (by decide) rfl ml_12_365 (by decide) rfl (rcv_1 hS rfl rfl h_x0 (by decide)) (Nat.zero_le _) rfl rfl (t_Mo_alikeAt hS (by omega) σ x0 x4 x7 h_x0) (fun v60 => ?_)
          refine rf_ild (i := 6) (Or.inl ⟨rfl, rfl⟩) c_298_63 rfl ?_
          refine rf_ite (fun hc65 => ?_) (fun hc65 => ?_)
          · refine rf_b2t c_298_65 rfl (decide_eq_true hc65) ?_
            exact t_Mo_look_82 hS hd σ ih x0 x2 x4 x5 x6 x7 (u1) (u3) h_x0
          · refine rf_b2f c_298_65 rfl (decide_eq_false hc65) ?_
            exact t_Mo_look_68 hS hd σ ih x0 x2 x4 x7 (u1) (u3) (.int x5) (.int x6) h_x0
def f_Mo_look (σ : Mm) (x0 : Nat) (x1 : Int32) (x2 : Int32) (x3 : Int32) : Option Int32 := (f_Mo_isPrinted σ x0 x1 x2 x3).bind fun v4 => (if ¬ v4 = 0 then ((f_Mo_suspectOf σ x0 x1 x2 x3).bind fun v17 => f_Mo_look_32 σ NN x0 x2 v17 (-1000000005 : Int32) (0 : Int32) (0 : Int32)) else (some (-1000000001 : Int32)))
set_option maxRecDepth 100000 in
set_option maxHeartbeats 4000000 in
theorem t_Mo_look_e {X : Xt} {S : Sh} (hS : ShOK S) {d : Nat} (hd : 3 ≤ d + 1) (σ : Mm) (x0 : Nat) (x1 : Int32) (x2 : Int32) (x3 : Int32) (h_x0 : tgT x0 = 12) : Rf X S (emI σ) (f_Mo_look σ x0 x1 x2 x3) (d + 1) 298 0 [.ref x0, .int x1, .int x2, .int x3, unset0, unset0, unset0, unset0] [] σ := by
  unfold f_Mo_look
  refine rf_ald (i := 0) (Or.inr ⟨0, rfl, rfl, rfl⟩) c_298_0 rfl ?_
  refine rf_ild (i := 1) (Or.inr ⟨1, rfl, rfl, rfl⟩) c_298_1 rfl ?_
  refine rf_ild (i := 2) (Or.inr ⟨2, rfl, rfl, rfl⟩) c_298_2 rfl ?_
  refine rf_ild (i := 3) (Or.inr ⟨3, rfl, rfl, rfl⟩) c_298_3 rfl ?_
  refine rf_callI (as := [.ref x0, .int x1, .int x2, .int x3]) (kd := 1) c_298_4 rfl (by decide) rfl ml_12_359 (by decide) rfl (rcv_1 hS rfl rfl h_x0 (by decide)) (Nat.zero_le _) rfl rfl (t_Mo_isPrinted hS (by omega) σ x0 x1 x2 x3 h_x0) (fun v4 => ?_)
  refine rf_ite (fun hc7 => ?_) (fun hc7 => ?_)
  · refine rf_b1t c_298_7 rfl (decide_eq_true hc7) ?_
    refine rf_ald (i := 0) (Or.inr ⟨0, rfl, rfl, rfl⟩) c_298_13 rfl ?_
    refine rf_ild (i := 1) (Or.inr ⟨1, rfl, rfl, rfl⟩) c_298_14 rfl ?_
    refine rf_ild (i := 2) (Or.inr ⟨2, rfl, rfl, rfl⟩) c_298_15 rfl ?_
    refine rf_ild (i := 3) (Or.inr ⟨3, rfl, rfl, rfl⟩) c_298_16 rfl ?_
    refine rf_callI (as := [.ref x0, .int x1, .int x2, .int x3]) (kd := 1) c_298_17 rfl (by decide) rfl ml_12_362 (by decide) rfl (rcv_1 hS rfl rfl h_x0 (by decide)) (Nat.zero_le _) rfl rfl (t_Mo_suspectOf hS (by omega) σ x0 x1 x2 x3 h_x0) (fun v17 => ?_)
    refine rf_ist (i := 4) (Or.inl ⟨rfl, rfl⟩) c_298_20 (Nat.le_of_ble_eq_true rfl) rfl ?_
    refine rf_ldc (Or.inl ⟨rfl, rfl⟩) c_298_22 rfl kl_12_81 ?_
    refine rf_ist (i := 5) (Or.inl ⟨rfl, rfl⟩) c_298_24 (Nat.le_of_ble_eq_true rfl) rfl ?_
    refine rf_iconst c_298_26 ki_0 ?_
    refine rf_ist (i := 6) (Or.inl ⟨rfl, rfl⟩) c_298_27 (Nat.le_of_ble_eq_true rfl) rfl ?_
    refine rf_iconst c_298_29 ki_0 ?_
    refine rf_ist (i := 7) (Or.inl ⟨rfl, rfl⟩) c_298_30 (Nat.le_of_ble_eq_true rfl) rfl ?_
    exact t_Mo_look_32 hS hd σ  NN x0 x2 v17 (-1000000005 : Int32) (0 : Int32) (0 : Int32) (.int x1) (.int x3) h_x0
  · refine rf_b1f c_298_7 rfl (decide_eq_false hc7) ?_
    refine rf_ldc (Or.inl ⟨rfl, rfl⟩) c_298_10 rfl kl_12_91 ?_
    exact rf_ret c_298_12 rfl rfl rfl rfl
theorem t_Mo_look {X : Xt} {S : Sh} (hS : ShOK S) {d : Nat} (hd : 3 ≤ d) (σ : Mm) (x0 : Nat) (x1 : Int32) (x2 : Int32) (x3 : Int32) (h_x0 : tgT x0 = 12) : Rf X S (emI σ) (f_Mo_look σ x0 x1 x2 x3) d 298 0 [.ref x0, .int x1, .int x2, .int x3, unset0, unset0, unset0, unset0] [] σ := by
  obtain ⟨d1, rfl⟩ : ∃ d1, d = d1 + 1 := ⟨d - 1, by omega⟩
  exact t_Mo_look_e hS hd σ x0 x1 x2 x3 h_x0
theorem c_299_0 : cd 299 0 = some (.iconst (0), 1) := by decide +kernel
theorem c_299_1 : cd 299 1 = some (.istore 4, 2) := by decide +kernel
theorem c_299_3 : cd 299 3 = some (.iconst (0), 1) := by decide +kernel
theorem c_299_4 : cd 299 4 = some (.istore 5, 2) := by decide +kernel
theorem c_299_6 : cd 299 6 = some (.iload 5, 2) := by decide +kernel
theorem c_299_8 : cd 299 8 = some (.aload_n 0, 1) := by decide +kernel
theorem c_299_9 : cd 299 9 = some (.getfield 9, 3) := by decide +kernel
theorem c_299_12 : cd 299 12 = some (.bipush (7), 2) := by decide +kernel
theorem c_299_14 : cd 299 14 = some (.iaload, 1) := by decide +kernel
theorem c_299_15 : cd 299 15 = some (.if_icmp .ge (54), 3) := by decide +kernel
theorem c_299_18 : cd 299 18 = some (.iload 4, 2) := by decide +kernel
theorem c_299_20 : cd 299 20 = some (.ifCond .ne (36), 3) := by decide +kernel
theorem c_299_23 : cd 299 23 = some (.aload_n 0, 1) := by decide +kernel
theorem c_299_24 : cd 299 24 = some (.iload 5, 2) := by decide +kernel
theorem c_299_26 : cd 299 26 = some (.iconst (0), 1) := by decide +kernel
theorem c_299_27 : cd 299 27 = some (.invokevirtual 353, 3) := by decide +kernel
theorem c_299_30 : cd 299 30 = some (.iload_n 2, 1) := by decide +kernel
theorem c_299_31 : cd 299 31 = some (.if_icmp .ne (29), 3) := by decide +kernel
theorem c_299_34 : cd 299 34 = some (.aload_n 0, 1) := by decide +kernel
theorem c_299_35 : cd 299 35 = some (.iload 5, 2) := by decide +kernel
theorem c_299_37 : cd 299 37 = some (.iconst (1), 1) := by decide +kernel
theorem c_299_38 : cd 299 38 = some (.invokevirtual 353, 3) := by decide +kernel
theorem c_299_41 : cd 299 41 = some (.iload_n 1, 1) := by decide +kernel
theorem c_299_42 : cd 299 42 = some (.if_icmp .ne (18), 3) := by decide +kernel
theorem c_299_45 : cd 299 45 = some (.aload_n 0, 1) := by decide +kernel
theorem c_299_46 : cd 299 46 = some (.iload 5, 2) := by decide +kernel
theorem c_299_48 : cd 299 48 = some (.iconst (2), 1) := by decide +kernel
theorem c_299_49 : cd 299 49 = some (.invokevirtual 353, 3) := by decide +kernel
theorem c_299_52 : cd 299 52 = some (.iload_n 3, 1) := by decide +kernel
theorem c_299_53 : cd 299 53 = some (.if_icmp .gt (7), 3) := by decide +kernel
theorem c_299_56 : cd 299 56 = some (.iconst (1), 1) := by decide +kernel
theorem c_299_57 : cd 299 57 = some (.goto (4), 3) := by decide +kernel
theorem c_299_60 : cd 299 60 = some (.iconst (0), 1) := by decide +kernel
theorem c_299_61 : cd 299 61 = some (.istore 4, 2) := by decide +kernel
theorem c_299_63 : cd 299 63 = some (.iinc 5 (1), 3) := by decide +kernel
theorem c_299_66 : cd 299 66 = some (.goto (-60), 3) := by decide +kernel
theorem c_299_69 : cd 299 69 = some (.iload 4, 2) := by decide +kernel
theorem c_299_71 : cd 299 71 = some (.ireturn, 1) := by decide +kernel
def f_Mo_hasCopy_61 (σ : Mm) (k6 : Nat → Int32 → Int32 → Int32 → Int32 → Int32 → Option (Int32)) (x0 : Nat) (x1 : Int32) (x2 : Int32) (x3 : Int32) (x5 : Int32) (y0 : Int32) : Option Int32 := k6 x0 x1 x2 x3 y0 (x5 + (1 : Int32))
set_option maxRecDepth 100000 in
set_option maxHeartbeats 4000000 in
theorem t_Mo_hasCopy_61 {X : Xt} {S : Sh} (hS : ShOK S) {d : Nat} (hd : 1 ≤ d + 1) (σ : Mm) {k6 : Nat → Int32 → Int32 → Int32 → Int32 → Int32 → Option (Int32)} (hk6 : ∀ (x0 : Nat) (x1 : Int32) (x2 : Int32) (x3 : Int32) (x4 : Int32) (x5 : Int32) (h_x0 : tgT x0 = 12), Rf X S (emI σ) (k6 x0 x1 x2 x3 x4 x5) (d + 1) 299 6 [.ref x0, .int x1, .int x2, .int x3, .int x4, .int x5] [] σ) (x0 : Nat) (x1 : Int32) (x2 : Int32) (x3 : Int32) (x5 : Int32) (y0 : Int32) (u4 : Value) (h_x0 : tgT x0 = 12) : Rf X S (emI σ) (f_Mo_hasCopy_61 σ k6 x0 x1 x2 x3 x5 y0) (d + 1) 299 61 [.ref x0, .int x1, .int x2, .int x3, u4, .int x5] [.int y0] σ := by
  unfold f_Mo_hasCopy_61
  refine rf_ist (i := 4) (Or.inl ⟨rfl, rfl⟩) c_299_61 (Nat.le_of_ble_eq_true rfl) rfl ?_
  refine rf_iinc c_299_63 rfl ki_1 rfl ?_
  refine rf_goto c_299_66 rfl ?_
  exact hk6 x0 x1 x2 x3 y0 (x5 + (1 : Int32)) h_x0
def f_Mo_hasCopy_56 (σ : Mm) (k6 : Nat → Int32 → Int32 → Int32 → Int32 → Int32 → Option (Int32)) (x0 : Nat) (x1 : Int32) (x2 : Int32) (x3 : Int32) (x5 : Int32) : Option Int32 := f_Mo_hasCopy_61 σ k6 x0 x1 x2 x3 x5 (1 : Int32)
set_option maxRecDepth 100000 in
set_option maxHeartbeats 4000000 in
theorem t_Mo_hasCopy_56 {X : Xt} {S : Sh} (hS : ShOK S) {d : Nat} (hd : 1 ≤ d + 1) (σ : Mm) {k6 : Nat → Int32 → Int32 → Int32 → Int32 → Int32 → Option (Int32)} (hk6 : ∀ (x0 : Nat) (x1 : Int32) (x2 : Int32) (x3 : Int32) (x4 : Int32) (x5 : Int32) (h_x0 : tgT x0 = 12), Rf X S (emI σ) (k6 x0 x1 x2 x3 x4 x5) (d + 1) 299 6 [.ref x0, .int x1, .int x2, .int x3, .int x4, .int x5] [] σ) (x0 : Nat) (x1 : Int32) (x2 : Int32) (x3 : Int32) (x5 : Int32) (u4 : Value) (h_x0 : tgT x0 = 12) : Rf X S (emI σ) (f_Mo_hasCopy_56 σ k6 x0 x1 x2 x3 x5) (d + 1) 299 56 [.ref x0, .int x1, .int x2, .int x3, u4, .int x5] [] σ := by
  unfold f_Mo_hasCopy_56
  refine rf_iconst c_299_56 ki_1 ?_
  refine rf_goto c_299_57 rfl ?_
  exact t_Mo_hasCopy_61 hS hd σ hk6 x0 x1 x2 x3 x5 (1 : Int32) (u4) h_x0
def f_Mo_hasCopy_60 (σ : Mm) (k6 : Nat → Int32 → Int32 → Int32 → Int32 → Int32 → Option (Int32)) (x0 : Nat) (x1 : Int32) (x2 : Int32) (x3 : Int32) (x5 : Int32) : Option Int32 := f_Mo_hasCopy_61 σ k6 x0 x1 x2 x3 x5 (0 : Int32)
set_option maxRecDepth 100000 in
set_option maxHeartbeats 4000000 in
theorem t_Mo_hasCopy_60 {X : Xt} {S : Sh} (hS : ShOK S) {d : Nat} (hd : 1 ≤ d + 1) (σ : Mm) {k6 : Nat → Int32 → Int32 → Int32 → Int32 → Int32 → Option (Int32)} (hk6 : ∀ (x0 : Nat) (x1 : Int32) (x2 : Int32) (x3 : Int32) (x4 : Int32) (x5 : Int32) (h_x0 : tgT x0 = 12), Rf X S (emI σ) (k6 x0 x1 x2 x3 x4 x5) (d + 1) 299 6 [.ref x0, .int x1, .int x2, .int x3, .int x4, .int x5] [] σ) (x0 : Nat) (x1 : Int32) (x2 : Int32) (x3 : Int32) (x5 : Int32) (u4 : Value) (h_x0 : tgT x0 = 12) : Rf X S (emI σ) (f_Mo_hasCopy_60 σ k6 x0 x1 x2 x3 x5) (d + 1) 299 60 [.ref x0, .int x1, .int x2, .int x3, u4, .int x5] [] σ := by
  unfold f_Mo_hasCopy_60
  refine rf_iconst c_299_60 ki_0 ?_
  exact t_Mo_hasCopy_61 hS hd σ hk6 x0 x1 x2 x3 x5 (0 : Int32) (u4) h_x0
def f_Mo_hasCopy_6 (σ : Mm) : Nat → Nat → Int32 → Int32 → Int32 → Int32 → Int32 → Option Int32
  | 0, _, _, _, _, _, _ => none
  | n + 1, x0, x1, x2, x3, x4, x5 => (if (σ (rfT x0 0) (ix (7 : Int32))) ≤ x5 then (if zB x4 = true then some x4 else none) else (if ¬ x4 = 0 then (f_Mo_hasCopy_56 σ (f_Mo_hasCopy_6 σ n) x0 x1 x2 x3 x5) else ((f_Mo_copyOf σ x0 x5 (0 : Int32)).bind fun v27 => (if ¬ v27 = x2 then (f_Mo_hasCopy_60 σ (f_Mo_hasCopy_6 σ n) x0 x1 x2 x3 x5) else ((f_Mo_copyOf σ x0 x5 (1 : Int32)).bind fun v38 => (if ¬ v38 = x1 then (f_Mo_hasCopy_60 σ (f_Mo_hasCopy_6 σ n) x0 x1 x2 x3 x5) else ((f_Mo_copyOf σ x0 x5 (2 : Int32)).bind fun v49 => (if x3 < v49 then (f_Mo_hasCopy_60 σ (f_Mo_hasCopy_6 σ n) x0 x1 x2 x3 x5) else (f_Mo_hasCopy_56 σ (f_Mo_hasCopy_6 σ n) x0 x1 x2 x3 x5)))))))))
set_option maxRecDepth 100000 in
set_option maxHeartbeats 4000000 in
theorem t_Mo_hasCopy_6 {X : Xt} {S : Sh} (hS : ShOK S) {d : Nat} (hd : 1 ≤ d + 1) (σ : Mm) : ∀ (n : Nat) (x0 : Nat) (x1 : Int32) (x2 : Int32) (x3 : Int32) (x4 : Int32) (x5 : Int32) (h_x0 : tgT x0 = 12), Rf X S (emI σ) (f_Mo_hasCopy_6 σ n x0 x1 x2 x3 x4 x5) (d + 1) 299 6 [.ref x0, .int x1, .int x2, .int x3, .int x4, .int x5] [] σ := by
  intro n
  induction n with
  | zero => intro x0 x1 x2 x3 x4 x5 h_x0; exact rf_none
  | succ n ih =>
    intro x0 x1 x2 x3 x4 x5 h_x0
    rw [f_Mo_hasCopy_6]
    refine rf_ild (i := 5) (Or.inl ⟨rfl, rfl⟩) c_299_6 rfl ?_
    refine rf_ald (i := 0) (Or.inr ⟨0, rfl, rfl, rfl⟩) c_299_8 rfl ?_
    refine rf_getr hS c_299_9 rfl fl_12_9 rfl h_x0 ?_
    refine rf_bipush c_299_12 kb_7 ?_
    refine rf_iald hS c_299_14 (tf_12_0 h_x0) (lf_12_0 h_x0) (by decide) ?_
    refine rf_ite (fun hc15 => ?_) (fun hc15 => ?_)
    · refine rf_b2t c_299_15 rfl (decide_eq_true hc15) ?_
      refine rf_ild (i := 4) (Or.inl ⟨rfl, rfl⟩) c_299_69 rfl ?_
      refine rf_ite (fun hq71 => ?_) (fun _ => rf_none)
      exact rf_ret c_299_71 rfl (zB_n hq71) rfl rfl
    · refine rf_b2f c_299_15 rfl (decide_eq_false hc15) ?_
      refine rf_ild (i := 4) (Or.inl ⟨rfl, rfl⟩) c_299_18 rfl ?_
      refine rf_ite (fun hc20 => ?_) (fun hc20 => ?_)
      · refine rf_b1t c_299_20 rfl (decide_eq_true hc20) ?_
        exact t_Mo_hasCopy_56 hS hd σ ih x0 x1 x2 x3 x5 (.int x4) h_x0
      · refine rf_b1f c_299_20 rfl (decide_eq_false hc20) ?_
        refine rf_ald (i := 0) (Or.inr ⟨0, rfl, rfl, rfl⟩) c_299_23 rfl ?_
        refine rf_ild (i := 5) (Or.inl ⟨rfl, rfl⟩) c_299_24 rfl ?_
        refine rf_iconst c_299_26 ki_0 ?_
        refine rf_callI (as := [.ref x0, .int x5, .int (0 : Int32)]) (kd := 1) c_299_27 rfl (by decide) rfl ml_12_353 (by decide) rfl (rcv_1 hS rfl rfl h_x0 (by decide)) (Nat.zero_le _) rfl rfl (t_Mo_copyOf hS (by omega) σ x0 x5 (0 : Int32) h_x0) (fun v27 => ?_)
        refine rf_ild (i := 2) (Or.inr ⟨2, rfl, rfl, rfl⟩) c_299_30 rfl ?_
        refine rf_ite (fun hc31 => ?_) (fun hc31 => ?_)
        · refine rf_b2t c_299_31 rfl (decide_eq_true hc31) ?_
          exact t_Mo_hasCopy_60 hS hd σ ih x0 x1 x2 x3 x5 (.int x4) h_x0
        · refine rf_b2f c_299_31 rfl (decide_eq_false hc31) ?_
          refine rf_ald (i := 0) (Or.inr ⟨0, rfl, rfl, rfl⟩) c_299_34 rfl ?_
          refine rf_ild (i := 5) (Or.inl ⟨rfl, rfl⟩) c_299_35 rfl ?_
          refine rf_iconst c_299_37 ki_1 ?_
          refine rf_callI (as := [.ref x0, .int x5, .int (1 : Int32)]) (kd := 1) c_299_38 rfl (by decide) rfl ml_12_353 (by decide) rfl (rcv_1 hS rfl rfl h_x0 (by decide)) (Nat.zero_le _) rfl rfl (t_Mo_copyOf hS (by omega) σ x0 x5 (1 : Int32) h_x0) (fun v38 => ?_)
          refine rf_ild (i := 1) (Or.inr ⟨1, rfl, rfl, rfl⟩) c_299_41 rfl ?_
          refine rf_ite (fun hc42 => ?_) (fun hc42 => ?_)
          · refine rf_b2t c_299_42 rfl (decide_eq_true hc42) ?_
            exact t_Mo_hasCopy_60 hS hd σ ih x0 x1 x2 x3 x5 (.int x4) h_x0
          · refine rf_b2f c_299_42 rfl (decide_eq_false hc42) ?_
            refine rf_ald (i := 0) (Or.inr ⟨0, rfl, rfl, rfl⟩) c_299_45 rfl ?_
            refine rf_ild (i := 5) (Or.inl ⟨rfl, rfl⟩) c_299_46 rfl ?_
            refine rf_iconst c_299_48 ki_2 ?_
            refine rf_callI (as := [.ref x0, .int x5, .int (2 : Int32)]) (kd := 1) c_299_49 rfl (by decide) rfl ml_12_353 (by decide) rfl (rcv_1 hS rfl rfl h_x0 (by decide)) (Nat.zero_le _) rfl rfl (t_Mo_copyOf hS (by omega) σ x0 x5 (2 : Int32) h_x0) (fun v49 => ?_)
            refine rf_ild (i := 3) (Or.inr ⟨3, rfl, rfl, rfl⟩) c_299_52 rfl ?_
            refine rf_ite (fun hc53 => ?_) (fun hc53 => ?_)
            · refine rf_b2t c_299_53 rfl (decide_eq_true hc53) ?_
              exact t_Mo_hasCopy_60 hS hd σ ih x0 x1 x2 x3 x5 (.int x4) h_x0
            · refine rf_b2f c_299_53 rfl (decide_eq_false hc53) ?_
              exact t_Mo_hasCopy_56 hS hd σ ih x0 x1 x2 x3 x5 (.int x4) h_x0
def f_Mo_hasCopy (σ : Mm) (x0 : Nat) (x1 : Int32) (x2 : Int32) (x3 : Int32) : Option Int32 := f_Mo_hasCopy_6 σ NN x0 x1 x2 x3 (0 : Int32) (0 : Int32)
set_option maxRecDepth 100000 in
set_option maxHeartbeats 4000000 in
theorem t_Mo_hasCopy_e {X : Xt} {S : Sh} (hS : ShOK S) {d : Nat} (hd : 1 ≤ d + 1) (σ : Mm) (x0 : Nat) (x1 : Int32) (x2 : Int32) (x3 : Int32) (h_x0 : tgT x0 = 12) : Rf X S (emI σ) (f_Mo_hasCopy σ x0 x1 x2 x3) (d + 1) 299 0 [.ref x0, .int x1, .int x2, .int x3, unset0, unset0] [] σ := by
  unfold f_Mo_hasCopy
  refine rf_iconst c_299_0 ki_0 ?_
  refine rf_ist (i := 4) (Or.inl ⟨rfl, rfl⟩) c_299_1 (Nat.le_of_ble_eq_true rfl) rfl ?_
  refine rf_iconst c_299_3 ki_0 ?_
  refine rf_ist (i := 5) (Or.inl ⟨rfl, rfl⟩) c_299_4 (Nat.le_of_ble_eq_true rfl) rfl ?_
  exact t_Mo_hasCopy_6 hS hd σ  NN x0 x1 x2 x3 (0 : Int32) (0 : Int32) h_x0
theorem t_Mo_hasCopy {X : Xt} {S : Sh} (hS : ShOK S) {d : Nat} (hd : 1 ≤ d) (σ : Mm) (x0 : Nat) (x1 : Int32) (x2 : Int32) (x3 : Int32) (h_x0 : tgT x0 = 12) : Rf X S (emI σ) (f_Mo_hasCopy σ x0 x1 x2 x3) d 299 0 [.ref x0, .int x1, .int x2, .int x3, unset0, unset0] [] σ := by
  obtain ⟨d1, rfl⟩ : ∃ d1, d = d1 + 1 := ⟨d - 1, by omega⟩
  exact t_Mo_hasCopy_e hS hd σ x0 x1 x2 x3 h_x0
theorem c_300_0 : cd 300 0 = some (.aload_n 0, 1) := by decide +kernel
theorem c_300_1 : cd 300 1 = some (.iload_n 1, 1) := by decide +kernel
theorem c_300_2 : cd 300 2 = some (.invokevirtual 87, 3) := by decide +kernel
theorem c_300_5 : cd 300 5 = some (.ifCond .eq (10), 3) := by decide +kernel
theorem c_300_8 : cd 300 8 = some (.iload_n 2, 1) := by decide +kernel
theorem c_300_9 : cd 300 9 = some (.invokestatic 100, 3) := by decide +kernel
theorem c_300_12 : cd 300 12 = some (.ifCond .ne (6), 3) := by decide +kernel
theorem c_300_15 : cd 300 15 = some (.ldc 91, 2) := by decide +kernel
theorem c_300_17 : cd 300 17 = some (.ireturn, 1) := by decide +kernel
theorem c_300_18 : cd 300 18 = some (.iconst (0), 1) := by decide +kernel
theorem c_300_19 : cd 300 19 = some (.istore_n 3, 1) := by decide +kernel
theorem c_300_20 : cd 300 20 = some (.iconst (0), 1) := by decide +kernel
theorem c_300_21 : cd 300 21 = some (.istore 4, 2) := by decide +kernel
theorem c_300_23 : cd 300 23 = some (.iload 4, 2) := by decide +kernel
theorem c_300_25 : cd 300 25 = some (.aload_n 0, 1) := by decide +kernel
theorem c_300_26 : cd 300 26 = some (.getfield 9, 3) := by decide +kernel
theorem c_300_29 : cd 300 29 = some (.iconst (4), 1) := by decide +kernel
theorem c_300_30 : cd 300 30 = some (.iaload, 1) := by decide +kernel
theorem c_300_31 : cd 300 31 = some (.if_icmp .ge (91), 3) := by decide +kernel
theorem c_300_34 : cd 300 34 = some (.aload_n 0, 1) := by decide +kernel
theorem c_300_35 : cd 300 35 = some (.iload 4, 2) := by decide +kernel
theorem c_300_37 : cd 300 37 = some (.bipush (9), 2) := by decide +kernel
theorem c_300_39 : cd 300 39 = some (.invokevirtual 144, 3) := by decide +kernel
theorem c_300_42 : cd 300 42 = some (.istore 5, 2) := by decide +kernel
theorem c_300_44 : cd 300 44 = some (.iload 5, 2) := by decide +kernel
theorem c_300_46 : cd 300 46 = some (.ifCond .lt (29), 3) := by decide +kernel
theorem c_300_49 : cd 300 49 = some (.aload_n 0, 1) := by decide +kernel
theorem c_300_50 : cd 300 50 = some (.iload 4, 2) := by decide +kernel
theorem c_300_52 : cd 300 52 = some (.bipush (10), 2) := by decide +kernel
theorem c_300_54 : cd 300 54 = some (.invokevirtual 144, 3) := by decide +kernel
theorem c_300_57 : cd 300 57 = some (.iload_n 2, 1) := by decide +kernel
theorem c_300_58 : cd 300 58 = some (.if_icmp .gt (17), 3) := by decide +kernel
theorem c_300_61 : cd 300 61 = some (.aload_n 0, 1) := by decide +kernel
theorem c_300_62 : cd 300 62 = some (.iload_n 1, 1) := by decide +kernel
theorem c_300_63 : cd 300 63 = some (.iload 5, 2) := by decide +kernel
theorem c_300_65 : cd 300 65 = some (.invokevirtual 310, 3) := by decide +kernel
theorem c_300_68 : cd 300 68 = some (.ifCond .eq (7), 3) := by decide +kernel
theorem c_300_71 : cd 300 71 = some (.iconst (1), 1) := by decide +kernel
theorem c_300_72 : cd 300 72 = some (.goto (4), 3) := by decide +kernel
theorem c_300_75 : cd 300 75 = some (.iconst (0), 1) := by decide +kernel
theorem c_300_76 : cd 300 76 = some (.istore 6, 2) := by decide +kernel
theorem c_300_78 : cd 300 78 = some (.iload_n 3, 1) := by decide +kernel
theorem c_300_79 : cd 300 79 = some (.aload_n 0, 1) := by decide +kernel
theorem c_300_80 : cd 300 80 = some (.iload 4, 2) := by decide +kernel
theorem c_300_82 : cd 300 82 = some (.iconst (1), 1) := by decide +kernel
theorem c_300_83 : cd 300 83 = some (.invokevirtual 144, 3) := by decide +kernel
theorem c_300_86 : cd 300 86 = some (.iload_n 1, 1) := by decide +kernel
theorem c_300_87 : cd 300 87 = some (.if_icmp .eq (19), 3) := by decide +kernel
theorem c_300_90 : cd 300 90 = some (.iload 6, 2) := by decide +kernel
theorem c_300_92 : cd 300 92 = some (.ifCond .ne (14), 3) := by decide +kernel
theorem c_300_95 : cd 300 95 = some (.aload_n 0, 1) := by decide +kernel
theorem c_300_96 : cd 300 96 = some (.iload_n 1, 1) := by decide +kernel
theorem c_300_97 : cd 300 97 = some (.iload 4, 2) := by decide +kernel
theorem c_300_99 : cd 300 99 = some (.iload_n 2, 1) := by decide +kernel
theorem c_300_100 : cd 300 100 = some (.invokevirtual 368, 3) := by decide +kernel
theorem c_300_103 : cd 300 103 = some (.ifCond .eq (10), 3) := by decide +kernel
theorem c_300_106 : cd 300 106 = some (.iconst (1), 1) := by decide +kernel
theorem c_300_107 : cd 300 107 = some (.iload 4, 2) := by decide +kernel
theorem c_300_109 : cd 300 109 = some (.ishl, 1) := by decide +kernel
theorem c_300_110 : cd 300 110 = some (.goto (4), 3) := by decide +kernel
theorem c_300_113 : cd 300 113 = some (.iconst (0), 1) := by decide +kernel
theorem c_300_114 : cd 300 114 = some (.ior, 1) := by decide +kernel
theorem c_300_115 : cd 300 115 = some (.istore_n 3, 1) := by decide +kernel
theorem c_300_116 : cd 300 116 = some (.iinc 4 (1), 3) := by decide +kernel
theorem c_300_119 : cd 300 119 = some (.goto (-96), 3) := by decide +kernel
theorem c_300_122 : cd 300 122 = some (.iload_n 3, 1) := by decide +kernel
theorem c_300_123 : cd 300 123 = some (.ireturn, 1) := by decide +kernel
def f_Mo_knows_15 (σ : Mm) : Option Int32 := some (-1000000001 : Int32)
set_option maxRecDepth 100000 in
set_option maxHeartbeats 4000000 in
theorem t_Mo_knows_15 {X : Xt} {S : Sh} (hS : ShOK S) {d : Nat} (hd : 2 ≤ d + 1) (σ : Mm) (u0 : Value) (u1 : Value) (u2 : Value) (u3 : Value) (u4 : Value) (u5 : Value) (u6 : Value) : Rf X S (emI σ) (f_Mo_knows_15 σ) (d + 1) 300 15 [u0, u1, u2, u3, u4, u5, u6] [] σ := by
  unfold f_Mo_knows_15
  refine rf_ldc (Or.inl ⟨rfl, rfl⟩) c_300_15 rfl kl_12_91 ?_
  exact rf_ret c_300_17 rfl rfl rfl rfl
def f_Mo_knows_114 (σ : Mm) (k23 : Nat → Int32 → Int32 → Int32 → Int32 → Option (Int32)) (x0 : Nat) (x1 : Int32) (x2 : Int32) (x4 : Int32) (y0 : Int32) (y1 : Int32) : Option Int32 := k23 x0 x1 x2 (y0 ||| y1) (x4 + (1 : Int32))
set_option maxRecDepth 100000 in
set_option maxHeartbeats 4000000 in
theorem t_Mo_knows_114 {X : Xt} {S : Sh} (hS : ShOK S) {d : Nat} (hd : 2 ≤ d + 1) (σ : Mm) {k23 : Nat → Int32 → Int32 → Int32 → Int32 → Option (Int32)} (hk23 : ∀ (x0 : Nat) (x1 : Int32) (x2 : Int32) (x3 : Int32) (x4 : Int32) (u5 : Value) (u6 : Value) (h_x0 : tgT x0 = 12), Rf X S (emI σ) (k23 x0 x1 x2 x3 x4) (d + 1) 300 23 [.ref x0, .int x1, .int x2, .int x3, .int x4, u5, u6] [] σ) (x0 : Nat) (x1 : Int32) (x2 : Int32) (x4 : Int32) (y0 : Int32) (y1 : Int32) (u3 : Value) (u5 : Value) (u6 : Value) (h_x0 : tgT x0 = 12) : Rf X S (emI σ) (f_Mo_knows_114 σ k23 x0 x1 x2 x4 y0 y1) (d + 1) 300 114 [.ref x0, .int x1, .int x2, u3, .int x4, u5, u6] [.int y1, .int y0] σ := by
  unfold f_Mo_knows_114
  refine rf_ior c_300_114 ?_
  refine rf_ist (i := 3) (Or.inr ⟨3, rfl, rfl, rfl⟩) c_300_115 (Nat.le_of_ble_eq_true rfl) rfl ?_
  refine rf_iinc c_300_116 rfl ki_1 rfl ?_
  refine rf_goto c_300_119 rfl ?_
  exact hk23 x0 x1 x2 (y0 ||| y1) (x4 + (1 : Int32)) (u5) (u6) h_x0
def f_Mo_knows_106 (σ : Mm) (k23 : Nat → Int32 → Int32 → Int32 → Int32 → Option (Int32)) (x0 : Nat) (x1 : Int32) (x2 : Int32) (x4 : Int32) (y0 : Int32) : Option Int32 := f_Mo_knows_114 σ k23 x0 x1 x2 x4 y0 ((1 : Int32) <<< (x4 &&& 31))
set_option maxRecDepth 100000 in
set_option maxHeartbeats 4000000 in
theorem t_Mo_knows_106 {X : Xt} {S : Sh} (hS : ShOK S) {d : Nat} (hd : 2 ≤ d + 1) (σ : Mm) {k23 : Nat → Int32 → Int32 → Int32 → Int32 → Option (Int32)} (hk23 : ∀ (x0 : Nat) (x1 : Int32) (x2 : Int32) (x3 : Int32) (x4 : Int32) (u5 : Value) (u6 : Value) (h_x0 : tgT x0 = 12), Rf X S (emI σ) (k23 x0 x1 x2 x3 x4) (d + 1) 300 23 [.ref x0, .int x1, .int x2, .int x3, .int x4, u5, u6] [] σ) (x0 : Nat) (x1 : Int32) (x2 : Int32) (x4 : Int32) (y0 : Int32) (u3 : Value) (u5 : Value) (u6 : Value) (h_x0 : tgT x0 = 12) : Rf X S (emI σ) (f_Mo_knows_106 σ k23 x0 x1 x2 x4 y0) (d + 1) 300 106 [.ref x0, .int x1, .int x2, u3, .int x4, u5, u6] [.int y0] σ := by
  unfold f_Mo_knows_106
  refine rf_iconst c_300_106 ki_1 ?_
  refine rf_ild (i := 4) (Or.inl ⟨rfl, rfl⟩) c_300_107 rfl ?_
  refine rf_ishl c_300_109 ?_
  refine rf_goto c_300_110 rfl ?_
  exact t_Mo_knows_114 hS hd σ hk23 x0 x1 x2 x4 y0 ((1 : Int32) <<< (x4 &&& 31)) (u3) (u5) (u6) h_x0
def f_Mo_knows_76 (σ : Mm) (k23 : Nat → Int32 → Int32 → Int32 → Int32 → Option (Int32)) (x0 : Nat) (x1 : Int32) (x2 : Int32) (x3 : Int32) (x4 : Int32) (y0 : Int32) : Option Int32 := (f_Mo_paperOf σ x0 x4 (1 : Int32)).bind fun v83 => (if v83 = x1 then (f_Mo_knows_106 σ k23 x0 x1 x2 x4 x3) else (if ¬ y0 = 0 then (f_Mo_knows_106 σ k23 x0 x1 x2 x4 x3) else ((f_Mo_hasCopy σ x0 x1 x4 x2).bind fun v100 => (if v100 = 0 then (f_Mo_knows_114 σ k23 x0 x1 x2 x4 x3 (0 : Int32)) else (f_Mo_knows_106 σ k23 x0 x1 x2 x4 x3)))))
set_option maxRecDepth 100000 in
set_option maxHeartbeats 4000000 in
theorem t_Mo_knows_76 {X : Xt} {S : Sh} (hS : ShOK S) {d : Nat} (hd : 2 ≤ d + 1) (σ : Mm) {k23 : Nat → Int32 → Int32 → Int32 → Int32 → Option (Int32)} (hk23 : ∀ (x0 : Nat) (x1 : Int32) (x2 : Int32) (x3 : Int32) (x4 : Int32) (u5 : Value) (u6 : Value) (h_x0 : tgT x0 = 12), Rf X S (emI σ) (k23 x0 x1 x2 x3 x4) (d + 1) 300 23 [.ref x0, .int x1, .int x2, .int x3, .int x4, u5, u6] [] σ) (x0 : Nat) (x1 : Int32) (x2 : Int32) (x3 : Int32) (x4 : Int32) (y0 : Int32) (u5 : Value) (u6 : Value) (h_x0 : tgT x0 = 12) : Rf X S (emI σ) (f_Mo_knows_76 σ k23 x0 x1 x2 x3 x4 y0) (d + 1) 300 76 [.ref x0, .int x1, .int x2, .int x3, .int x4, u5, u6] [.int y0] σ := by
  unfold f_Mo_knows_76
  refine rf_ist (i := 6) (Or.inl ⟨rfl, rfl⟩) c_300_76 (Nat.le_of_ble_eq_true rfl) rfl ?_
  refine rf_ild (i := 3) (Or.inr ⟨3, rfl, rfl, rfl⟩) c_300_78 rfl ?_
  refine rf_ald (i := 0) (Or.inr ⟨0, rfl, rfl, rfl⟩) c_300_79 rfl ?_
  refine rf_ild (i := 4) (Or.inl ⟨rfl, rfl⟩) c_300_80 rfl ?_
  refine rf_iconst c_300_82 ki_1 ?_
  refine rf_callI (as := [.ref x0, .int x4, .int (1 : Int32)]) (kd := 1) c_300_83 rfl (by decide) rfl ml_12_144 (by decide) rfl (rcv_1 hS rfl rfl h_x0 (by decide)) (by simp [Value.category]) rfl rfl (t_Mo_paperOf hS (by omega) σ x0 x4 (1 : Int32) h_x0) (fun v83 => ?_)
  refine rf_ild (i := 1) (Or.inr ⟨1, rfl, rfl, rfl⟩) c_300_86 rfl ?_
  refine rf_ite (fun hc87 => ?_) (fun hc87 => ?_)
  · refine rf_b2t c_300_87 rfl (decide_eq_true hc87) ?_
    exact t_Mo_knows_106 hS hd σ hk23 x0 x1 x2 x4 x3 (.int x3) (u5) (.int y0) h_x0
  · refine rf_b2f c_300_87 rfl (decide_eq_false hc87) ?_
    refine rf_ild (i := 6) (Or.inl ⟨rfl, rfl⟩) c_300_90 rfl ?_
    refine rf_ite (fun hc92 => ?_) (fun hc92 => ?_)
    · refine rf_b1t c_300_92 rfl (decide_eq_true hc92) ?_
      exact t_Mo_knows_106 hS hd σ hk23 x0 x1 x2 x4 x3 (.int x3) (u5) (.int y0) h_x0
    · refine rf_b1f c_300_92 rfl (decide_eq_false hc92) ?_
      refine rf_ald (i := 0) (Or.inr ⟨0, rfl, rfl, rfl⟩) c_300_95 rfl ?_
      refine rf_ild (i := 1) (Or.inr ⟨1, rfl, rfl, rfl⟩) c_300_96 rfl ?_
      refine rf_ild (i := 4) (Or.inl ⟨rfl, rfl⟩) c_300_97 rfl ?_
      refine rf_ild (i := 2) (Or.inr ⟨2, rfl, rfl, rfl⟩) c_300_99 rfl ?_
      refine rf_callI (as := [.ref x0, .int x1, .int x4, .int x2]) (kd := 1) c_300_100 rfl (by decide) rfl ml_12_368 (by decide) rfl (rcv_1 hS rfl rfl h_x0 (by decide)) (by simp [Value.category]) rfl rfl (t_Mo_hasCopy hS (by omega) σ x0 x1 x4 x2 h_x0) (fun v100 => ?_)
      refine rf_ite (fun hc103 => ?_) (fun hc103 => ?_)
      · refine rf_b1t c_300_103 rfl (decide_eq_true hc103) ?_
        refine rf_iconst c_300_113 ki_0 ?_
        exact t_Mo_knows_114 hS hd σ hk23 x0 x1 x2 x4 x3 (0 : Int32) (.int x3) (u5) (.int y0) h_x0
      · refine rf_b1f c_300_103 rfl (decide_eq_false hc103) ?_
        exact t_Mo_knows_106 hS hd σ hk23 x0 x1 x2 x4 x3 (.int x3) (u5) (.int y0) h_x0
def f_Mo_knows_75 (σ : Mm) (k23 : Nat → Int32 → Int32 → Int32 → Int32 → Option (Int32)) (x0 : Nat) (x1 : Int32) (x2 : Int32) (x3 : Int32) (x4 : Int32) : Option Int32 := f_Mo_knows_76 σ k23 x0 x1 x2 x3 x4 (0 : Int32)
set_option maxRecDepth 100000 in
set_option maxHeartbeats 4000000 in
theorem t_Mo_knows_75 {X : Xt} {S : Sh} (hS : ShOK S) {d : Nat} (hd : 2 ≤ d + 1) (σ : Mm) {k23 : Nat → Int32 → Int32 → Int32 → Int32 → Option (Int32)} (hk23 : ∀ (x0 : Nat) (x1 : Int32) (x2 : Int32) (x3 : Int32) (x4 : Int32) (u5 : Value) (u6 : Value) (h_x0 : tgT x0 = 12), Rf X S (emI σ) (k23 x0 x1 x2 x3 x4) (d + 1) 300 23 [.ref x0, .int x1, .int x2, .int x3, .int x4, u5, u6] [] σ) (x0 : Nat) (x1 : Int32) (x2 : Int32) (x3 : Int32) (x4 : Int32) (u5 : Value) (u6 : Value) (h_x0 : tgT x0 = 12) : Rf X S (emI σ) (f_Mo_knows_75 σ k23 x0 x1 x2 x3 x4) (d + 1) 300 75 [.ref x0, .int x1, .int x2, .int x3, .int x4, u5, u6] [] σ := by
  unfold f_Mo_knows_75
  refine rf_iconst c_300_75 ki_0 ?_
  exact t_Mo_knows_76 hS hd σ hk23 x0 x1 x2 x3 x4 (0 : Int32) (u5) (u6) h_x0
def f_Mo_knows_23 (σ : Mm) : Nat → Nat → Int32 → Int32 → Int32 → Int32 → Option Int32
  | 0, _, _, _, _, _ => none
  | n + 1, x0, x1, x2, x3, x4 => (if (σ (rfT x0 0) (ix (4 : Int32))) ≤ x4 then (some x3) else ((f_Mo_paperOf σ x0 x4 (9 : Int32)).bind fun v39 => (if v39 < 0 then (f_Mo_knows_75 σ (f_Mo_knows_23 σ n) x0 x1 x2 x3 x4) else ((f_Mo_paperOf σ x0 x4 (10 : Int32)).bind fun v54 => (if x2 < v54 then (f_Mo_knows_75 σ (f_Mo_knows_23 σ n) x0 x1 x2 x3 x4) else ((f_Mo_hasSeat σ x0 x1 v39).bind fun v65 => (if v65 = 0 then (f_Mo_knows_75 σ (f_Mo_knows_23 σ n) x0 x1 x2 x3 x4) else (f_Mo_knows_76 σ (f_Mo_knows_23 σ n) x0 x1 x2 x3 x4 (1 : Int32)))))))))
set_option maxRecDepth 100000 in
set_option maxHeartbeats 4000000 in
theorem t_Mo_knows_23 {X : Xt} {S : Sh} (hS : ShOK S) {d : Nat} (hd : 2 ≤ d + 1) (σ : Mm) : ∀ (n : Nat) (x0 : Nat) (x1 : Int32) (x2 : Int32) (x3 : Int32) (x4 : Int32) (u5 : Value) (u6 : Value) (h_x0 : tgT x0 = 12), Rf X S (emI σ) (f_Mo_knows_23 σ n x0 x1 x2 x3 x4) (d + 1) 300 23 [.ref x0, .int x1, .int x2, .int x3, .int x4, u5, u6] [] σ := by
  intro n
  induction n with
  | zero => intro x0 x1 x2 x3 x4 u5 u6 h_x0; exact rf_none
  | succ n ih =>
    intro x0 x1 x2 x3 x4 u5 u6 h_x0
    rw [f_Mo_knows_23]
    refine rf_ild (i := 4) (Or.inl ⟨rfl, rfl⟩) c_300_23 rfl ?_
    refine rf_ald (i := 0) (Or.inr ⟨0, rfl, rfl, rfl⟩) c_300_25 rfl ?_
    refine rf_getr hS c_300_26 rfl fl_12_9 rfl h_x0 ?_
    refine rf_iconst c_300_29 ki_4 ?_
    refine rf_iald hS c_300_30 (tf_12_0 h_x0) (lf_12_0 h_x0) (by decide) ?_
    refine rf_ite (fun hc31 => ?_) (fun hc31 => ?_)
    · refine rf_b2t c_300_31 rfl (decide_eq_true hc31) ?_
      refine rf_ild (i := 3) (Or.inr ⟨3, rfl, rfl, rfl⟩) c_300_122 rfl ?_
      exact rf_ret c_300_123 rfl rfl rfl rfl
    · refine rf_b2f c_300_31 rfl (decide_eq_false hc31) ?_
      refine rf_ald (i := 0) (Or.inr ⟨0, rfl, rfl, rfl⟩) c_300_34 rfl ?_
      refine rf_ild (i := 4) (Or.inl ⟨rfl, rfl⟩) c_300_35 rfl ?_
      refine rf_bipush c_300_37 kb_9 ?_
      refine rf_callI (as := [.ref x0, .int x4, .int (9 : Int32)]) (kd := 1) c_300_39 rfl (by decide) rfl ml_12_144 (by decide) rfl (rcv_1 hS rfl rfl h_x0 (by decide)) (Nat.zero_le _) rfl rfl (t_Mo_paperOf hS (by omega) σ x0 x4 (9 : Int32) h_x0) (fun v39 => ?_)
      refine rf_ist (i := 5) (Or.inl ⟨rfl, rfl⟩) c_300_42 (Nat.le_of_ble_eq_true rfl) rfl ?_
      refine rf_ild (i := 5) (Or.inl ⟨rfl, rfl⟩) c_300_44 rfl ?_
      refine rf_ite (fun hc46 => ?_) (fun hc46 => ?_)
      · refine rf_b1t c_300_46 rfl (decide_eq_true hc46) ?_
        exact t_Mo_knows_75 hS hd σ ih x0 x1 x2 x3 x4 (.int v39) (u6) h_x0
      · refine rf_b1f c_300_46 rfl (decide_eq_false hc46) ?_
        refine rf_ald (i := 0) (Or.inr ⟨0, rfl, rfl, rfl⟩) c_300_49 rfl ?_
        refine rf_ild (i := 4) (Or.inl ⟨rfl, rfl⟩) c_300_50 rfl ?_
        refine rf_bipush c_300_52 kb_10 ?_
        refine rf_callI (as := [.ref x0, .int x4, .int (10 : Int32)]) (kd := 1) c_300_54 rfl (by decide) rfl ml_12_144 (by decide) rfl (rcv_1 hS rfl rfl h_x0 (by decide)) (Nat.zero_le _) rfl rfl (t_Mo_paperOf hS (by omega) σ x0 x4 (10 : Int32) h_x0) (fun v54 => ?_)
        refine rf_ild (i := 2) (Or.inr ⟨2, rfl, rfl, rfl⟩) c_300_57 rfl ?_
        refine rf_ite (fun hc58 => ?_) (fun hc58 => ?_)
        · refine rf_b2t c_300_58 rfl (decide_eq_true hc58) ?_
          exact t_Mo_knows_75 hS hd σ ih x0 x1 x2 x3 x4 (.int v39) (u6) h_x0
        · refine rf_b2f c_300_58 rfl (decide_eq_false hc58) ?_
          refine rf_ald (i := 0) (Or.inr ⟨0, rfl, rfl, rfl⟩) c_300_61 rfl ?_
          refine rf_ild (i := 1) (Or.inr ⟨1, rfl, rfl, rfl⟩) c_300_62 rfl ?_
          refine rf_ild (i := 5) (Or.inl ⟨rfl, rfl⟩) c_300_63 rfl ?_
          refine rf_callI (as := [.ref x0, .int x1, .int v39]) (kd := 1) c_300_65 rfl (by decide) rfl ml_12_310 (by decide) rfl (rcv_1 hS rfl rfl h_x0 (by decide)) (Nat.zero_le _) rfl rfl (t_Mo_hasSeat hS (by omega) σ x0 x1 v39 h_x0) (fun v65 => ?_)
          refine rf_ite (fun hc68 => ?_) (fun hc68 => ?_)
          · refine rf_b1t c_300_68 rfl (decide_eq_true hc68) ?_
            exact t_Mo_knows_75 hS hd σ ih x0 x1 x2 x3 x4 (.int v39) (u6) h_x0
          · refine rf_b1f c_300_68 rfl (decide_eq_false hc68) ?_
            refine rf_iconst c_300_71 ki_1 ?_
            refine rf_goto c_300_72 rfl ?_
            exact t_Mo_knows_76 hS hd σ ih x0 x1 x2 x3 x4 (1 : Int32) (.int v39) (u6) h_x0
def f_Mo_knows (σ : Mm) (x0 : Nat) (x1 : Int32) (x2 : Int32) : Option Int32 := (f_Mo_isOffice σ x0 x1).bind fun v2 => (if v2 = 0 then (f_Mo_knows_15 σ ) else ((f_Mo_isDay σ x2).bind fun v9 => (if ¬ v9 = 0 then (f_Mo_knows_23 σ NN x0 x1 x2 (0 : Int32) (0 : Int32)) else (f_Mo_knows_15 σ ))))
set_option maxRecDepth 100000 in
set_option maxHeartbeats 4000000 in
theorem t_Mo_knows_e {X : Xt} {S : Sh} (hS : ShOK S) {d : Nat} (hd : 2 ≤ d + 1) (σ : Mm) (x0 : Nat) (x1 : Int32) (x2 : Int32) (h_x0 : tgT x0 = 12) : Rf X S (emI σ) (f_Mo_knows σ x0 x1 x2) (d + 1) 300 0 [.ref x0, .int x1, .int x2, unset0, unset0, unset0, unset0] [] σ := by
  unfold f_Mo_knows
  refine rf_ald (i := 0) (Or.inr ⟨0, rfl, rfl, rfl⟩) c_300_0 rfl ?_
  refine rf_ild (i := 1) (Or.inr ⟨1, rfl, rfl, rfl⟩) c_300_1 rfl ?_
  refine rf_callI (as := [.ref x0, .int x1]) (kd := 1) c_300_2 rfl (by decide) rfl ml_12_87 (by decide) rfl (rcv_1 hS rfl rfl h_x0 (by decide)) (Nat.zero_le _) rfl rfl (t_Mo_isOffice hS (by omega) σ x0 x1 h_x0) (fun v2 => ?_)
  refine rf_ite (fun hc5 => ?_) (fun hc5 => ?_)
  · refine rf_b1t c_300_5 rfl (decide_eq_true hc5) ?_
    exact t_Mo_knows_15 hS hd σ  (.ref x0) (.int x1) (.int x2) (unset0) (unset0) (unset0) (unset0)
  · refine rf_b1f c_300_5 rfl (decide_eq_false hc5) ?_
    refine rf_ild (i := 2) (Or.inr ⟨2, rfl, rfl, rfl⟩) c_300_8 rfl ?_
    refine rf_callI (as := [.int x2]) (kd := 0) c_300_9 rfl (by decide) rfl ml_12_100 (by decide) rfl (rcv_0 rfl) (Nat.zero_le _) rfl rfl (t_Mo_isDay hS (by omega) σ x2) (fun v9 => ?_)
    refine rf_ite (fun hc12 => ?_) (fun hc12 => ?_)
    · refine rf_b1t c_300_12 rfl (decide_eq_true hc12) ?_
      refine rf_iconst c_300_18 ki_0 ?_
      refine rf_ist (i := 3) (Or.inr ⟨3, rfl, rfl, rfl⟩) c_300_19 (Nat.le_of_ble_eq_true rfl) rfl ?_
      refine rf_iconst c_300_20 ki_0 ?_
      refine rf_ist (i := 4) (Or.inl ⟨rfl, rfl⟩) c_300_21 (Nat.le_of_ble_eq_true rfl) rfl ?_
      exact t_Mo_knows_23 hS hd σ  NN x0 x1 x2 (0 : Int32) (0 : Int32) (unset0) (unset0) h_x0
    · refine rf_b1f c_300_12 rfl (decide_eq_false hc12) ?_
      exact t_Mo_knows_15 hS hd σ  (.ref x0) (.int x1) (.int x2) (unset0) (unset0) (unset0) (unset0)
theorem t_Mo_knows {X : Xt} {S : Sh} (hS : ShOK S) {d : Nat} (hd : 2 ≤ d) (σ : Mm) (x0 : Nat) (x1 : Int32) (x2 : Int32) (h_x0 : tgT x0 = 12) : Rf X S (emI σ) (f_Mo_knows σ x0 x1 x2) d 300 0 [.ref x0, .int x1, .int x2, unset0, unset0, unset0, unset0] [] σ := by
  obtain ⟨d1, rfl⟩ : ∃ d1, d = d1 + 1 := ⟨d - 1, by omega⟩
  exact t_Mo_knows_e hS hd σ x0 x1 x2 h_x0
theorem c_301_0 : cd 301 0 = some (.iconst (0), 1) := by decide +kernel
theorem c_301_1 : cd 301 1 = some (.istore_n 1, 1) := by decide +kernel
theorem c_301_2 : cd 301 2 = some (.iconst (0), 1) := by decide +kernel
theorem c_301_3 : cd 301 3 = some (.istore_n 2, 1) := by decide +kernel
theorem c_301_4 : cd 301 4 = some (.iload_n 2, 1) := by decide +kernel
theorem c_301_5 : cd 301 5 = some (.aload_n 0, 1) := by decide +kernel
theorem c_301_6 : cd 301 6 = some (.getfield 9, 3) := by decide +kernel
theorem c_301_9 : cd 301 9 = some (.iconst (4), 1) := by decide +kernel
theorem c_301_10 : cd 301 10 = some (.iaload, 1) := by decide +kernel
theorem c_301_11 : cd 301 11 = some (.if_icmp .ge (47), 3) := by decide +kernel
theorem c_301_14 : cd 301 14 = some (.aload_n 0, 1) := by decide +kernel
theorem c_301_15 : cd 301 15 = some (.iload_n 2, 1) := by decide +kernel
theorem c_301_16 : cd 301 16 = some (.iconst (5), 1) := by decide +kernel
theorem c_301_17 : cd 301 17 = some (.invokevirtual 144, 3) := by decide +kernel
theorem c_301_20 : cd 301 20 = some (.istore_n 3, 1) := by decide +kernel
theorem c_301_21 : cd 301 21 = some (.iload_n 1, 1) := by decide +kernel
theorem c_301_22 : cd 301 22 = some (.iload_n 3, 1) := by decide +kernel
theorem c_301_23 : cd 301 23 = some (.ifCond .lt (26), 3) := by decide +kernel
theorem c_301_26 : cd 301 26 = some (.aload_n 0, 1) := by decide +kernel
theorem c_301_27 : cd 301 27 = some (.getfield 9, 3) := by decide +kernel
theorem c_301_30 : cd 301 30 = some (.iconst (0), 1) := by decide +kernel
theorem c_301_31 : cd 301 31 = some (.iaload, 1) := by decide +kernel
theorem c_301_32 : cd 301 32 = some (.iload_n 3, 1) := by decide +kernel
theorem c_301_33 : cd 301 33 = some (.isub, 1) := by decide +kernel
theorem c_301_34 : cd 301 34 = some (.aload_n 0, 1) := by decide +kernel
theorem c_301_35 : cd 301 35 = some (.iload_n 2, 1) := by decide +kernel
theorem c_301_36 : cd 301 36 = some (.iconst (4), 1) := by decide +kernel
theorem c_301_37 : cd 301 37 = some (.invokevirtual 301, 3) := by decide +kernel
theorem c_301_40 : cd 301 40 = some (.if_icmp .lt (9), 3) := by decide +kernel
theorem c_301_43 : cd 301 43 = some (.iconst (1), 1) := by decide +kernel
theorem c_301_44 : cd 301 44 = some (.iload_n 2, 1) := by decide +kernel
theorem c_301_45 : cd 301 45 = some (.ishl, 1) := by decide +kernel
theorem c_301_46 : cd 301 46 = some (.goto (4), 3) := by decide +kernel
theorem c_301_49 : cd 301 49 = some (.iconst (0), 1) := by decide +kernel
theorem c_301_50 : cd 301 50 = some (.ior, 1) := by decide +kernel
theorem c_301_51 : cd 301 51 = some (.istore_n 1, 1) := by decide +kernel
theorem c_301_52 : cd 301 52 = some (.iinc 2 (1), 3) := by decide +kernel
theorem c_301_55 : cd 301 55 = some (.goto (-51), 3) := by decide +kernel
theorem c_301_58 : cd 301 58 = some (.iload_n 1, 1) := by decide +kernel
theorem c_301_59 : cd 301 59 = some (.ireturn, 1) := by decide +kernel
def f_Mo_openNow_50 (k4 : Nat → Int32 → Int32 → Mm → Option (Int32 × Mm)) (x0 : Nat) (x2 : Int32) (y0 : Int32) (y1 : Int32) (σ : Mm) : Option (Int32 × Mm) := k4 x0 (y0 ||| y1) (x2 + (1 : Int32)) σ
set_option maxRecDepth 100000 in
set_option maxHeartbeats 4000000 in
theorem t_Mo_openNow_50 {X : Xt} {S : Sh} (hS : ShOK S) {d : Nat} (hd : 7 ≤ d + 1) {k4 : Nat → Int32 → Int32 → Mm → Option (Int32 × Mm)} (hk4 : ∀ (x0 : Nat) (x1 : Int32) (x2 : Int32) (u3 : Value) (σ : Mm) (h_x0 : tgT x0 = 12), Rf X S emM (k4 x0 x1 x2 σ) (d + 1) 301 4 [.ref x0, .int x1, .int x2, u3] [] σ) (x0 : Nat) (x2 : Int32) (y0 : Int32) (y1 : Int32) (u1 : Value) (u3 : Value) (σ : Mm) (h_x0 : tgT x0 = 12) : Rf X S emM (f_Mo_openNow_50 k4 x0 x2 y0 y1 σ) (d + 1) 301 50 [.ref x0, u1, .int x2, u3] [.int y1, .int y0] σ := by
  unfold f_Mo_openNow_50
  refine rf_ior c_301_50 ?_
  refine rf_ist (i := 1) (Or.inr ⟨1, rfl, rfl, rfl⟩) c_301_51 (Nat.le_of_ble_eq_true rfl) rfl ?_
  refine rf_iinc c_301_52 rfl ki_1 rfl ?_
  refine rf_goto c_301_55 rfl ?_
  exact hk4 x0 (y0 ||| y1) (x2 + (1 : Int32)) (u3) σ h_x0
def f_Mo_openNow_49 (k4 : Nat → Int32 → Int32 → Mm → Option (Int32 × Mm)) (x0 : Nat) (x2 : Int32) (y0 : Int32) (σ : Mm) : Option (Int32 × Mm) := f_Mo_openNow_50 k4 x0 x2 y0 (0 : Int32) σ
set_option maxRecDepth 100000 in
set_option maxHeartbeats 4000000 in
theorem t_Mo_openNow_49 {X : Xt} {S : Sh} (hS : ShOK S) {d : Nat} (hd : 7 ≤ d + 1) {k4 : Nat → Int32 → Int32 → Mm → Option (Int32 × Mm)} (hk4 : ∀ (x0 : Nat) (x1 : Int32) (x2 : Int32) (u3 : Value) (σ : Mm) (h_x0 : tgT x0 = 12), Rf X S emM (k4 x0 x1 x2 σ) (d + 1) 301 4 [.ref x0, .int x1, .int x2, u3] [] σ) (x0 : Nat) (x2 : Int32) (y0 : Int32) (u1 : Value) (u3 : Value) (σ : Mm) (h_x0 : tgT x0 = 12) : Rf X S emM (f_Mo_openNow_49 k4 x0 x2 y0 σ) (d + 1) 301 49 [.ref x0, u1, .int x2, u3] [.int y0] σ := by
  unfold f_Mo_openNow_49
  refine rf_iconst c_301_49 ki_0 ?_
  exact t_Mo_openNow_50 hS hd hk4 x0 x2 y0 (0 : Int32) (u1) (u3) σ h_x0
def f_Mo_openNow_4 : Nat → Nat → Int32 → Int32 → Mm → Option (Int32 × Mm)
  | 0, _, _, _, _ => none
  | n + 1, x0, x1, x2, σ => (if (σ (rfT x0 0) (ix (4 : Int32))) ≤ x2 then (some (x1, σ)) else ((f_Mo_paperOf σ x0 x2 (5 : Int32)).bind fun v17 => (if v17 < 0 then (f_Mo_openNow_49 (f_Mo_openNow_4  n) x0 x2 x1 σ) else ((f_Mo_dueOf x0 x2 (4 : Int32) σ).bind fun v37 => (if ((σ (rfT x0 0) (ix (0 : Int32))) - v17) < v37.1 then (f_Mo_openNow_49 (f_Mo_openNow_4  n) x0 x2 x1 v37.2) else (f_Mo_openNow_50 (f_Mo_openNow_4  n) x0 x2 x1 ((1 : Int32) <<< (x2 &&& 31)) v37.2))))))
set_option maxRecDepth 100000 in
set_option maxHeartbeats 4000000 in
theorem t_Mo_openNow_4 {X : Xt} {S : Sh} (hS : ShOK S) {d : Nat} (hd : 7 ≤ d + 1) : ∀ (n : Nat) (x0 : Nat) (x1 : Int32) (x2 : Int32) (u3 : Value) (σ : Mm) (h_x0 : tgT x0 = 12), Rf X S emM (f_Mo_openNow_4 n x0 x1 x2 σ) (d + 1) 301 4 [.ref x0, .int x1, .int x2, u3] [] σ := by
  intro n
  induction n with
  | zero => intro x0 x1 x2 u3 σ h_x0; exact rf_none
  | succ n ih =>
    intro x0 x1 x2 u3 σ h_x0
    rw [f_Mo_openNow_4]
    refine rf_ild (i := 2) (Or.inr ⟨2, rfl, rfl, rfl⟩) c_301_4 rfl ?_
    refine rf_ald (i := 0) (Or.inr ⟨0, rfl, rfl, rfl⟩) c_301_5 rfl ?_
    refine rf_getr hS c_301_6 rfl fl_12_9 rfl h_x0 ?_
    refine rf_iconst c_301_9 ki_4 ?_
    refine rf_iald hS c_301_10 (tf_12_0 h_x0) (lf_12_0 h_x0) (by decide) ?_
    refine rf_ite (fun hc11 => ?_) (fun hc11 => ?_)
    · refine rf_b2t c_301_11 rfl (decide_eq_true hc11) ?_
      refine rf_ild (i := 1) (Or.inr ⟨1, rfl, rfl, rfl⟩) c_301_58 rfl ?_
      exact rf_ret c_301_59 rfl rfl rfl rfl
    · refine rf_b2f c_301_11 rfl (decide_eq_false hc11) ?_
      refine rf_ald (i := 0) (Or.inr ⟨0, rfl, rfl, rfl⟩) c_301_14 rfl ?_
      refine rf_ild (i := 2) (Or.inr ⟨2, rfl, rfl, rfl⟩) c_301_15 rfl ?_
      refine rf_iconst c_301_16 ki_5 ?_
      refine rf_callI (as := [.ref x0, .int x2, .int (5 : Int32)]) (kd := 1) c_301_17 rfl (by decide) rfl ml_12_144 (by decide) rfl (rcv_1 hS rfl rfl h_x0 (by decide)) (Nat.zero_le _) rfl rfl (t_Mo_paperOf hS (by omega) σ x0 x2 (5 : Int32) h_x0) (fun v17 => ?_)
      refine rf_ist (i := 3) (Or.inr ⟨3, rfl, rfl, rfl⟩) c_301_20 (Nat.le_of_ble_eq_true rfl) rfl ?_
      refine rf_ild (i := 1) (Or.inr ⟨1, rfl, rfl, rfl⟩) c_301_21 rfl ?_
      refine rf_ild (i := 3) (Or.inr ⟨3, rfl, rfl, rfl⟩) c_301_22 rfl ?_
      refine rf_ite (fun hc23 => ?_) (fun hc23 => ?_)
      · refine rf_b1t c_301_23 rfl (decide_eq_true hc23) ?_
        exact t_Mo_openNow_49 hS hd ih x0 x2 x1 (.int x1) (.int v17) σ h_x0
      · refine rf_b1f c_301_23 rfl (decide_eq_false hc23) ?_
        refine rf_ald (i := 0) (Or.inr ⟨0, rfl, rfl, rfl⟩) c_301_26 rfl ?_
        refine rf_getr hS c_301_27 rfl fl_12_9 rfl h_x0 ?_
        refine rf_iconst c_301_30 ki_0 ?_
        refine rf_iald hS c_301_31 (tf_12_0 h_x0) (lf_12_0 h_x0) (by decide) ?_
        refine rf_ild (i := 3) (Or.inr ⟨3, rfl, rfl, rfl⟩) c_301_32 rfl ?_
        refine rf_isub c_301_33 ?_
        refine rf_ald (i := 0) (Or.inr ⟨0, rfl, rfl, rfl⟩) c_301_34 rfl ?_
        refine rf_ild (i := 2) (Or.inr ⟨2, rfl, rfl, rfl⟩) c_301_35 rfl ?_
        refine rf_iconst c_301_36 ki_4 ?_
        refine rf_callM (as := [.ref x0, .int x2, .int (4 : Int32)]) (kd := 1) c_301_37 rfl (by decide) rfl ml_12_301 (by decide) rfl (rcv_1 hS rfl rfl h_x0 (by decide)) (by simp [Value.category]) rfl rfl (t_Mo_dueOf hS (by omega) x0 x2 (4 : Int32) σ h_x0) (fun v37 => ?_)
        refine rf_ite (fun hc40 => ?_) (fun hc40 => ?_)
        · refine rf_b2t c_301_40 rfl (decide_eq_true hc40) ?_
          exact t_Mo_openNow_49 hS hd ih x0 x2 x1 (.int x1) (.int v17) v37.2 h_x0
        · refine rf_b2f c_301_40 rfl (decide_eq_false hc40) ?_
          refine rf_iconst c_301_43 ki_1 ?_
          refine rf_ild (i := 2) (Or.inr ⟨2, rfl, rfl, rfl⟩) c_301_44 rfl ?_
          refine rf_ishl c_301_45 ?_
          refine rf_goto c_301_46 rfl ?_
          exact t_Mo_openNow_50 hS hd ih x0 x2 x1 ((1 : Int32) <<< (x2 &&& 31)) (.int x1) (.int v17) v37.2 h_x0
def f_Mo_openNow (x0 : Nat) (σ : Mm) : Option (Int32 × Mm) := f_Mo_openNow_4  NN x0 (0 : Int32) (0 : Int32) σ
set_option maxRecDepth 100000 in
set_option maxHeartbeats 4000000 in
theorem t_Mo_openNow_e {X : Xt} {S : Sh} (hS : ShOK S) {d : Nat} (hd : 7 ≤ d + 1) (x0 : Nat) (σ : Mm) (h_x0 : tgT x0 = 12) : Rf X S emM (f_Mo_openNow x0 σ) (d + 1) 301 0 [.ref x0, unset0, unset0, unset0] [] σ := by
  unfold f_Mo_openNow
  refine rf_iconst c_301_0 ki_0 ?_
  refine rf_ist (i := 1) (Or.inr ⟨1, rfl, rfl, rfl⟩) c_301_1 (Nat.le_of_ble_eq_true rfl) rfl ?_
  refine rf_iconst c_301_2 ki_0 ?_
  refine rf_ist (i := 2) (Or.inr ⟨2, rfl, rfl, rfl⟩) c_301_3 (Nat.le_of_ble_eq_true rfl) rfl ?_
  exact t_Mo_openNow_4 hS hd  NN x0 (0 : Int32) (0 : Int32) (unset0) σ h_x0
theorem t_Mo_openNow {X : Xt} {S : Sh} (hS : ShOK S) {d : Nat} (hd : 7 ≤ d) (x0 : Nat) (σ : Mm) (h_x0 : tgT x0 = 12) : Rf X S emM (f_Mo_openNow x0 σ) d 301 0 [.ref x0, unset0, unset0, unset0] [] σ := by
  obtain ⟨d1, rfl⟩ : ∃ d1, d = d1 + 1 := ⟨d - 1, by omega⟩
  exact t_Mo_openNow_e hS hd x0 σ h_x0
theorem c_302_0 : cd 302 0 = some (.aload_n 0, 1) := by decide +kernel
theorem c_302_1 : cd 302 1 = some (.invokevirtual 371, 3) := by decide +kernel
theorem c_302_4 : cd 302 4 = some (.ireturn, 1) := by decide +kernel
def f_Mo_open (x0 : Nat) (σ : Mm) : Option (Int32 × Mm) := (f_Mo_openNow x0 σ).bind fun v1 => some (v1.1, v1.2)
set_option maxRecDepth 100000 in
set_option maxHeartbeats 4000000 in
theorem t_Mo_open_e {X : Xt} {S : Sh} (hS : ShOK S) {d : Nat} (hd : 8 ≤ d + 1) (x0 : Nat) (σ : Mm) (h_x0 : tgT x0 = 12) : Rf X S emM (f_Mo_open x0 σ) (d + 1) 302 0 [.ref x0] [] σ := by
  unfold f_Mo_open
  refine rf_ald (i := 0) (Or.inr ⟨0, rfl, rfl, rfl⟩) c_302_0 rfl ?_
  refine rf_callM (as := [.ref x0]) (kd := 1) c_302_1 rfl (by decide) rfl ml_12_371 (by decide) rfl (rcv_1 hS rfl rfl h_x0 (by decide)) (Nat.zero_le _) rfl rfl (t_Mo_openNow hS (by omega) x0 σ h_x0) (fun v1 => ?_)
  exact rf_ret c_302_4 rfl rfl rfl rfl
theorem t_Mo_open {X : Xt} {S : Sh} (hS : ShOK S) {d : Nat} (hd : 8 ≤ d) (x0 : Nat) (σ : Mm) (h_x0 : tgT x0 = 12) : Rf X S emM (f_Mo_open x0 σ) d 302 0 [.ref x0] [] σ := by
  obtain ⟨d1, rfl⟩ : ∃ d1, d = d1 + 1 := ⟨d - 1, by omega⟩
  exact t_Mo_open_e hS hd x0 σ h_x0
theorem c_303_0 : cd 303 0 = some (.iload_n 1, 1) := by decide +kernel
theorem c_303_1 : cd 303 1 = some (.iconst (1), 1) := by decide +kernel
theorem c_303_2 : cd 303 2 = some (.ldc_w 375, 3) := by decide +kernel
theorem c_303_5 : cd 303 5 = some (.invokestatic 82, 3) := by decide +kernel
theorem c_303_8 : cd 303 8 = some (.ifCond .ne (6), 3) := by decide +kernel
theorem c_303_11 : cd 303 11 = some (.ldc 91, 2) := by decide +kernel
theorem c_303_13 : cd 303 13 = some (.ireturn, 1) := by decide +kernel
theorem c_303_14 : cd 303 14 = some (.aload_n 0, 1) := by decide +kernel
theorem c_303_15 : cd 303 15 = some (.getfield 9, 3) := by decide +kernel
theorem c_303_18 : cd 303 18 = some (.bipush (8), 2) := by decide +kernel
theorem c_303_20 : cd 303 20 = some (.iaload, 1) := by decide +kernel
theorem c_303_21 : cd 303 21 = some (.bipush (8), 2) := by decide +kernel
theorem c_303_23 : cd 303 23 = some (.if_icmp .ne (6), 3) := by decide +kernel
theorem c_303_26 : cd 303 26 = some (.ldc 86, 2) := by decide +kernel
theorem c_303_28 : cd 303 28 = some (.ireturn, 1) := by decide +kernel
theorem c_303_29 : cd 303 29 = some (.aload_n 0, 1) := by decide +kernel
theorem c_303_30 : cd 303 30 = some (.getfield 9, 3) := by decide +kernel
theorem c_303_33 : cd 303 33 = some (.sipush (5520), 3) := by decide +kernel
theorem c_303_36 : cd 303 36 = some (.aload_n 0, 1) := by decide +kernel
theorem c_303_37 : cd 303 37 = some (.getfield 9, 3) := by decide +kernel
theorem c_303_40 : cd 303 40 = some (.bipush (8), 2) := by decide +kernel
theorem c_303_42 : cd 303 42 = some (.iaload, 1) := by decide +kernel
theorem c_303_43 : cd 303 43 = some (.iadd, 1) := by decide +kernel
theorem c_303_44 : cd 303 44 = some (.iload_n 1, 1) := by decide +kernel
theorem c_303_45 : cd 303 45 = some (.iastore, 1) := by decide +kernel
theorem c_303_46 : cd 303 46 = some (.aload_n 0, 1) := by decide +kernel
theorem c_303_47 : cd 303 47 = some (.getfield 9, 3) := by decide +kernel
theorem c_303_50 : cd 303 50 = some (.bipush (8), 2) := by decide +kernel
theorem c_303_52 : cd 303 52 = some (.dup2, 1) := by decide +kernel
theorem c_303_53 : cd 303 53 = some (.iaload, 1) := by decide +kernel
theorem c_303_54 : cd 303 54 = some (.iconst (1), 1) := by decide +kernel
theorem c_303_55 : cd 303 55 = some (.iadd, 1) := by decide +kernel
theorem c_303_56 : cd 303 56 = some (.iastore, 1) := by decide +kernel
theorem c_303_57 : cd 303 57 = some (.aload_n 0, 1) := by decide +kernel
theorem c_303_58 : cd 303 58 = some (.getfield 9, 3) := by decide +kernel
theorem c_303_61 : cd 303 61 = some (.bipush (8), 2) := by decide +kernel
theorem c_303_63 : cd 303 63 = some (.iaload, 1) := by decide +kernel
theorem c_303_64 : cd 303 64 = some (.iconst (1), 1) := by decide +kernel
theorem c_303_65 : cd 303 65 = some (.isub, 1) := by decide +kernel
theorem c_303_66 : cd 303 66 = some (.ireturn, 1) := by decide +kernel
def f_Mo_group (x0 : Nat) (x1 : Int32) (σ : Mm) : Option (Int32 × Mm) := (f_Mo_in σ x1 (1 : Int32) (16777215 : Int32)).bind fun v5 => (if ¬ v5 = 0 then (if ¬ (σ (rfT x0 0) (ix (8 : Int32))) = (8 : Int32) then (if inbB ((5520 : Int32) + (σ (rfT x0 0) (ix (8 : Int32)))) 5528 = true then nmM (up2 σ (rfT x0 0) (ix ((5520 : Int32) + (σ (rfT x0 0) (ix (8 : Int32))))) x1) fun σ45 => nmM (up2 σ45 (rfT x0 0) (ix (8 : Int32)) ((σ45 (rfT x0 0) (ix (8 : Int32))) + (1 : Int32))) fun σ56 => some (((σ56 (rfT x0 0) (ix (8 : Int32))) - (1 : Int32)), σ56) else none) else (some ((-1000000003 : Int32), σ))) else (some ((-1000000001 : Int32), σ)))
set_option maxRecDepth 100000 in
set_option maxHeartbeats 4000000 in
theorem t_Mo_group_e {X : Xt} {S : Sh} (hS : ShOK S) {d : Nat} (hd : 1 ≤ d + 1) (x0 : Nat) (x1 : Int32) (σ : Mm) (h_x0 : tgT x0 = 12) : Rf X S emM (f_Mo_group x0 x1 σ) (d + 1) 303 0 [.ref x0, .int x1] [] σ := by
  unfold f_Mo_group
  refine rf_ild (i := 1) (Or.inr ⟨1, rfl, rfl, rfl⟩) c_303_0 rfl ?_
  refine rf_iconst c_303_1 ki_1 ?_
  refine rf_ldc (Or.inr ⟨rfl, rfl⟩) c_303_2 rfl kl_12_375 ?_
  refine rf_callI (as := [.int x1, .int (1 : Int32), .int (16777215 : Int32)]) (kd := 0) c_303_5 rfl (by decide) rfl ml_12_82 (by decide) rfl (rcv_0 rfl) (Nat.zero_le _) rfl rfl (t_Mo_in hS (by omega) σ x1 (1 : Int32) (16777215 : Int32)) (fun v5 => ?_)
  refine rf_ite (fun hc8 => ?_) (fun hc8 => ?_)
  · refine rf_b1t c_303_8 rfl (decide_eq_true hc8) ?_
    refine rf_ald (i := 0) (Or.inr ⟨0, rfl, rfl, rfl⟩) c_303_14 rfl ?_
    refine rf_getr hS c_303_15 rfl fl_12_9 rfl h_x0 ?_
    refine rf_bipush c_303_18 kb_8 ?_
    refine rf_iald hS c_303_20 (tf_12_0 h_x0) (lf_12_0 h_x0) (by decide) ?_
    refine rf_bipush c_303_21 kb_8 ?_
    refine rf_ite (fun hc23 => ?_) (fun hc23 => ?_)
    · refine rf_b2t c_303_23 rfl (decide_eq_true hc23) ?_
      refine rf_ald (i := 0) (Or.inr ⟨0, rfl, rfl, rfl⟩) c_303_29 rfl ?_
      refine rf_getr hS c_303_30 rfl fl_12_9 rfl h_x0 ?_
      refine rf_sipush c_303_33 ks_5520 ?_
      refine rf_ald (i := 0) (Or.inr ⟨0, rfl, rfl, rfl⟩) c_303_36 rfl ?_
      refine rf_getr hS c_303_37 rfl fl_12_9 rfl h_x0 ?_
      refine rf_bipush c_303_40 kb_8 ?_
      refine rf_iald hS c_303_42 (tf_12_0 h_x0) (lf_12_0 h_x0) (by decide) ?_
      refine rf_iadd c_303_43 ?_
      refine rf_ild (i := 1) (Or.inr ⟨1, rfl, rfl, rfl⟩) c_303_44 rfl ?_
      refine rf_ite (fun hb45 => ?_) (fun _ => rf_none)
      refine rf_iast hS c_303_45 (tf_12_0 h_x0) (lf_12_0 h_x0) hb45 ?_
      refine rf_nm (fun σ45 => ?_)
      refine rf_ald (i := 0) (Or.inr ⟨0, rfl, rfl, rfl⟩) c_303_46 rfl ?_
      refine rf_getr hS c_303_47 rfl fl_12_9 rfl h_x0 ?_
      refine rf_bipush c_303_50 kb_8 ?_
      refine rf_dup2 c_303_52 rfl rfl ?_
      refine rf_iald hS c_303_53 (tf_12_0 h_x0) (lf_12_0 h_x0) (by decide) ?_
      refine rf_iconst c_303_54 ki_1 ?_
      refine rf_iadd c_303_55 ?_
      refine rf_iast hS c_303_56 (tf_12_0 h_x0) (lf_12_0 h_x0) (by decide) ?_
      refine rf_nm (fun σ56 => ?_)
      refine rf_ald (i := 0) (Or.inr ⟨0, rfl, rfl, rfl⟩) c_303_57 rfl ?_
      refine rf_getr hS c_303_58 rfl fl_12_9 rfl h_x0 ?_
      refine rf_bipush c_303_61 kb_8 ?_
      refine rf_iald hS c_303_63 (tf_12_0 h_x0) (lf_12_0 h_x0) (by decide) ?_
      refine rf_iconst c_303_64 ki_1 ?_
      refine rf_isub c_303_65 ?_
      exact rf_ret c_303_66 rfl rfl rfl rfl
    · refine rf_b2f c_303_23 rfl (decide_eq_false hc23) ?_
      refine rf_ldc (Or.inl ⟨rfl, rfl⟩) c_303_26 rfl kl_12_86 ?_
      exact rf_ret c_303_28 rfl rfl rfl rfl
  · refine rf_b1f c_303_8 rfl (decide_eq_false hc8) ?_
    refine rf_ldc (Or.inl ⟨rfl, rfl⟩) c_303_11 rfl kl_12_91 ?_
    exact rf_ret c_303_13 rfl rfl rfl rfl
theorem t_Mo_group {X : Xt} {S : Sh} (hS : ShOK S) {d : Nat} (hd : 1 ≤ d) (x0 : Nat) (x1 : Int32) (σ : Mm) (h_x0 : tgT x0 = 12) : Rf X S emM (f_Mo_group x0 x1 σ) d 303 0 [.ref x0, .int x1] [] σ := by
  obtain ⟨d1, rfl⟩ : ∃ d1, d = d1 + 1 := ⟨d - 1, by omega⟩
  exact t_Mo_group_e hS hd x0 x1 σ h_x0
theorem c_304_0 : cd 304 0 = some (.aload_n 0, 1) := by decide +kernel
theorem c_304_1 : cd 304 1 = some (.invokevirtual 371, 3) := by decide +kernel
theorem c_304_4 : cd 304 4 = some (.istore_n 1, 1) := by decide +kernel
theorem c_304_5 : cd 304 5 = some (.iconst (1), 1) := by decide +kernel
theorem c_304_6 : cd 304 6 = some (.aload_n 0, 1) := by decide +kernel
theorem c_304_7 : cd 304 7 = some (.getfield 9, 3) := by decide +kernel
theorem c_304_10 : cd 304 10 = some (.iconst (4), 1) := by decide +kernel
theorem c_304_11 : cd 304 11 = some (.iaload, 1) := by decide +kernel
theorem c_304_12 : cd 304 12 = some (.ishl, 1) := by decide +kernel
theorem c_304_13 : cd 304 13 = some (.iconst (1), 1) := by decide +kernel
theorem c_304_14 : cd 304 14 = some (.isub, 1) := by decide +kernel
theorem c_304_15 : cd 304 15 = some (.istore_n 2, 1) := by decide +kernel
theorem c_304_16 : cd 304 16 = some (.iload_n 1, 1) := by decide +kernel
theorem c_304_17 : cd 304 17 = some (.istore_n 3, 1) := by decide +kernel
theorem c_304_18 : cd 304 18 = some (.iconst (1), 1) := by decide +kernel
theorem c_304_19 : cd 304 19 = some (.istore 4, 2) := by decide +kernel
theorem c_304_21 : cd 304 21 = some (.iload 4, 2) := by decide +kernel
theorem c_304_23 : cd 304 23 = some (.ifCond .eq (66), 3) := by decide +kernel
theorem c_304_26 : cd 304 26 = some (.iconst (0), 1) := by decide +kernel
theorem c_304_27 : cd 304 27 = some (.istore 4, 2) := by decide +kernel
theorem c_304_29 : cd 304 29 = some (.iconst (0), 1) := by decide +kernel
theorem c_304_30 : cd 304 30 = some (.istore 5, 2) := by decide +kernel
theorem c_304_32 : cd 304 32 = some (.iload 5, 2) := by decide +kernel
theorem c_304_34 : cd 304 34 = some (.aload_n 0, 1) := by decide +kernel
theorem c_304_35 : cd 304 35 = some (.getfield 9, 3) := by decide +kernel
theorem c_304_38 : cd 304 38 = some (.bipush (8), 2) := by decide +kernel
theorem c_304_40 : cd 304 40 = some (.iaload, 1) := by decide +kernel
theorem c_304_41 : cd 304 41 = some (.if_icmp .ge (45), 3) := by decide +kernel
theorem c_304_44 : cd 304 44 = some (.aload_n 0, 1) := by decide +kernel
theorem c_304_45 : cd 304 45 = some (.getfield 9, 3) := by decide +kernel
theorem c_304_48 : cd 304 48 = some (.sipush (5520), 3) := by decide +kernel
theorem c_304_51 : cd 304 51 = some (.iload 5, 2) := by decide +kernel
theorem c_304_53 : cd 304 53 = some (.iadd, 1) := by decide +kernel
theorem c_304_54 : cd 304 54 = some (.iaload, 1) := by decide +kernel
theorem c_304_55 : cd 304 55 = some (.iload_n 2, 1) := by decide +kernel
theorem c_304_56 : cd 304 56 = some (.iand, 1) := by decide +kernel
theorem c_304_57 : cd 304 57 = some (.iload_n 3, 1) := by decide +kernel
theorem c_304_58 : cd 304 58 = some (.iconst (-1), 1) := by decide +kernel
theorem c_304_59 : cd 304 59 = some (.ixor, 1) := by decide +kernel
theorem c_304_60 : cd 304 60 = some (.iand, 1) := by decide +kernel
theorem c_304_61 : cd 304 61 = some (.istore 6, 2) := by decide +kernel
theorem c_304_63 : cd 304 63 = some (.iload 6, 2) := by decide +kernel
theorem c_304_65 : cd 304 65 = some (.invokestatic 376, 3) := by decide +kernel
theorem c_304_68 : cd 304 68 = some (.iconst (1), 1) := by decide +kernel
theorem c_304_69 : cd 304 69 = some (.if_icmp .ne (11), 3) := by decide +kernel
theorem c_304_72 : cd 304 72 = some (.iload_n 3, 1) := by decide +kernel
theorem c_304_73 : cd 304 73 = some (.iload 6, 2) := by decide +kernel
theorem c_304_75 : cd 304 75 = some (.ior, 1) := by decide +kernel
theorem c_304_76 : cd 304 76 = some (.istore_n 3, 1) := by decide +kernel
theorem c_304_77 : cd 304 77 = some (.iconst (1), 1) := by decide +kernel
theorem c_304_78 : cd 304 78 = some (.istore 4, 2) := by decide +kernel
theorem c_304_80 : cd 304 80 = some (.iinc 5 (1), 3) := by decide +kernel
theorem c_304_83 : cd 304 83 = some (.goto (-51), 3) := by decide +kernel
theorem c_304_86 : cd 304 86 = some (.goto (-65), 3) := by decide +kernel
theorem c_304_89 : cd 304 89 = some (.iload_n 3, 1) := by decide +kernel
theorem c_304_90 : cd 304 90 = some (.iload_n 1, 1) := by decide +kernel
theorem c_304_91 : cd 304 91 = some (.iconst (-1), 1) := by decide +kernel
theorem c_304_92 : cd 304 92 = some (.ixor, 1) := by decide +kernel
theorem c_304_93 : cd 304 93 = some (.iand, 1) := by decide +kernel
theorem c_304_94 : cd 304 94 = some (.ireturn, 1) := by decide +kernel
def f_Mo_reckoned_80 (k21 : Nat → Int32 → Int32 → Int32 → Int32 → Mm → Option (Int32 × Mm)) (k32 : Nat → Int32 → Int32 → Int32 → Int32 → Int32 → Mm → Option (Int32 × Mm)) (x0 : Nat) (x1 : Int32) (x2 : Int32) (x3 : Int32) (x4 : Int32) (x5 : Int32) (σ : Mm) : Option (Int32 × Mm) := k32 x0 x1 x2 x3 x4 (x5 + (1 : Int32)) σ
set_option maxRecDepth 100000 in
set_option maxHeartbeats 4000000 in
theorem t_Mo_reckoned_80 {X : Xt} {S : Sh} (hS : ShOK S) {d : Nat} (hd : 8 ≤ d + 1) {k21 : Nat → Int32 → Int32 → Int32 → Int32 → Mm → Option (Int32 × Mm)} (hk21 : ∀ (x0 : Nat) (x1 : Int32) (x2 : Int32) (x3 : Int32) (x4 : Int32) (u5 : Value) (u6 : Value) (σ : Mm) (h_x0 : tgT x0 = 12), Rf X S emM (k21 x0 x1 x2 x3 x4 σ) (d + 1) 304 21 [.ref x0, .int x1, .int x2, .int x3, .int x4, u5, u6] [] σ) {k32 : Nat → Int32 → Int32 → Int32 → Int32 → Int32 → Mm → Option (Int32 × Mm)} (hk32 : ∀ (x0 : Nat) (x1 : Int32) (x2 : Int32) (x3 : Int32) (x4 : Int32) (x5 : Int32) (u6 : Value) (σ : Mm) (h_x0 : tgT x0 = 12), Rf X S emM (k32 x0 x1 x2 x3 x4 x5 σ) (d + 1) 304 32 [.ref x0, .int x1, .int x2, .int x3, .int x4, .int x5, u6] [] σ) (x0 : Nat) (x1 : Int32) (x2 : Int32) (x3 : Int32) (x4 : Int32) (x5 : Int32) (u6 : Value) (σ : Mm) (h_x0 : tgT x0 = 12) : Rf X S emM (f_Mo_reckoned_80 k21 k32 x0 x1 x2 x3 x4 x5 σ) (d + 1) 304 80 [.ref x0, .int x1, .int x2, .int x3, .int x4, .int x5, u6] [] σ := by
  unfold f_Mo_reckoned_80
  refine rf_iinc c_304_80 rfl ki_1 rfl ?_
  refine rf_goto c_304_83 rfl ?_
  exact hk32 x0 x1 x2 x3 x4 (x5 + (1 : Int32)) (u6) σ h_x0
def f_Mo_reckoned_32 (k21 : Nat → Int32 → Int32 → Int32 → Int32 → Mm → Option (Int32 × Mm)) : Nat → Nat → Int32 → Int32 → Int32 → Int32 → Int32 → Mm → Option (Int32 × Mm)
  | 0, _, _, _, _, _, _, _ => none
  | n + 1, x0, x1, x2, x3, x4, x5, σ => (if (σ (rfT x0 0) (ix (8 : Int32))) ≤ x5 then (k21 x0 x1 x2 x3 x4 σ) else (if inbB ((5520 : Int32) + x5) 5528 = true then (f_Mo_bits σ (((σ (rfT x0 0) (ix ((5520 : Int32) + x5))) &&& x2) &&& (x3 ^^^ (-1 : Int32)))).bind fun v65 => (if ¬ v65 = (1 : Int32) then (f_Mo_reckoned_80 k21 (f_Mo_reckoned_32 k21 n) x0 x1 x2 x3 x4 x5 σ) else (f_Mo_reckoned_80 k21 (f_Mo_reckoned_32 k21 n) x0 x1 x2 (x3 ||| (((σ (rfT x0 0) (ix ((5520 : Int32) + x5))) &&& x2) &&& (x3 ^^^ (-1 : Int32)))) (1 : Int32) x5 σ)) else none))
set_option maxRecDepth 100000 in
set_option maxHeartbeats 4000000 in
theorem t_Mo_reckoned_32 {X : Xt} {S : Sh} (hS : ShOK S) {d : Nat} (hd : 8 ≤ d + 1) {k21 : Nat → Int32 → Int32 → Int32 → Int32 → Mm → Option (Int32 × Mm)} (hk21 : ∀ (x0 : Nat) (x1 : Int32) (x2 : Int32) (x3 : Int32) (x4 : Int32) (u5 : Value) (u6 : Value) (σ : Mm) (h_x0 : tgT x0 = 12), Rf X S emM (k21 x0 x1 x2 x3 x4 σ) (d + 1) 304 21 [.ref x0, .int x1, .int x2, .int x3, .int x4, u5, u6] [] σ) : ∀ (n : Nat) (x0 : Nat) (x1 : Int32) (x2 : Int32) (x3 : Int32) (x4 : Int32) (x5 : Int32) (u6 : Value) (σ : Mm) (h_x0 : tgT x0 = 12), Rf X S emM (f_Mo_reckoned_32 k21 n x0 x1 x2 x3 x4 x5 σ) (d + 1) 304 32 [.ref x0, .int x1, .int x2, .int x3, .int x4, .int x5, u6] [] σ := by
  intro n
  induction n with
  | zero => intro x0 x1 x2 x3 x4 x5 u6 σ h_x0; exact rf_none
  | succ n ih =>
    intro x0 x1 x2 x3 x4 x5 u6 σ h_x0
    rw [f_Mo_reckoned_32]
    refine rf_ild (i := 5) (Or.inl ⟨rfl, rfl⟩) c_304_32 rfl ?_
    refine rf_ald (i := 0) (Or.inr ⟨0, rfl, rfl, rfl⟩) c_304_34 rfl ?_
    refine rf_getr hS c_304_35 rfl fl_12_9 rfl h_x0 ?_
    refine rf_bipush c_304_38 kb_8 ?_
    refine rf_iald hS c_304_40 (tf_12_0 h_x0) (lf_12_0 h_x0) (by decide) ?_
    refine rf_ite (fun hc41 => ?_) (fun hc41 => ?_)
    · refine rf_b2t c_304_41 rfl (decide_eq_true hc41) ?_
      refine rf_goto c_304_86 rfl ?_
      exact hk21 x0 x1 x2 x3 x4 (.int x5) (u6) σ h_x0
    · refine rf_b2f c_304_41 rfl (decide_eq_false hc41) ?_
      refine rf_ald (i := 0) (Or.inr ⟨0, rfl, rfl, rfl⟩) c_304_44 rfl ?_
      refine rf_getr hS c_304_45 rfl fl_12_9 rfl h_x0 ?_
      refine rf_sipush c_304_48 ks_5520 ?_
      refine rf_ild (i := 5) (Or.inl ⟨rfl, rfl⟩) c_304_51 rfl ?_
      refine rf_iadd c_304_53 ?_
      refine rf_ite (fun hb54 => ?_) (fun _ => rf_none)
      refine rf_iald hS c_304_54 (tf_12_0 h_x0) (lf_12_0 h_x0) hb54 ?_
      refine rf_ild (i := 2) (Or.inr ⟨2, rfl, rfl, rfl⟩) c_304_55 rfl ?_
      refine rf_iand c_304_56 ?_
      refine rf_ild (i := 3) (Or.inr ⟨3, rfl, rfl, rfl⟩) c_304_57 rfl ?_
      refine rf_iconst c_304_58 ki_m1 ?_
      refine rf_ixor c_304_59 ?_
      refine rf_iand c_304_60 ?_
      refine rf_ist (i := 6) (Or.inl ⟨rfl, rfl⟩) c_304_61 (Nat.le_of_ble_eq_true rfl) rfl ?_
      refine rf_ild (i := 6) (Or.inl ⟨rfl, rfl⟩) c_304_63 rfl ?_
      refine rf_callI (as := [.int (((σ (rfT x0 0) (ix ((5520 : Int32) + x5))) &&& x2) &&& (x3 ^^^ (-1 : Int32)))]) (kd := 0) c_304_65 rfl (by decide) rfl ml_12_376 (by decide) rfl (rcv_0 rfl) (Nat.zero_le _) rfl rfl (t_Mo_bits hS (by omega) σ (((σ (rfT x0 0) (ix ((5520 : Int32) + x5))) &&& x2) &&& (x3 ^^^ (-1 : Int32)))) (fun v65 => ?_)
      refine rf_iconst c_304_68 ki_1 ?_
      refine rf_ite (fun hc69 => ?_) (fun hc69 => ?_)
      · refine rf_b2t c_304_69 rfl (decide_eq_true hc69) ?_
        exact t_Mo_reckoned_80 hS hd hk21 ih x0 x1 x2 x3 x4 x5 (.int (((σ (rfT x0 0) (ix ((5520 : Int32) + x5))) &&& x2) &&& (x3 ^^^ (-1 : Int32)))) σ h_x0
      · refine rf_b2f c_304_69 rfl (decide_eq_false hc69) ?_
        refine rf_ild (i := 3) (Or.inr ⟨3, rfl, rfl, rfl⟩) c_304_72 rfl ?_
        refine rf_ild (i := 6) (Or.inl ⟨rfl, rfl⟩) c_304_73 rfl ?_
        refine rf_ior c_304_75 ?_
        refine rf_ist (i := 3) (Or.inr ⟨3, rfl, rfl, rfl⟩) c_304_76 (Nat.le_of_ble_eq_true rfl) rfl ?_
        refine rf_iconst c_304_77 ki_1 ?_
        refine rf_ist (i := 4) (Or.inl ⟨rfl, rfl⟩) c_304_78 (Nat.le_of_ble_eq_true rfl) rfl ?_
        exact t_Mo_reckoned_80 hS hd hk21 ih x0 x1 x2 (x3 ||| (((σ (rfT x0 0) (ix ((5520 : Int32) + x5))) &&& x2) &&& (x3 ^^^ (-1 : Int32)))) (1 : Int32) x5 (.int (((σ (rfT x0 0) (ix ((5520 : Int32) + x5))) &&& x2) &&& (x3 ^^^ (-1 : Int32)))) σ h_x0
def f_Mo_reckoned_21 : Nat → Nat → Int32 → Int32 → Int32 → Int32 → Mm → Option (Int32 × Mm)
  | 0, _, _, _, _, _, _ => none
  | n + 1, x0, x1, x2, x3, x4, σ => (if x4 = 0 then (some ((x3 &&& (x1 ^^^ (-1 : Int32))), σ)) else (f_Mo_reckoned_32 (f_Mo_reckoned_21  n) NN x0 x1 x2 x3 (0 : Int32) (0 : Int32) σ))
set_option maxRecDepth 100000 in
set_option maxHeartbeats 4000000 in
theorem t_Mo_reckoned_21 {X : Xt} {S : Sh} (hS : ShOK S) {d : Nat} (hd : 8 ≤ d + 1) : ∀ (n : Nat) (x0 : Nat) (x1 : Int32) (x2 : Int32) (x3 : Int32) (x4 : Int32) (u5 : Value) (u6 : Value) (σ : Mm) (h_x0 : tgT x0 = 12), Rf X S emM (f_Mo_reckoned_21 n x0 x1 x2 x3 x4 σ) (d + 1) 304 21 [.ref x0, .int x1, .int x2, .int x3, .int x4, u5, u6] [] σ := by
  intro n
  induction n with
  | zero => intro x0 x1 x2 x3 x4 u5 u6 σ h_x0; exact rf_none
  | succ n ih =>
    intro x0 x1 x2 x3 x4 u5 u6 σ h_x0
    rw [f_Mo_reckoned_21]
    refine rf_ild (i := 4) (Or.inl ⟨rfl, rfl⟩) c_304_21 rfl ?_
    refine rf_ite (fun hc23 => ?_) (fun hc23 => ?_)
    · refine rf_b1t c_304_23 rfl (decide_eq_true hc23) ?_
      refine rf_ild (i := 3) (Or.inr ⟨3, rfl, rfl, rfl⟩) c_304_89 rfl ?_
      refine rf_ild (i := 1) (Or.inr ⟨1, rfl, rfl, rfl⟩) c_304_90 rfl ?_
      refine rf_iconst c_304_91 ki_m1 ?_
      refine rf_ixor c_304_92 ?_
      refine rf_iand c_304_93 ?_
      exact rf_ret c_304_94 rfl rfl rfl rfl
    · refine rf_b1f c_304_23 rfl (decide_eq_false hc23) ?_
      refine rf_iconst c_304_26 ki_0 ?_
      refine rf_ist (i := 4) (Or.inl ⟨rfl, rfl⟩) c_304_27 (Nat.le_of_ble_eq_true rfl) rfl ?_
      refine rf_iconst c_304_29 ki_0 ?_
      refine rf_ist (i := 5) (Or.inl ⟨rfl, rfl⟩) c_304_30 (Nat.le_of_ble_eq_true rfl) rfl ?_
      exact t_Mo_reckoned_32 hS hd ih NN x0 x1 x2 x3 (0 : Int32) (0 : Int32) (u6) σ h_x0
def f_Mo_reckoned (x0 : Nat) (σ : Mm) : Option (Int32 × Mm) := (f_Mo_openNow x0 σ).bind fun v1 => f_Mo_reckoned_21  NN x0 v1.1 (((1 : Int32) <<< ((v1.2 (rfT x0 0) (ix (4 : Int32))) &&& 31)) - (1 : Int32)) v1.1 (1 : Int32) v1.2
set_option maxRecDepth 100000 in
set_option maxHeartbeats 4000000 in
theorem t_Mo_reckoned_e {X : Xt} {S : Sh} (hS : ShOK S) {d : Nat} (hd : 8 ≤ d + 1) (x0 : Nat) (σ : Mm) (h_x0 : tgT x0 = 12) : Rf X S emM (f_Mo_reckoned x0 σ) (d + 1) 304 0 [.ref x0, unset0, unset0, unset0, unset0, unset0, unset0] [] σ := by
  unfold f_Mo_reckoned
  refine rf_ald (i := 0) (Or.inr ⟨0, rfl, rfl, rfl⟩) c_304_0 rfl ?_
  refine rf_callM (as := [.ref x0]) (kd := 1) c_304_1 rfl (by decide) rfl ml_12_371 (by decide) rfl (rcv_1 hS rfl rfl h_x0 (by decide)) (Nat.zero_le _) rfl rfl (t_Mo_openNow hS (by omega) x0 σ h_x0) (fun v1 => ?_)
  refine rf_ist (i := 1) (Or.inr ⟨1, rfl, rfl, rfl⟩) c_304_4 (Nat.le_of_ble_eq_true rfl) rfl ?_
  refine rf_iconst c_304_5 ki_1 ?_
  refine rf_ald (i := 0) (Or.inr ⟨0, rfl, rfl, rfl⟩) c_304_6 rfl ?_
  refine rf_getr hS c_304_7 rfl fl_12_9 rfl h_x0 ?_
  refine rf_iconst c_304_10 ki_4 ?_
  refine rf_iald hS c_304_11 (tf_12_0 h_x0) (lf_12_0 h_x0) (by decide) ?_
  refine rf_ishl c_304_12 ?_
  refine rf_iconst c_304_13 ki_1 ?_
  refine rf_isub c_304_14 ?_
  refine rf_ist (i := 2) (Or.inr ⟨2, rfl, rfl, rfl⟩) c_304_15 (Nat.le_of_ble_eq_true rfl) rfl ?_
  refine rf_ild (i := 1) (Or.inr ⟨1, rfl, rfl, rfl⟩) c_304_16 rfl ?_
  refine rf_ist (i := 3) (Or.inr ⟨3, rfl, rfl, rfl⟩) c_304_17 (Nat.le_of_ble_eq_true rfl) rfl ?_
  refine rf_iconst c_304_18 ki_1 ?_
  refine rf_ist (i := 4) (Or.inl ⟨rfl, rfl⟩) c_304_19 (Nat.le_of_ble_eq_true rfl) rfl ?_
  exact t_Mo_reckoned_21 hS hd  NN x0 v1.1 (((1 : Int32) <<< ((v1.2 (rfT x0 0) (ix (4 : Int32))) &&& 31)) - (1 : Int32)) v1.1 (1 : Int32) (unset0) (unset0) v1.2 h_x0
theorem t_Mo_reckoned {X : Xt} {S : Sh} (hS : ShOK S) {d : Nat} (hd : 8 ≤ d) (x0 : Nat) (σ : Mm) (h_x0 : tgT x0 = 12) : Rf X S emM (f_Mo_reckoned x0 σ) d 304 0 [.ref x0, unset0, unset0, unset0, unset0, unset0, unset0] [] σ := by
  obtain ⟨d1, rfl⟩ : ∃ d1, d = d1 + 1 := ⟨d - 1, by omega⟩
  exact t_Mo_reckoned_e hS hd x0 σ h_x0
theorem c_305_0 : cd 305 0 = some (.iload_n 0, 1) := by decide +kernel
theorem c_305_1 : cd 305 1 = some (.iconst (0), 1) := by decide +kernel
theorem c_305_2 : cd 305 2 = some (.iconst (3), 1) := by decide +kernel
theorem c_305_3 : cd 305 3 = some (.invokestatic 82, 3) := by decide +kernel
theorem c_305_6 : cd 305 6 = some (.ireturn, 1) := by decide +kernel
def f_Mo_isRegister (σ : Mm) (x0 : Int32) : Option Int32 := (f_Mo_in σ x0 (0 : Int32) (3 : Int32)).bind fun v3 => if zB v3 = true then some v3 else none
set_option maxRecDepth 100000 in
set_option maxHeartbeats 4000000 in
theorem t_Mo_isRegister_e {X : Xt} {S : Sh} (hS : ShOK S) {d : Nat} (hd : 1 ≤ d + 1) (σ : Mm) (x0 : Int32) : Rf X S (emI σ) (f_Mo_isRegister σ x0) (d + 1) 305 0 [.int x0] [] σ := by
  unfold f_Mo_isRegister
  refine rf_ild (i := 0) (Or.inr ⟨0, rfl, rfl, rfl⟩) c_305_0 rfl ?_
  refine rf_iconst c_305_1 ki_0 ?_
  refine rf_iconst c_305_2 ki_3 ?_
  refine rf_callI (as := [.int x0, .int (0 : Int32), .int (3 : Int32)]) (kd := 0) c_305_3 rfl (by decide) rfl ml_12_82 (by decide) rfl (rcv_0 rfl) (Nat.zero_le _) rfl rfl (t_Mo_in hS (by omega) σ x0 (0 : Int32) (3 : Int32)) (fun v3 => ?_)
  refine rf_ite (fun hq6 => ?_) (fun _ => rf_none)
  exact rf_ret c_305_6 rfl (zB_n hq6) rfl rfl
theorem t_Mo_isRegister {X : Xt} {S : Sh} (hS : ShOK S) {d : Nat} (hd : 1 ≤ d) (σ : Mm) (x0 : Int32) : Rf X S (emI σ) (f_Mo_isRegister σ x0) d 305 0 [.int x0] [] σ := by
  obtain ⟨d1, rfl⟩ : ∃ d1, d = d1 + 1 := ⟨d - 1, by omega⟩
  exact t_Mo_isRegister_e hS hd σ x0
theorem c_306_0 : cd 306 0 = some (.iload_n 1, 1) := by decide +kernel
theorem c_306_1 : cd 306 1 = some (.invokestatic 379, 3) := by decide +kernel
theorem c_306_4 : cd 306 4 = some (.ifCond .eq (22), 3) := by decide +kernel
theorem c_306_7 : cd 306 7 = some (.iload_n 2, 1) := by decide +kernel
theorem c_306_8 : cd 306 8 = some (.iconst (-1), 1) := by decide +kernel
theorem c_306_9 : cd 306 9 = some (.iconst (1), 1) := by decide +kernel
theorem c_306_10 : cd 306 10 = some (.invokestatic 82, 3) := by decide +kernel
theorem c_306_13 : cd 306 13 = some (.ifCond .eq (13), 3) := by decide +kernel
theorem c_306_16 : cd 306 16 = some (.iload_n 2, 1) := by decide +kernel
theorem c_306_17 : cd 306 17 = some (.ifCond .lt (12), 3) := by decide +kernel
theorem c_306_20 : cd 306 20 = some (.iload_n 3, 1) := by decide +kernel
theorem c_306_21 : cd 306 21 = some (.bipush (24), 2) := by decide +kernel
theorem c_306_23 : cd 306 23 = some (.if_icmp .le (6), 3) := by decide +kernel
theorem c_306_26 : cd 306 26 = some (.ldc 91, 2) := by decide +kernel
theorem c_306_28 : cd 306 28 = some (.ireturn, 1) := by decide +kernel
theorem c_306_29 : cd 306 29 = some (.iload_n 2, 1) := by decide +kernel
theorem c_306_30 : cd 306 30 = some (.ifCond .lt (11), 3) := by decide +kernel
theorem c_306_33 : cd 306 33 = some (.iload_n 3, 1) := by decide +kernel
theorem c_306_34 : cd 306 34 = some (.ifCond .ge (7), 3) := by decide +kernel
theorem c_306_37 : cd 306 37 = some (.ldc_w 382, 3) := by decide +kernel
theorem c_306_40 : cd 306 40 = some (.ireturn, 1) := by decide +kernel
theorem c_306_41 : cd 306 41 = some (.aload_n 0, 1) := by decide +kernel
theorem c_306_42 : cd 306 42 = some (.getfield 51, 3) := by decide +kernel
theorem c_306_45 : cd 306 45 = some (.iload_n 1, 1) := by decide +kernel
theorem c_306_46 : cd 306 46 = some (.iload_n 2, 1) := by decide +kernel
theorem c_306_47 : cd 306 47 = some (.iastore, 1) := by decide +kernel
theorem c_306_48 : cd 306 48 = some (.aload_n 0, 1) := by decide +kernel
theorem c_306_49 : cd 306 49 = some (.getfield 54, 3) := by decide +kernel
theorem c_306_52 : cd 306 52 = some (.iload_n 1, 1) := by decide +kernel
theorem c_306_53 : cd 306 53 = some (.iload_n 2, 1) := by decide +kernel
theorem c_306_54 : cd 306 54 = some (.ifCond .ge (7), 3) := by decide +kernel
theorem c_306_57 : cd 306 57 = some (.iconst (0), 1) := by decide +kernel
theorem c_306_58 : cd 306 58 = some (.goto (4), 3) := by decide +kernel
theorem c_306_61 : cd 306 61 = some (.iload_n 3, 1) := by decide +kernel
theorem c_306_62 : cd 306 62 = some (.iastore, 1) := by decide +kernel
theorem c_306_63 : cd 306 63 = some (.iconst (0), 1) := by decide +kernel
theorem c_306_64 : cd 306 64 = some (.istore 4, 2) := by decide +kernel
theorem c_306_66 : cd 306 66 = some (.iload 4, 2) := by decide +kernel
theorem c_306_68 : cd 306 68 = some (.bipush (24), 2) := by decide +kernel
theorem c_306_70 : cd 306 70 = some (.if_icmp .ge (22), 3) := by decide +kernel
theorem c_306_73 : cd 306 73 = some (.aload_n 0, 1) := by decide +kernel
theorem c_306_74 : cd 306 74 = some (.getfield 57, 3) := by decide +kernel
theorem c_306_77 : cd 306 77 = some (.bipush (24), 2) := by decide +kernel
theorem c_306_79 : cd 306 79 = some (.iload_n 1, 1) := by decide +kernel
theorem c_306_80 : cd 306 80 = some (.imul, 1) := by decide +kernel
theorem c_306_81 : cd 306 81 = some (.iload 4, 2) := by decide +kernel
theorem c_306_83 : cd 306 83 = some (.iadd, 1) := by decide +kernel
theorem c_306_84 : cd 306 84 = some (.iconst (0), 1) := by decide +kernel
theorem c_306_85 : cd 306 85 = some (.iastore, 1) := by decide +kernel
theorem c_306_86 : cd 306 86 = some (.iinc 4 (1), 3) := by decide +kernel
theorem c_306_89 : cd 306 89 = some (.goto (-23), 3) := by decide +kernel
theorem c_306_92 : cd 306 92 = some (.aload_n 0, 1) := by decide +kernel
theorem c_306_93 : cd 306 93 = some (.getfield 54, 3) := by decide +kernel
theorem c_306_96 : cd 306 96 = some (.iload_n 1, 1) := by decide +kernel
theorem c_306_97 : cd 306 97 = some (.iaload, 1) := by decide +kernel
theorem c_306_98 : cd 306 98 = some (.ireturn, 1) := by decide +kernel
def f_Mo_register_26 (σ : Mm) : Option (Int32 × Mm) := some ((-1000000001 : Int32), σ)
set_option maxRecDepth 100000 in
set_option maxHeartbeats 4000000 in
theorem t_Mo_register_26 {X : Xt} {S : Sh} (hS : ShOK S) {d : Nat} (hd : 2 ≤ d + 1) (u0 : Value) (u1 : Value) (u2 : Value) (u3 : Value) (u4 : Value) (σ : Mm) : Rf X S emM (f_Mo_register_26 σ) (d + 1) 306 26 [u0, u1, u2, u3, u4] [] σ := by
  unfold f_Mo_register_26
  refine rf_ldc (Or.inl ⟨rfl, rfl⟩) c_306_26 rfl kl_12_91 ?_
  exact rf_ret c_306_28 rfl rfl rfl rfl
def f_Mo_register_66 : Nat → Nat → Int32 → Int32 → Mm → Option (Int32 × Mm)
  | 0, _, _, _, _ => none
  | n + 1, x0, x1, x4, σ => (if (24 : Int32) ≤ x4 then (if inbB x1 10 = true then some ((σ (rfT x0 37) (ix x1)), σ) else none) else (if inbB (((24 : Int32) * x1) + x4) 240 = true then nmM (up2 σ (rfT x0 38) (ix (((24 : Int32) * x1) + x4)) (0 : Int32)) fun σ85 => f_Mo_register_66  n x0 x1 (x4 + (1 : Int32)) σ85 else none))
set_option maxRecDepth 100000 in
set_option maxHeartbeats 4000000 in
theorem t_Mo_register_66 {X : Xt} {S : Sh} (hS : ShOK S) {d : Nat} (hd : 2 ≤ d + 1) : ∀ (n : Nat) (x0 : Nat) (x1 : Int32) (x4 : Int32) (u2 : Value) (u3 : Value) (σ : Mm) (h_x0 : tgT x0 = 12), Rf X S emM (f_Mo_register_66 n x0 x1 x4 σ) (d + 1) 306 66 [.ref x0, .int x1, u2, u3, .int x4] [] σ := by
  intro n
  induction n with
  | zero => intro x0 x1 x4 u2 u3 σ h_x0; exact rf_none
  | succ n ih =>
    intro x0 x1 x4 u2 u3 σ h_x0
    rw [f_Mo_register_66]
    refine rf_ild (i := 4) (Or.inl ⟨rfl, rfl⟩) c_306_66 rfl ?_
    refine rf_bipush c_306_68 kb_24 ?_
    refine rf_ite (fun hc70 => ?_) (fun hc70 => ?_)
    · refine rf_b2t c_306_70 rfl (decide_eq_true hc70) ?_
      refine rf_ald (i := 0) (Or.inr ⟨0, rfl, rfl, rfl⟩) c_306_92 rfl ?_
      refine rf_getr hS c_306_93 rfl fl_12_54 rfl h_x0 ?_
      refine rf_ild (i := 1) (Or.inr ⟨1, rfl, rfl, rfl⟩) c_306_96 rfl ?_
      refine rf_ite (fun hb97 => ?_) (fun _ => rf_none)
      refine rf_iald hS c_306_97 (tf_12_37 h_x0) (lf_12_37 h_x0) hb97 ?_
      exact rf_ret c_306_98 rfl rfl rfl rfl
    · refine rf_b2f c_306_70 rfl (decide_eq_false hc70) ?_
      refine rf_ald (i := 0) (Or.inr ⟨0, rfl, rfl, rfl⟩) c_306_73 rfl ?_
      refine rf_getr hS c_306_74 rfl fl_12_57 rfl h_x0 ?_
      refine rf_bipush c_306_77 kb_24 ?_
      refine rf_ild (i := 1) (Or.inr ⟨1, rfl, rfl, rfl⟩) c_306_79 rfl ?_
      refine rf_imul c_306_80 ?_
      refine rf_ild (i := 4) (Or.inl ⟨rfl, rfl⟩) c_306_81 rfl ?_
      refine rf_iadd c_306_83 ?_
      refine rf_iconst c_306_84 ki_0 ?_
      refine rf_ite (fun hb85 => ?_) (fun _ => rf_none)
      refine rf_iast hS c_306_85 (tf_12_38 h_x0) (lf_12_38 h_x0) hb85 ?_
      refine rf_nm (fun σ85 => ?_)
      refine rf_iinc c_306_86 rfl ki_1 rfl ?_
      refine rf_goto c_306_89 rfl ?_
      exact ih x0 x1 (x4 + (1 : Int32)) (u2) (u3) σ85 h_x0
def f_Mo_register_62 (x0 : Nat) (x1 : Int32) (y0 : Nat) (y1 : Int32) (y2 : Int32) (σ : Mm) : Option (Int32 × Mm) := if inbB y1 10 = true then nmM (up2 σ y0 (ix y1) y2) fun σ62 => f_Mo_register_66  NN x0 x1 (0 : Int32) σ62 else none
set_option maxRecDepth 100000 in
set_option maxHeartbeats 4000000 in
theorem t_Mo_register_62 {X : Xt} {S : Sh} (hS : ShOK S) {d : Nat} (hd : 2 ≤ d + 1) (x0 : Nat) (x1 : Int32) (y0 : Nat) (y1 : Int32) (y2 : Int32) (u2 : Value) (u3 : Value) (u4 : Value) (σ : Mm) (h_x0 : tgT x0 = 12) (h_y0 : tgT y0 = 20) (l_y0 : lnT y0 = 10) : Rf X S emM (f_Mo_register_62 x0 x1 y0 y1 y2 σ) (d + 1) 306 62 [.ref x0, .int x1, u2, u3, u4] [.int y2, .int y1, .ref y0] σ := by
  unfold f_Mo_register_62
  refine rf_ite (fun hb62 => ?_) (fun _ => rf_none)
  refine rf_iast hS c_306_62 h_y0 l_y0 hb62 ?_
  refine rf_nm (fun σ62 => ?_)
  refine rf_iconst c_306_63 ki_0 ?_
  refine rf_ist (i := 4) (Or.inl ⟨rfl, rfl⟩) c_306_64 (Nat.le_of_ble_eq_true rfl) rfl ?_
  exact t_Mo_register_66 hS hd  NN x0 x1 (0 : Int32) (u2) (u3) σ62 h_x0
def f_Mo_register_41 (x0 : Nat) (x1 : Int32) (x2 : Int32) (x3 : Int32) (σ : Mm) : Option (Int32 × Mm) := if inbB x1 10 = true then nmM (up2 σ (rfT x0 36) (ix x1) x2) fun σ47 => (if 0 ≤ x2 then (f_Mo_register_62  x0 x1 (rfT x0 37) x1 x3 σ47) else (f_Mo_register_62  x0 x1 (rfT x0 37) x1 (0 : Int32) σ47)) else none
set_option maxRecDepth 100000 in
set_option maxHeartbeats 4000000 in
theorem t_Mo_register_41 {X : Xt} {S : Sh} (hS : ShOK S) {d : Nat} (hd : 2 ≤ d + 1) (x0 : Nat) (x1 : Int32) (x2 : Int32) (x3 : Int32) (u4 : Value) (σ : Mm) (h_x0 : tgT x0 = 12) : Rf X S emM (f_Mo_register_41 x0 x1 x2 x3 σ) (d + 1) 306 41 [.ref x0, .int x1, .int x2, .int x3, u4] [] σ := by
  unfold f_Mo_register_41
  refine rf_ald (i := 0) (Or.inr ⟨0, rfl, rfl, rfl⟩) c_306_41 rfl ?_
  refine rf_getr hS c_306_42 rfl fl_12_51 rfl h_x0 ?_
  refine rf_ild (i := 1) (Or.inr ⟨1, rfl, rfl, rfl⟩) c_306_45 rfl ?_
  refine rf_ild (i := 2) (Or.inr ⟨2, rfl, rfl, rfl⟩) c_306_46 rfl ?_
  refine rf_ite (fun hb47 => ?_) (fun _ => rf_none)
  refine rf_iast hS c_306_47 (tf_12_36 h_x0) (lf_12_36 h_x0) hb47 ?_
  refine rf_nm (fun σ47 => ?_)
  refine rf_ald (i := 0) (Or.inr ⟨0, rfl, rfl, rfl⟩) c_306_48 rfl ?_
  refine rf_getr hS c_306_49 rfl fl_12_54 rfl h_x0 ?_
  refine rf_ild (i := 1) (Or.inr ⟨1, rfl, rfl, rfl⟩) c_306_52 rfl ?_
  refine rf_ild (i := 2) (Or.inr ⟨2, rfl, rfl, rfl⟩) c_306_53 rfl ?_
  refine rf_ite (fun hc54 => ?_) (fun hc54 => ?_)
  · refine rf_b1t c_306_54 rfl (decide_eq_true hc54) ?_
    refine rf_ild (i := 3) (Or.inr ⟨3, rfl, rfl, rfl⟩) c_306_61 rfl ?_
    exact t_Mo_register_62 hS hd  x0 x1 (rfT x0 37) x1 x3 (.int x2) (.int x3) (u4) σ47 h_x0 (tf_12_37 h_x0) (lf_12_37 h_x0)
  · refine rf_b1f c_306_54 rfl (decide_eq_false hc54) ?_
    refine rf_iconst c_306_57 ki_0 ?_
    refine rf_goto c_306_58 rfl ?_
    exact t_Mo_register_62 hS hd  x0 x1 (rfT x0 37) x1 (0 : Int32) (.int x2) (.int x3) (u4) σ47 h_x0 (tf_12_37 h_x0) (lf_12_37 h_x0)
def f_Mo_register_29 (x0 : Nat) (x1 : Int32) (x2 : Int32) (x3 : Int32) (σ : Mm) : Option (Int32 × Mm) := (if x2 < 0 then (f_Mo_register_41  x0 x1 x2 x3 σ) else (if 0 ≤ x3 then (f_Mo_register_41  x0 x1 x2 x3 σ) else (some ((-1000000014 : Int32), σ))))
set_option maxRecDepth 100000 in
set_option maxHeartbeats 4000000 in
theorem t_Mo_register_29 {X : Xt} {S : Sh} (hS : ShOK S) {d : Nat} (hd : 2 ≤ d + 1) (x0 : Nat) (x1 : Int32) (x2 : Int32) (x3 : Int32) (u4 : Value) (σ : Mm) (h_x0 : tgT x0 = 12) : Rf X S emM (f_Mo_register_29 x0 x1 x2 x3 σ) (d + 1) 306 29 [.ref x0, .int x1, .int x2, .int x3, u4] [] σ := by
  unfold f_Mo_register_29
  refine rf_ild (i := 2) (Or.inr ⟨2, rfl, rfl, rfl⟩) c_306_29 rfl ?_
  refine rf_ite (fun hc30 => ?_) (fun hc30 => ?_)
  · refine rf_b1t c_306_30 rfl (decide_eq_true hc30) ?_
    exact t_Mo_register_41 hS hd  x0 x1 x2 x3 (u4) σ h_x0
  · refine rf_b1f c_306_30 rfl (decide_eq_false hc30) ?_
    refine rf_ild (i := 3) (Or.inr ⟨3, rfl, rfl, rfl⟩) c_306_33 rfl ?_
    refine rf_ite (fun hc34 => ?_) (fun hc34 => ?_)
    · refine rf_b1t c_306_34 rfl (decide_eq_true hc34) ?_
      exact t_Mo_register_41 hS hd  x0 x1 x2 x3 (u4) σ h_x0
    · refine rf_b1f c_306_34 rfl (decide_eq_false hc34) ?_
      refine rf_ldc (Or.inr ⟨rfl, rfl⟩) c_306_37 rfl kl_12_382 ?_
      exact rf_ret c_306_40 rfl rfl rfl rfl
def f_Mo_register (x0 : Nat) (x1 : Int32) (x2 : Int32) (x3 : Int32) (σ : Mm) : Option (Int32 × Mm) := (f_Mo_isRegister σ x1).bind fun v1 => (if v1 = 0 then (f_Mo_register_26  σ) else ((f_Mo_in σ x2 (-1 : Int32) (1 : Int32)).bind fun v10 => (if v10 = 0 then (f_Mo_register_26  σ) else (if x2 < 0 then (f_Mo_register_29  x0 x1 x2 x3 σ) else (if x3 ≤ (24 : Int32) then (f_Mo_register_29  x0 x1 x2 x3 σ) else (f_Mo_register_26  σ))))))
set_option maxRecDepth 100000 in
set_option maxHeartbeats 4000000 in
theorem t_Mo_register_e {X : Xt} {S : Sh} (hS : ShOK S) {d : Nat} (hd : 2 ≤ d + 1) (x0 : Nat) (x1 : Int32) (x2 : Int32) (x3 : Int32) (σ : Mm) (h_x0 : tgT x0 = 12) : Rf X S emM (f_Mo_register x0 x1 x2 x3 σ) (d + 1) 306 0 [.ref x0, .int x1, .int x2, .int x3, unset0] [] σ := by
  unfold f_Mo_register
  refine rf_ild (i := 1) (Or.inr ⟨1, rfl, rfl, rfl⟩) c_306_0 rfl ?_
  refine rf_callI (as := [.int x1]) (kd := 0) c_306_1 rfl (by decide) rfl ml_12_379 (by decide) rfl (rcv_0 rfl) (Nat.zero_le _) rfl rfl (t_Mo_isRegister hS (by omega) σ x1) (fun v1 => ?_)
  refine rf_ite (fun hc4 => ?_) (fun hc4 => ?_)
  · refine rf_b1t c_306_4 rfl (decide_eq_true hc4) ?_
    exact t_Mo_register_26 hS hd  (.ref x0) (.int x1) (.int x2) (.int x3) (unset0) σ
  · refine rf_b1f c_306_4 rfl (decide_eq_false hc4) ?_
    refine rf_ild (i := 2) (Or.inr ⟨2, rfl, rfl, rfl⟩) c_306_7 rfl ?_
    refine rf_iconst c_306_8 ki_m1 ?_
    refine rf_iconst c_306_9 ki_1 ?_
    refine rf_callI (as := [.int x2, .int (-1 : Int32), .int (1 : Int32)]) (kd := 0) c_306_10 rfl (by decide) rfl ml_12_82 (by decide) rfl (rcv_0 rfl) (Nat.zero_le _) rfl rfl (t_Mo_in hS (by omega) σ x2 (-1 : Int32) (1 : Int32)) (fun v10 => ?_)
    refine rf_ite (fun hc13 => ?_) (fun hc13 => ?_)
    · refine rf_b1t c_306_13 rfl (decide_eq_true hc13) ?_
      exact t_Mo_register_26 hS hd  (.ref x0) (.int x1) (.int x2) (.int x3) (unset0) σ
    · refine rf_b1f c_306_13 rfl (decide_eq_false hc13) ?_
      refine rf_ild (i := 2) (Or.inr ⟨2, rfl, rfl, rfl⟩) c_306_16 rfl ?_
      refine rf_ite (fun hc17 => ?_) (fun hc17 => ?_)
      · refine rf_b1t c_306_17 rfl (decide_eq_true hc17) ?_
        exact t_Mo_register_29 hS hd  x0 x1 x2 x3 (unset0) σ h_x0
      · refine rf_b1f c_306_17 rfl (decide_eq_false hc17) ?_
        refine rf_ild (i := 3) (Or.inr ⟨3, rfl, rfl, rfl⟩) c_306_20 rfl ?_
        refine rf_bipush c_306_21 kb_24 ?_
        refine rf_ite (fun hc23 => ?_) (fun hc23 => ?_)
        · refine rf_b2t c_306_23 rfl (decide_eq_true hc23) ?_
          exact t_Mo_register_29 hS hd  x0 x1 x2 x3 (unset0) σ h_x0
        · refine rf_b2f c_306_23 rfl (decide_eq_false hc23) ?_
          exact t_Mo_register_26 hS hd  (.ref x0) (.int x1) (.int x2) (.int x3) (unset0) σ
theorem t_Mo_register {X : Xt} {S : Sh} (hS : ShOK S) {d : Nat} (hd : 2 ≤ d) (x0 : Nat) (x1 : Int32) (x2 : Int32) (x3 : Int32) (σ : Mm) (h_x0 : tgT x0 = 12) : Rf X S emM (f_Mo_register x0 x1 x2 x3 σ) d 306 0 [.ref x0, .int x1, .int x2, .int x3, unset0] [] σ := by
  obtain ⟨d1, rfl⟩ : ∃ d1, d = d1 + 1 := ⟨d - 1, by omega⟩
  exact t_Mo_register_e hS hd x0 x1 x2 x3 σ h_x0
theorem c_307_0 : cd 307 0 = some (.iload_n 1, 1) := by decide +kernel
theorem c_307_1 : cd 307 1 = some (.invokestatic 379, 3) := by decide +kernel
theorem c_307_4 : cd 307 4 = some (.ifCond .ne (6), 3) := by decide +kernel
theorem c_307_7 : cd 307 7 = some (.ldc 91, 2) := by decide +kernel
theorem c_307_9 : cd 307 9 = some (.ireturn, 1) := by decide +kernel
theorem c_307_10 : cd 307 10 = some (.aload_n 0, 1) := by decide +kernel
theorem c_307_11 : cd 307 11 = some (.getfield 51, 3) := by decide +kernel
theorem c_307_14 : cd 307 14 = some (.iload_n 1, 1) := by decide +kernel
theorem c_307_15 : cd 307 15 = some (.iaload, 1) := by decide +kernel
theorem c_307_16 : cd 307 16 = some (.ifCond .ge (7), 3) := by decide +kernel
theorem c_307_19 : cd 307 19 = some (.ldc_w 383, 3) := by decide +kernel
theorem c_307_22 : cd 307 22 = some (.ireturn, 1) := by decide +kernel
theorem c_307_23 : cd 307 23 = some (.iload_n 2, 1) := by decide +kernel
theorem c_307_24 : cd 307 24 = some (.iconst (0), 1) := by decide +kernel
theorem c_307_25 : cd 307 25 = some (.aload_n 0, 1) := by decide +kernel
theorem c_307_26 : cd 307 26 = some (.getfield 54, 3) := by decide +kernel
theorem c_307_29 : cd 307 29 = some (.iload_n 1, 1) := by decide +kernel
theorem c_307_30 : cd 307 30 = some (.iaload, 1) := by decide +kernel
theorem c_307_31 : cd 307 31 = some (.iconst (1), 1) := by decide +kernel
theorem c_307_32 : cd 307 32 = some (.isub, 1) := by decide +kernel
theorem c_307_33 : cd 307 33 = some (.invokestatic 82, 3) := by decide +kernel
theorem c_307_36 : cd 307 36 = some (.ifCond .ne (7), 3) := by decide +kernel
theorem c_307_39 : cd 307 39 = some (.ldc_w 384, 3) := by decide +kernel
theorem c_307_42 : cd 307 42 = some (.ireturn, 1) := by decide +kernel
theorem c_307_43 : cd 307 43 = some (.aload_n 0, 1) := by decide +kernel
theorem c_307_44 : cd 307 44 = some (.getfield 57, 3) := by decide +kernel
theorem c_307_47 : cd 307 47 = some (.bipush (24), 2) := by decide +kernel
theorem c_307_49 : cd 307 49 = some (.iload_n 1, 1) := by decide +kernel
theorem c_307_50 : cd 307 50 = some (.imul, 1) := by decide +kernel
theorem c_307_51 : cd 307 51 = some (.iload_n 2, 1) := by decide +kernel
theorem c_307_52 : cd 307 52 = some (.iadd, 1) := by decide +kernel
theorem c_307_53 : cd 307 53 = some (.iaload, 1) := by decide +kernel
theorem c_307_54 : cd 307 54 = some (.istore 4, 2) := by decide +kernel
theorem c_307_56 : cd 307 56 = some (.aload_n 0, 1) := by decide +kernel
theorem c_307_57 : cd 307 57 = some (.getfield 57, 3) := by decide +kernel
theorem c_307_60 : cd 307 60 = some (.bipush (24), 2) := by decide +kernel
theorem c_307_62 : cd 307 62 = some (.iload_n 1, 1) := by decide +kernel
theorem c_307_63 : cd 307 63 = some (.imul, 1) := by decide +kernel
theorem c_307_64 : cd 307 64 = some (.iload_n 2, 1) := by decide +kernel
theorem c_307_65 : cd 307 65 = some (.iadd, 1) := by decide +kernel
theorem c_307_66 : cd 307 66 = some (.aload_n 0, 1) := by decide +kernel
theorem c_307_67 : cd 307 67 = some (.getfield 51, 3) := by decide +kernel
theorem c_307_70 : cd 307 70 = some (.iload_n 1, 1) := by decide +kernel
theorem c_307_71 : cd 307 71 = some (.iaload, 1) := by decide +kernel
theorem c_307_72 : cd 307 72 = some (.ifCond .ne (13), 3) := by decide +kernel
theorem c_307_75 : cd 307 75 = some (.iload_n 3, 1) := by decide +kernel
theorem c_307_76 : cd 307 76 = some (.bipush (24), 2) := by decide +kernel
theorem c_307_78 : cd 307 78 = some (.ishl, 1) := by decide +kernel
theorem c_307_79 : cd 307 79 = some (.bipush (24), 2) := by decide +kernel
theorem c_307_81 : cd 307 81 = some (.ishr, 1) := by decide +kernel
theorem c_307_82 : cd 307 82 = some (.goto (10), 3) := by decide +kernel
theorem c_307_85 : cd 307 85 = some (.iload_n 3, 1) := by decide +kernel
theorem c_307_86 : cd 307 86 = some (.bipush (16), 2) := by decide +kernel
theorem c_307_88 : cd 307 88 = some (.ishl, 1) := by decide +kernel
theorem c_307_89 : cd 307 89 = some (.bipush (16), 2) := by decide +kernel
theorem c_307_91 : cd 307 91 = some (.ishr, 1) := by decide +kernel
theorem c_307_92 : cd 307 92 = some (.iastore, 1) := by decide +kernel
theorem c_307_93 : cd 307 93 = some (.iload 4, 2) := by decide +kernel
theorem c_307_95 : cd 307 95 = some (.ireturn, 1) := by decide +kernel
def f_Mo_note_92 (x4 : Int32) (y0 : Nat) (y1 : Int32) (y2 : Int32) (σ : Mm) : Option (Int32 × Mm) := if inbB y1 240 = true then nmM (up2 σ y0 (ix y1) y2) fun σ92 => some (x4, σ92) else none
set_option maxRecDepth 100000 in
set_option maxHeartbeats 4000000 in
theorem t_Mo_note_92 {X : Xt} {S : Sh} (hS : ShOK S) {d : Nat} (hd : 2 ≤ d + 1) (x4 : Int32) (y0 : Nat) (y1 : Int32) (y2 : Int32) (u0 : Value) (u1 : Value) (u2 : Value) (u3 : Value) (σ : Mm) (h_y0 : tgT y0 = 20) (l_y0 : lnT y0 = 240) : Rf X S emM (f_Mo_note_92 x4 y0 y1 y2 σ) (d + 1) 307 92 [u0, u1, u2, u3, .int x4] [.int y2, .int y1, .ref y0] σ := by
  unfold f_Mo_note_92
  refine rf_ite (fun hb92 => ?_) (fun _ => rf_none)
  refine rf_iast hS c_307_92 h_y0 l_y0 hb92 ?_
  refine rf_nm (fun σ92 => ?_)
  refine rf_ild (i := 4) (Or.inl ⟨rfl, rfl⟩) c_307_93 rfl ?_
  exact rf_ret c_307_95 rfl rfl rfl rfl
def f_Mo_note (x0 : Nat) (x1 : Int32) (x2 : Int32) (x3 : Int32) (σ : Mm) : Option (Int32 × Mm) := (f_Mo_isRegister σ x1).bind fun v1 => (if ¬ v1 = 0 then (if inbB x1 10 = true then (if 0 ≤ (σ (rfT x0 36) (ix x1)) then (if inbB x1 10 = true then (f_Mo_in σ x2 (0 : Int32) ((σ (rfT x0 37) (ix x1)) - (1 : Int32))).bind fun v33 => (if ¬ v33 = 0 then (if inbB (((24 : Int32) * x1) + x2) 240 = true then if inbB x1 10 = true then (if ¬ (σ (rfT x0 36) (ix x1)) = 0 then (f_Mo_note_92  (σ (rfT x0 38) (ix (((24 : Int32) * x1) + x2))) (rfT x0 38) (((24 : Int32) * x1) + x2) ((x3 <<< ((16 : Int32) &&& 31)) >>> ((16 : Int32) &&& 31)) σ) else (f_Mo_note_92  (σ (rfT x0 38) (ix (((24 : Int32) * x1) + x2))) (rfT x0 38) (((24 : Int32) * x1) + x2) ((x3 <<< ((24 : Int32) &&& 31)) >>> ((24 : Int32) &&& 31)) σ)) else none else none) else (some ((-1000000013 : Int32), σ))) else none) else (some ((-1000000011 : Int32), σ))) else none) else (some ((-1000000001 : Int32), σ)))
set_option maxRecDepth 100000 in
set_option maxHeartbeats 4000000 in
theorem t_Mo_note_e {X : Xt} {S : Sh} (hS : ShOK S) {d : Nat} (hd : 2 ≤ d + 1) (x0 : Nat) (x1 : Int32) (x2 : Int32) (x3 : Int32) (σ : Mm) (h_x0 : tgT x0 = 12) : Rf X S emM (f_Mo_note x0 x1 x2 x3 σ) (d + 1) 307 0 [.ref x0, .int x1, .int x2, .int x3, unset0] [] σ := by
  unfold f_Mo_note
  refine rf_ild (i := 1) (Or.inr ⟨1, rfl, rfl, rfl⟩) c_307_0 rfl ?_
  refine rf_callI (as := [.int x1]) (kd := 0) c_307_1 rfl (by decide) rfl ml_12_379 (by decide) rfl (rcv_0 rfl) (Nat.zero_le _) rfl rfl (t_Mo_isRegister hS (by omega) σ x1) (fun v1 => ?_)
  refine rf_ite (fun hc4 => ?_) (fun hc4 => ?_)
  · refine rf_b1t c_307_4 rfl (decide_eq_true hc4) ?_
    refine rf_ald (i := 0) (Or.inr ⟨0, rfl, rfl, rfl⟩) c_307_10 rfl ?_
    refine rf_getr hS c_307_11 rfl fl_12_51 rfl h_x0 ?_
    refine rf_ild (i := 1) (Or.inr ⟨1, rfl, rfl, rfl⟩) c_307_14 rfl ?_
    refine rf_ite (fun hb15 => ?_) (fun _ => rf_none)
    refine rf_iald hS c_307_15 (tf_12_36 h_x0) (lf_12_36 h_x0) hb15 ?_
    refine rf_ite (fun hc16 => ?_) (fun hc16 => ?_)
    · refine rf_b1t c_307_16 rfl (decide_eq_true hc16) ?_
      refine rf_ild (i := 2) (Or.inr ⟨2, rfl, rfl, rfl⟩) c_307_23 rfl ?_
      refine rf_iconst c_307_24 ki_0 ?_
      refine rf_ald (i := 0) (Or.inr ⟨0, rfl, rfl, rfl⟩) c_307_25 rfl ?_
      refine rf_getr hS c_307_26 rfl fl_12_54 rfl h_x0 ?_
      refine rf_ild (i := 1) (Or.inr ⟨1, rfl, rfl, rfl⟩) c_307_29 rfl ?_
      refine rf_ite (fun hb30 => ?_) (fun _ => rf_none)
      refine rf_iald hS c_307_30 (tf_12_37 h_x0) (lf_12_37 h_x0) hb30 ?_
      refine rf_iconst c_307_31 ki_1 ?_
      refine rf_isub c_307_32 ?_
      refine rf_callI (as := [.int x2, .int (0 : Int32), .int ((σ (rfT x0 37) (ix x1)) - (1 : Int32))]) (kd := 0) c_307_33 rfl (by decide) rfl ml_12_82 (by decide) rfl (rcv_0 rfl) (Nat.zero_le _) rfl rfl (t_Mo_in hS (by omega) σ x2 (0 : Int32) ((σ (rfT x0 37) (ix x1)) - (1 : Int32))) (fun v33 => ?_)
      refine rf_ite (fun hc36 => ?_) (fun hc36 => ?_)
      · refine rf_b1t c_307_36 rfl (decide_eq_true hc36) ?_
        refine rf_ald (i := 0) (Or.inr ⟨0, rfl, rfl, rfl⟩) c_307_43 rfl ?_
        refine rf_getr hS c_307_44 rfl fl_12_57 rfl h_x0 ?_
        refine rf_bipush c_307_47 kb_24 ?_
        refine rf_ild (i := 1) (Or.inr ⟨1, rfl, rfl, rfl⟩) c_307_49 rfl ?_
        refine rf_imul c_307_50 ?_
        refine rf_ild (i := 2) (Or.inr ⟨2, rfl, rfl, rfl⟩) c_307_51 rfl ?_
        refine rf_iadd c_307_52 ?_
        refine rf_ite (fun hb53 => ?_) (fun _ => rf_none)
        refine rf_iald hS c_307_53 (tf_12_38 h_x0) (lf_12_38 h_x0) hb53 ?_
        refine rf_ist (i := 4) (Or.inl ⟨rfl, rfl⟩) c_307_54 (Nat.le_of_ble_eq_true rfl) rfl ?_
        refine rf_ald (i := 0) (Or.inr ⟨0, rfl, rfl, rfl⟩) c_307_56 rfl ?_
        refine rf_getr hS c_307_57 rfl fl_12_57 rfl h_x0 ?_
        refine rf_bipush c_307_60 kb_24 ?_
        refine rf_ild (i := 1) (Or.inr ⟨1, rfl, rfl, rfl⟩) c_307_62 rfl ?_
        refine rf_imul c_307_63 ?_
        refine rf_ild (i := 2) (Or.inr ⟨2, rfl, rfl, rfl⟩) c_307_64 rfl ?_
        refine rf_iadd c_307_65 ?_
        refine rf_ald (i := 0) (Or.inr ⟨0, rfl, rfl, rfl⟩) c_307_66 rfl ?_
        refine rf_getr hS c_307_67 rfl fl_12_51 rfl h_x0 ?_
        refine rf_ild (i := 1) (Or.inr ⟨1, rfl, rfl, rfl⟩) c_307_70 rfl ?_
        refine rf_ite (fun hb71 => ?_) (fun _ => rf_none)
        refine rf_iald hS c_307_71 (tf_12_36 h_x0) (lf_12_36 h_x0) hb71 ?_
        refine rf_ite (fun hc72 => ?_) (fun hc72 => ?_)
        · refine rf_b1t c_307_72 rfl (decide_eq_true hc72) ?_
          refine rf_ild (i := 3) (Or.inr ⟨3, rfl, rfl, rfl⟩) c_307_85 rfl ?_
          refine rf_bipush c_307_86 kb_16 ?_
          refine rf_ishl c_307_88 ?_
          refine rf_bipush c_307_89 kb_16 ?_
          refine rf_ishr c_307_91 ?_
          exact t_Mo_note_92 hS hd  (σ (rfT x0 38) (ix (((24 : Int32) * x1) + x2))) (rfT x0 38) (((24 : Int32) * x1) + x2) ((x3 <<< ((16 : Int32) &&& 31)) >>> ((16 : Int32) &&& 31)) (.ref x0) (.int x1) (.int x2) (.int x3) σ (tf_12_38 h_x0) (lf_12_38 h_x0)
        · refine rf_b1f c_307_72 rfl (decide_eq_false hc72) ?_
          refine rf_ild (i := 3) (Or.inr ⟨3, rfl, rfl, rfl⟩) c_307_75 rfl ?_
          refine rf_bipush c_307_76 kb_24 ?_
          refine rf_ishl c_307_78 ?_
          refine rf_bipush c_307_79 kb_24 ?_
          refine rf_ishr c_307_81 ?_
          refine rf_goto c_307_82 rfl ?_
          exact t_Mo_note_92 hS hd  (σ (rfT x0 38) (ix (((24 : Int32) * x1) + x2))) (rfT x0 38) (((24 : Int32) * x1) + x2) ((x3 <<< ((24 : Int32) &&& 31)) >>> ((24 : Int32) &&& 31)) (.ref x0) (.int x1) (.int x2) (.int x3) σ (tf_12_38 h_x0) (lf_12_38 h_x0)
      · refine rf_b1f c_307_36 rfl (decide_eq_false hc36) ?_
        refine rf_ldc (Or.inr ⟨rfl, rfl⟩) c_307_39 rfl kl_12_384 ?_
        exact rf_ret c_307_42 rfl rfl rfl rfl
    · refine rf_b1f c_307_16 rfl (decide_eq_false hc16) ?_
      refine rf_ldc (Or.inr ⟨rfl, rfl⟩) c_307_19 rfl kl_12_383 ?_
      exact rf_ret c_307_22 rfl rfl rfl rfl
  · refine rf_b1f c_307_4 rfl (decide_eq_false hc4) ?_
    refine rf_ldc (Or.inl ⟨rfl, rfl⟩) c_307_7 rfl kl_12_91 ?_
    exact rf_ret c_307_9 rfl rfl rfl rfl
theorem t_Mo_note {X : Xt} {S : Sh} (hS : ShOK S) {d : Nat} (hd : 2 ≤ d) (x0 : Nat) (x1 : Int32) (x2 : Int32) (x3 : Int32) (σ : Mm) (h_x0 : tgT x0 = 12) : Rf X S emM (f_Mo_note x0 x1 x2 x3 σ) d 307 0 [.ref x0, .int x1, .int x2, .int x3, unset0] [] σ := by
  obtain ⟨d1, rfl⟩ : ∃ d1, d = d1 + 1 := ⟨d - 1, by omega⟩
  exact t_Mo_note_e hS hd x0 x1 x2 x3 σ h_x0
theorem c_308_0 : cd 308 0 = some (.iload_n 1, 1) := by decide +kernel
theorem c_308_1 : cd 308 1 = some (.invokestatic 379, 3) := by decide +kernel
theorem c_308_4 : cd 308 4 = some (.ifCond .eq (10), 3) := by decide +kernel
theorem c_308_7 : cd 308 7 = some (.iload_n 3, 1) := by decide +kernel
theorem c_308_8 : cd 308 8 = some (.invokestatic 379, 3) := by decide +kernel
theorem c_308_11 : cd 308 11 = some (.ifCond .ne (6), 3) := by decide +kernel
theorem c_308_14 : cd 308 14 = some (.ldc 91, 2) := by decide +kernel
theorem c_308_16 : cd 308 16 = some (.ireturn, 1) := by decide +kernel
theorem c_308_17 : cd 308 17 = some (.aload_n 0, 1) := by decide +kernel
theorem c_308_18 : cd 308 18 = some (.getfield 51, 3) := by decide +kernel
theorem c_308_21 : cd 308 21 = some (.iload_n 1, 1) := by decide +kernel
theorem c_308_22 : cd 308 22 = some (.iaload, 1) := by decide +kernel
theorem c_308_23 : cd 308 23 = some (.ifCond .lt (12), 3) := by decide +kernel
theorem c_308_26 : cd 308 26 = some (.aload_n 0, 1) := by decide +kernel
theorem c_308_27 : cd 308 27 = some (.getfield 51, 3) := by decide +kernel
theorem c_308_30 : cd 308 30 = some (.iload_n 3, 1) := by decide +kernel
theorem c_308_31 : cd 308 31 = some (.iaload, 1) := by decide +kernel
theorem c_308_32 : cd 308 32 = some (.ifCond .ge (7), 3) := by decide +kernel
theorem c_308_35 : cd 308 35 = some (.ldc_w 383, 3) := by decide +kernel
theorem c_308_38 : cd 308 38 = some (.ireturn, 1) := by decide +kernel
theorem c_308_39 : cd 308 39 = some (.aload_n 0, 1) := by decide +kernel
theorem c_308_40 : cd 308 40 = some (.getfield 51, 3) := by decide +kernel
theorem c_308_43 : cd 308 43 = some (.iload_n 1, 1) := by decide +kernel
theorem c_308_44 : cd 308 44 = some (.iaload, 1) := by decide +kernel
theorem c_308_45 : cd 308 45 = some (.aload_n 0, 1) := by decide +kernel
theorem c_308_46 : cd 308 46 = some (.getfield 51, 3) := by decide +kernel
theorem c_308_49 : cd 308 49 = some (.iload_n 3, 1) := by decide +kernel
theorem c_308_50 : cd 308 50 = some (.iaload, 1) := by decide +kernel
theorem c_308_51 : cd 308 51 = some (.if_icmp .eq (6), 3) := by decide +kernel
theorem c_308_54 : cd 308 54 = some (.ldc 154, 2) := by decide +kernel
theorem c_308_56 : cd 308 56 = some (.ireturn, 1) := by decide +kernel
theorem c_308_57 : cd 308 57 = some (.iload_n 2, 1) := by decide +kernel
theorem c_308_58 : cd 308 58 = some (.ifCond .lt (40), 3) := by decide +kernel
theorem c_308_61 : cd 308 61 = some (.iload 4, 2) := by decide +kernel
theorem c_308_63 : cd 308 63 = some (.ifCond .lt (35), 3) := by decide +kernel
theorem c_308_66 : cd 308 66 = some (.iload 5, 2) := by decide +kernel
theorem c_308_68 : cd 308 68 = some (.ifCond .lt (30), 3) := by decide +kernel
theorem c_308_71 : cd 308 71 = some (.iload_n 2, 1) := by decide +kernel
theorem c_308_72 : cd 308 72 = some (.aload_n 0, 1) := by decide +kernel
theorem c_308_73 : cd 308 73 = some (.getfield 54, 3) := by decide +kernel
theorem c_308_76 : cd 308 76 = some (.iload_n 1, 1) := by decide +kernel
theorem c_308_77 : cd 308 77 = some (.iaload, 1) := by decide +kernel
theorem c_308_78 : cd 308 78 = some (.iload 5, 2) := by decide +kernel
theorem c_308_80 : cd 308 80 = some (.isub, 1) := by decide +kernel
theorem c_308_81 : cd 308 81 = some (.if_icmp .gt (17), 3) := by decide +kernel
theorem c_308_84 : cd 308 84 = some (.iload 4, 2) := by decide +kernel
theorem c_308_86 : cd 308 86 = some (.aload_n 0, 1) := by decide +kernel
theorem c_308_87 : cd 308 87 = some (.getfield 54, 3) := by decide +kernel
theorem c_308_90 : cd 308 90 = some (.iload_n 3, 1) := by decide +kernel
theorem c_308_91 : cd 308 91 = some (.iaload, 1) := by decide +kernel
theorem c_308_92 : cd 308 92 = some (.iload 5, 2) := by decide +kernel
theorem c_308_94 : cd 308 94 = some (.isub, 1) := by decide +kernel
theorem c_308_95 : cd 308 95 = some (.if_icmp .le (7), 3) := by decide +kernel
theorem c_308_98 : cd 308 98 = some (.ldc_w 384, 3) := by decide +kernel
theorem c_308_101 : cd 308 101 = some (.ireturn, 1) := by decide +kernel
theorem c_308_102 : cd 308 102 = some (.iconst (0), 1) := by decide +kernel
theorem c_308_103 : cd 308 103 = some (.istore 6, 2) := by decide +kernel
theorem c_308_105 : cd 308 105 = some (.iload 6, 2) := by decide +kernel
theorem c_308_107 : cd 308 107 = some (.iload 5, 2) := by decide +kernel
theorem c_308_109 : cd 308 109 = some (.if_icmp .ge (30), 3) := by decide +kernel
theorem c_308_112 : cd 308 112 = some (.aload_n 0, 1) := by decide +kernel
theorem c_308_113 : cd 308 113 = some (.getfield 60, 3) := by decide +kernel
theorem c_308_116 : cd 308 116 = some (.iload 6, 2) := by decide +kernel
theorem c_308_118 : cd 308 118 = some (.aload_n 0, 1) := by decide +kernel
theorem c_308_119 : cd 308 119 = some (.getfield 57, 3) := by decide +kernel
theorem c_308_122 : cd 308 122 = some (.bipush (24), 2) := by decide +kernel
theorem c_308_124 : cd 308 124 = some (.iload_n 1, 1) := by decide +kernel
theorem c_308_125 : cd 308 125 = some (.imul, 1) := by decide +kernel
theorem c_308_126 : cd 308 126 = some (.iload_n 2, 1) := by decide +kernel
theorem c_308_127 : cd 308 127 = some (.iadd, 1) := by decide +kernel
theorem c_308_128 : cd 308 128 = some (.iload 6, 2) := by decide +kernel
theorem c_308_130 : cd 308 130 = some (.iadd, 1) := by decide +kernel
theorem c_308_131 : cd 308 131 = some (.iaload, 1) := by decide +kernel
theorem c_308_132 : cd 308 132 = some (.iastore, 1) := by decide +kernel
theorem c_308_133 : cd 308 133 = some (.iinc 6 (1), 3) := by decide +kernel
theorem c_308_136 : cd 308 136 = some (.goto (-31), 3) := by decide +kernel
theorem c_308_139 : cd 308 139 = some (.iconst (0), 1) := by decide +kernel
theorem c_308_140 : cd 308 140 = some (.istore 6, 2) := by decide +kernel
theorem c_308_142 : cd 308 142 = some (.iload 6, 2) := by decide +kernel
theorem c_308_144 : cd 308 144 = some (.iload 5, 2) := by decide +kernel
theorem c_308_146 : cd 308 146 = some (.if_icmp .ge (31), 3) := by decide +kernel
theorem c_308_149 : cd 308 149 = some (.aload_n 0, 1) := by decide +kernel
theorem c_308_150 : cd 308 150 = some (.getfield 57, 3) := by decide +kernel
theorem c_308_153 : cd 308 153 = some (.bipush (24), 2) := by decide +kernel
theorem c_308_155 : cd 308 155 = some (.iload_n 3, 1) := by decide +kernel
theorem c_308_156 : cd 308 156 = some (.imul, 1) := by decide +kernel
theorem c_308_157 : cd 308 157 = some (.iload 4, 2) := by decide +kernel
theorem c_308_159 : cd 308 159 = some (.iadd, 1) := by decide +kernel
theorem c_308_160 : cd 308 160 = some (.iload 6, 2) := by decide +kernel
theorem c_308_162 : cd 308 162 = some (.iadd, 1) := by decide +kernel
theorem c_308_163 : cd 308 163 = some (.aload_n 0, 1) := by decide +kernel
theorem c_308_164 : cd 308 164 = some (.getfield 60, 3) := by decide +kernel
theorem c_308_167 : cd 308 167 = some (.iload 6, 2) := by decide +kernel
theorem c_308_169 : cd 308 169 = some (.iaload, 1) := by decide +kernel
theorem c_308_170 : cd 308 170 = some (.iastore, 1) := by decide +kernel
theorem c_308_171 : cd 308 171 = some (.iinc 6 (1), 3) := by decide +kernel
theorem c_308_174 : cd 308 174 = some (.goto (-32), 3) := by decide +kernel
theorem c_308_177 : cd 308 177 = some (.iload 5, 2) := by decide +kernel
theorem c_308_179 : cd 308 179 = some (.ireturn, 1) := by decide +kernel
def f_Mo_carry_14 (σ : Mm) : Option (Int32 × Mm) := some ((-1000000001 : Int32), σ)
set_option maxRecDepth 100000 in
set_option maxHeartbeats 4000000 in
theorem t_Mo_carry_14 {X : Xt} {S : Sh} (hS : ShOK S) {d : Nat} (hd : 2 ≤ d + 1) (u0 : Value) (u1 : Value) (u2 : Value) (u3 : Value) (u4 : Value) (u5 : Value) (u6 : Value) (σ : Mm) : Rf X S emM (f_Mo_carry_14 σ) (d + 1) 308 14 [u0, u1, u2, u3, u4, u5, u6] [] σ := by
  unfold f_Mo_carry_14
  refine rf_ldc (Or.inl ⟨rfl, rfl⟩) c_308_14 rfl kl_12_91 ?_
  exact rf_ret c_308_16 rfl rfl rfl rfl
def f_Mo_carry_35 (σ : Mm) : Option (Int32 × Mm) := some ((-1000000011 : Int32), σ)
set_option maxRecDepth 100000 in
set_option maxHeartbeats 4000000 in
theorem t_Mo_carry_35 {X : Xt} {S : Sh} (hS : ShOK S) {d : Nat} (hd : 2 ≤ d + 1) (u0 : Value) (u1 : Value) (u2 : Value) (u3 : Value) (u4 : Value) (u5 : Value) (u6 : Value) (σ : Mm) : Rf X S emM (f_Mo_carry_35 σ) (d + 1) 308 35 [u0, u1, u2, u3, u4, u5, u6] [] σ := by
  unfold f_Mo_carry_35
  refine rf_ldc (Or.inr ⟨rfl, rfl⟩) c_308_35 rfl kl_12_383 ?_
  exact rf_ret c_308_38 rfl rfl rfl rfl
def f_Mo_carry_98 (σ : Mm) : Option (Int32 × Mm) := some ((-1000000013 : Int32), σ)
set_option maxRecDepth 100000 in
set_option maxHeartbeats 4000000 in
theorem t_Mo_carry_98 {X : Xt} {S : Sh} (hS : ShOK S) {d : Nat} (hd : 2 ≤ d + 1) (u0 : Value) (u1 : Value) (u2 : Value) (u3 : Value) (u4 : Value) (u5 : Value) (u6 : Value) (σ : Mm) : Rf X S emM (f_Mo_carry_98 σ) (d + 1) 308 98 [u0, u1, u2, u3, u4, u5, u6] [] σ := by
  unfold f_Mo_carry_98
  refine rf_ldc (Or.inr ⟨rfl, rfl⟩) c_308_98 rfl kl_12_384 ?_
  exact rf_ret c_308_101 rfl rfl rfl rfl
def f_Mo_carry_142 : Nat → Nat → Int32 → Int32 → Int32 → Int32 → Mm → Option (Int32 × Mm)
  | 0, _, _, _, _, _, _ => none
  | n + 1, x0, x3, x4, x5, x6, σ => (if x5 ≤ x6 then (some (x5, σ)) else (if inbB x6 24 = true then if inbB ((((24 : Int32) * x3) + x4) + x6) 240 = true then nmM (up2 σ (rfT x0 38) (ix ((((24 : Int32) * x3) + x4) + x6)) (σ (rfT x0 39) (ix x6))) fun σ170 => f_Mo_carry_142  n x0 x3 x4 x5 (x6 + (1 : Int32)) σ170 else none else none))
set_option maxRecDepth 100000 in
set_option maxHeartbeats 4000000 in
theorem t_Mo_carry_142 {X : Xt} {S : Sh} (hS : ShOK S) {d : Nat} (hd : 2 ≤ d + 1) : ∀ (n : Nat) (x0 : Nat) (x3 : Int32) (x4 : Int32) (x5 : Int32) (x6 : Int32) (u1 : Value) (u2 : Value) (σ : Mm) (h_x0 : tgT x0 = 12), Rf X S emM (f_Mo_carry_142 n x0 x3 x4 x5 x6 σ) (d + 1) 308 142 [.ref x0, u1, u2, .int x3, .int x4, .int x5, .int x6] [] σ := by
  intro n
  induction n with
  | zero => intro x0 x3 x4 x5 x6 u1 u2 σ h_x0; exact rf_none
  | succ n ih =>
    intro x0 x3 x4 x5 x6 u1 u2 σ h_x0
    rw [f_Mo_carry_142]
    refine rf_ild (i := 6) (Or.inl ⟨rfl, rfl⟩) c_308_142 rfl ?_
    refine rf_ild (i := 5) (Or.inl ⟨rfl, rfl⟩) c_308_144 rfl ?_
    refine rf_ite (fun hc146 => ?_) (fun hc146 => ?_)
    · refine rf_b2t c_308_146 rfl (decide_eq_true hc146) ?_
      refine rf_ild (i := 5) (Or.inl ⟨rfl, rfl⟩) c_308_177 rfl ?_
      exact rf_ret c_308_179 rfl rfl rfl rfl
    · refine rf_b2f c_308_146 rfl (decide_eq_false hc146) ?_
      refine rf_ald (i := 0) (Or.inr ⟨0, rfl, rfl, rfl⟩) c_308_149 rfl ?_
      refine rf_getr hS c_308_150 rfl fl_12_57 rfl h_x0 ?_
      refine rf_bipush c_308_153 kb_24 ?_
      refine rf_ild (i := 3) (Or.inr ⟨3, rfl, rfl, rfl⟩) c_308_155 rfl ?_
      refine rf_imul c_308_156 ?_
      refine rf_ild (i := 4) (Or.inl ⟨rfl, rfl⟩) c_308_157 rfl ?_
      refine rf_iadd c_308_159 ?_
      refine rf_ild (i := 6) (Or.inl ⟨rfl, rfl⟩) c_308_160 rfl ?_
      refine rf_iadd c_308_162 ?_
      refine rf_ald (i := 0) (Or.inr ⟨0, rfl, rfl, rfl⟩) c_308_163 rfl ?_
      refine rf_getr hS c_308_164 rfl fl_12_60 rfl h_x0 ?_
      refine rf_ild (i := 6) (Or.inl ⟨rfl, rfl⟩) c_308_167 rfl ?_
      refine rf_ite (fun hb169 => ?_) (fun _ => rf_none)
      refine rf_iald hS c_308_169 (tf_12_39 h_x0) (lf_12_39 h_x0) hb169 ?_
      refine rf_ite (fun hb170 => ?_) (fun _ => rf_none)
      refine rf_iast hS c_308_170 (tf_12_38 h_x0) (lf_12_38 h_x0) hb170 ?_
      refine rf_nm (fun σ170 => ?_)
      refine rf_iinc c_308_171 rfl ki_1 rfl ?_
      refine rf_goto c_308_174 rfl ?_
      exact ih x0 x3 x4 x5 (x6 + (1 : Int32)) (u1) (u2) σ170 h_x0
def f_Mo_carry_105 : Nat → Nat → Int32 → Int32 → Int32 → Int32 → Int32 → Int32 → Mm → Option (Int32 × Mm)
  | 0, _, _, _, _, _, _, _, _ => none
  | n + 1, x0, x1, x2, x3, x4, x5, x6, σ => (if x5 ≤ x6 then (f_Mo_carry_142  NN x0 x3 x4 x5 (0 : Int32) σ) else (if inbB ((((24 : Int32) * x1) + x2) + x6) 240 = true then if inbB x6 24 = true then nmM (up2 σ (rfT x0 39) (ix x6) (σ (rfT x0 38) (ix ((((24 : Int32) * x1) + x2) + x6)))) fun σ132 => f_Mo_carry_105  n x0 x1 x2 x3 x4 x5 (x6 + (1 : Int32)) σ132 else none else none))
set_option maxRecDepth 100000 in
set_option maxHeartbeats 4000000 in
theorem t_Mo_carry_105 {X : Xt} {S : Sh} (hS : ShOK S) {d : Nat} (hd : 2 ≤ d + 1) : ∀ (n : Nat) (x0 : Nat) (x1 : Int32) (x2 : Int32) (x3 : Int32) (x4 : Int32) (x5 : Int32) (x6 : Int32) (σ : Mm) (h_x0 : tgT x0 = 12), Rf X S emM (f_Mo_carry_105 n x0 x1 x2 x3 x4 x5 x6 σ) (d + 1) 308 105 [.ref x0, .int x1, .int x2, .int x3, .int x4, .int x5, .int x6] [] σ := by
  intro n
  induction n with
  | zero => intro x0 x1 x2 x3 x4 x5 x6 σ h_x0; exact rf_none
  | succ n ih =>
    intro x0 x1 x2 x3 x4 x5 x6 σ h_x0
    rw [f_Mo_carry_105]
    refine rf_ild (i := 6) (Or.inl ⟨rfl, rfl⟩) c_308_105 rfl ?_
    refine rf_ild (i := 5) (Or.inl ⟨rfl, rfl⟩) c_308_107 rfl ?_
    refine rf_ite (fun hc109 => ?_) (fun hc109 => ?_)
    · refine rf_b2t c_308_109 rfl (decide_eq_true hc109) ?_
      refine rf_iconst c_308_139 ki_0 ?_
      refine rf_ist (i := 6) (Or.inl ⟨rfl, rfl⟩) c_308_140 (Nat.le_of_ble_eq_true rfl) rfl ?_
      exact t_Mo_carry_142 hS hd  NN x0 x3 x4 x5 (0 : Int32) (.int x1) (.int x2) σ h_x0
    · refine rf_b2f c_308_109 rfl (decide_eq_false hc109) ?_
      refine rf_ald (i := 0) (Or.inr ⟨0, rfl, rfl, rfl⟩) c_308_112 rfl ?_
      refine rf_getr hS c_308_113 rfl fl_12_60 rfl h_x0 ?_
      refine rf_ild (i := 6) (Or.inl ⟨rfl, rfl⟩) c_308_116 rfl ?_
      refine rf_ald (i := 0) (Or.inr ⟨0, rfl, rfl, rfl⟩) c_308_118 rfl ?_
      refine rf_getr hS c_308_119 rfl fl_12_57 rfl h_x0 ?_
      refine rf_bipush c_308_122 kb_24 ?_
      refine rf_ild (i := 1) (Or.inr ⟨1, rfl, rfl, rfl⟩) c_308_124 rfl ?_
      refine rf_imul c_308_125 ?_
      refine rf_ild (i := 2) (Or.inr ⟨2, rfl, rfl, rfl⟩) c_308_126 rfl ?_
      refine rf_iadd c_308_127 ?_
      refine rf_ild (i := 6) (Or.inl ⟨rfl, rfl⟩) c_308_128 rfl ?_
      refine rf_iadd c_308_130 ?_
      refine rf_ite (fun hb131 => ?_) (fun _ => rf_none)
      refine rf_iald hS c_308_131 (tf_12_38 h_x0) (lf_12_38 h_x0) hb131 ?_
      refine rf_ite (fun hb132 => ?_) (fun _ => rf_none)
      refine rf_iast hS c_308_132 (tf_12_39 h_x0) (lf_12_39 h_x0) hb132 ?_
      refine rf_nm (fun σ132 => ?_)
      refine rf_iinc c_308_133 rfl ki_1 rfl ?_
      refine rf_goto c_308_136 rfl ?_
      exact ih x0 x1 x2 x3 x4 x5 (x6 + (1 : Int32)) σ132 h_x0
def f_Mo_carry (x0 : Nat) (x1 : Int32) (x2 : Int32) (x3 : Int32) (x4 : Int32) (x5 : Int32) (σ : Mm) : Option (Int32 × Mm) := (f_Mo_isRegister σ x1).bind fun v1 => (if v1 = 0 then (f_Mo_carry_14  σ) else ((f_Mo_isRegister σ x3).bind fun v8 => (if ¬ v8 = 0 then (if inbB x1 10 = true then (if (σ (rfT x0 36) (ix x1)) < 0 then (f_Mo_carry_35  σ) else (if inbB x3 10 = true then (if 0 ≤ (σ (rfT x0 36) (ix x3)) then (if inbB x1 10 = true then if inbB x3 10 = true then (if (σ (rfT x0 36) (ix x1)) = (σ (rfT x0 36) (ix x3)) then (if x2 < 0 then (f_Mo_carry_98  σ) else (if x4 < 0 then (f_Mo_carry_98  σ) else (if x5 < 0 then (f_Mo_carry_98  σ) else (if inbB x1 10 = true then (if ((σ (rfT x0 37) (ix x1)) - x5) < x2 then (f_Mo_carry_98  σ) else (if inbB x3 10 = true then (if x4 ≤ ((σ (rfT x0 37) (ix x3)) - x5) then (f_Mo_carry_105  NN x0 x1 x2 x3 x4 x5 (0 : Int32) σ) else (f_Mo_carry_98  σ)) else none)) else none)))) else (some ((-1000000012 : Int32), σ))) else none else none) else (f_Mo_carry_35  σ)) else none)) else none) else (f_Mo_carry_14  σ))))
set_option maxRecDepth 100000 in
set_option maxHeartbeats 4000000 in
theorem t_Mo_carry_e {X : Xt} {S : Sh} (hS : ShOK S) {d : Nat} (hd : 2 ≤ d + 1) (x0 : Nat) (x1 : Int32) (x2 : Int32) (x3 : Int32) (x4 : Int32) (x5 : Int32) (σ : Mm) (h_x0 : tgT x0 = 12) : Rf X S emM (f_Mo_carry x0 x1 x2 x3 x4 x5 σ) (d + 1) 308 0 [.ref x0, .int x1, .int x2, .int x3, .int x4, .int x5, unset0] [] σ := by
  unfold f_Mo_carry
  refine rf_ild (i := 1) (Or.inr ⟨1, rfl, rfl, rfl⟩) c_308_0 rfl ?_
  refine rf_callI (as := [.int x1]) (kd := 0) c_308_1 rfl (by decide) rfl ml_12_379 (by decide) rfl (rcv_0 rfl) (Nat.zero_le _) rfl rfl (t_Mo_isRegister hS (by omega) σ x1) (fun v1 => ?_)
  refine rf_ite (fun hc4 => ?_) (fun hc4 => ?_)
  · refine rf_b1t c_308_4 rfl (decide_eq_true hc4) ?_
    exact t_Mo_carry_14 hS hd  (.ref x0) (.int x1) (.int x2) (.int x3) (.int x4) (.int x5) (unset0) σ
  · refine rf_b1f c_308_4 rfl (decide_eq_false hc4) ?_
    refine rf_ild (i := 3) (Or.inr ⟨3, rfl, rfl, rfl⟩) c_308_7 rfl ?_
    refine rf_callI (as := [.int x3]) (kd := 0) c_308_8 rfl (by decide) rfl ml_12_379 (by decide) rfl (rcv_0 rfl) (Nat.zero_le _) rfl rfl (t_Mo_isRegister hS (by omega) σ x3) (fun v8 => ?_)
    refine rf_ite (fun hc11 => ?_) (fun hc11 => ?_)
    · refine rf_b1t c_308_11 rfl (decide_eq_true hc11) ?_
      refine rf_ald (i := 0) (Or.inr ⟨0, rfl, rfl, rfl⟩) c_308_17 rfl ?_
      refine rf_getr hS c_308_18 rfl fl_12_51 rfl h_x0 ?_
      refine rf_ild (i := 1) (Or.inr ⟨1, rfl, rfl, rfl⟩) c_308_21 rfl ?_
      refine rf_ite (fun hb22 => ?_) (fun _ => rf_none)
      refine rf_iald hS c_308_22 (tf_12_36 h_x0) (lf_12_36 h_x0) hb22 ?_
      refine rf_ite (fun hc23 => ?_) (fun hc23 => ?_)
      · refine rf_b1t c_308_23 rfl (decide_eq_true hc23) ?_
        exact t_Mo_carry_35 hS hd  (.ref x0) (.int x1) (.int x2) (.int x3) (.int x4) (.int x5) (unset0) σ
      · refine rf_b1f c_308_23 rfl (decide_eq_false hc23) ?_
        refine rf_ald (i := 0) (Or.inr ⟨0, rfl, rfl, rfl⟩) c_308_26 rfl ?_
        refine rf_getr hS c_308_27 rfl fl_12_51 rfl h_x0 ?_
        refine rf_ild (i := 3) (Or.inr ⟨3, rfl, rfl, rfl⟩) c_308_30 rfl ?_
        refine rf_ite (fun hb31 => ?_) (fun _ => rf_none)
        refine rf_iald hS c_308_31 (tf_12_36 h_x0) (lf_12_36 h_x0) hb31 ?_
        refine rf_ite (fun hc32 => ?_) (fun hc32 => ?_)
        · refine rf_b1t c_308_32 rfl (decide_eq_true hc32) ?_
          refine rf_ald (i := 0) (Or.inr ⟨0, rfl, rfl, rfl⟩) c_308_39 rfl ?_
          refine rf_getr hS c_308_40 rfl fl_12_51 rfl h_x0 ?_
          refine rf_ild (i := 1) (Or.inr ⟨1, rfl, rfl, rfl⟩) c_308_43 rfl ?_
          refine rf_ite (fun hb44 => ?_) (fun _ => rf_none)
          refine rf_iald hS c_308_44 (tf_12_36 h_x0) (lf_12_36 h_x0) hb44 ?_
          refine rf_ald (i := 0) (Or.inr ⟨0, rfl, rfl, rfl⟩) c_308_45 rfl ?_
          refine rf_getr hS c_308_46 rfl fl_12_51 rfl h_x0 ?_
          refine rf_ild (i := 3) (Or.inr ⟨3, rfl, rfl, rfl⟩) c_308_49 rfl ?_
          refine rf_ite (fun hb50 => ?_) (fun _ => rf_none)
          refine rf_iald hS c_308_50 (tf_12_36 h_x0) (lf_12_36 h_x0) hb50 ?_
          refine rf_ite (fun hc51 => ?_) (fun hc51 => ?_)
          · refine rf_b2t c_308_51 rfl (decide_eq_true hc51) ?_
            refine rf_ild (i := 2) (Or.inr ⟨2, rfl, rfl, rfl⟩) c_308_57 rfl ?_
            refine rf_ite (fun hc58 => ?_) (fun hc58 => ?_)
            · refine rf_b1t c_308_58 rfl (decide_eq_true hc58) ?_
              exact t_Mo_carry_98 hS hd  (.ref x0) (.int x1) (.int x2) (.int x3) (.int x4) (.int x5) (unset0) σ
            · refine rf_b1f c_308_58 rfl (decide_eq_false hc58) ?_
              refine rf_ild (i := 4) (Or.inl ⟨rfl, rfl⟩) c_308_61 rfl ?_
              refine rf_ite (fun hc63 => ?_) (fun hc63 => ?_)
              · refine rf_b1t c_308_63 rfl (decide_eq_true hc63) ?_
                exact t_Mo_carry_98 hS hd  (.ref x0) (.int x1) (.int x2) (.int x3) (.int x4) (.int x5) (unset0) σ
              · refine rf_b1f c_308_63 rfl (decide_eq_false hc63) ?_
                refine rf_ild (i := 5) (Or.inl ⟨rfl, rfl⟩) c_308_66 rfl ?_
                refine rf_ite (fun hc68 => ?_) (fun hc68 => ?_)
                · refine rf_b1t c_308_68 rfl (decide_eq_true hc68) ?_
                  exact t_Mo_carry_98 hS hd  (.ref x0) (.int x1) (.int x2) (.int x3) (.int x4) (.int x5) (unset0) σ
                · refine rf_b1f c_308_68 rfl (decide_eq_false hc68) ?_
                  refine rf_ild (i := 2) (Or.inr ⟨2, rfl, rfl, rfl⟩) c_308_71 rfl ?_
                  refine rf_ald (i := 0) (Or.inr ⟨0, rfl, rfl, rfl⟩) c_308_72 rfl ?_
                  refine rf_getr hS c_308_73 rfl fl_12_54 rfl h_x0 ?_
                  refine rf_ild (i := 1) (Or.inr ⟨1, rfl, rfl, rfl⟩) c_308_76 rfl ?_
                  refine rf_ite (fun hb77 => ?_) (fun _ => rf_none)
                  refine rf_iald hS c_308_77 (tf_12_37 h_x0) (lf_12_37 h_x0) hb77 ?_
                  refine rf_ild (i := 5) (Or.inl ⟨rfl, rfl⟩) c_308_78 rfl ?_
                  refine rf_isub c_308_80 ?_
                  refine rf_ite (fun hc81 => ?_) (fun hc81 => ?_)
                  · refine rf_b2t c_308_81 rfl (decide_eq_true hc81) ?_
                    exact t_Mo_carry_98 hS hd  (.ref x0) (.int x1) (.int x2) (.int x3) (.int x4) (.int x5) (unset0) σ
                  · refine rf_b2f c_308_81 rfl (decide_eq_false hc81) ?_
                    refine rf_ild (i := 4) (Or.inl ⟨rfl, rfl⟩) c_308_84 rfl ?_
                    refine rf_ald (i := 0) (Or.inr ⟨0, rfl, rfl, rfl⟩) c_308_86 rfl ?_
                    refine rf_getr hS c_308_87 rfl fl_12_54 rfl h_x0 ?_
                    refine rf_ild (i := 3) (Or.inr ⟨3, rfl, rfl, rfl⟩) c_308_90 rfl ?_
                    refine rf_ite (fun hb91 => ?_) (fun _ => rf_none)
                    refine rf_iald hS c_308_91 (tf_12_37 h_x0) (lf_12_37 h_x0) hb91 ?_
                    refine rf_ild (i := 5) (Or.inl ⟨rfl, rfl⟩) c_308_92 rfl ?_
                    refine rf_isub c_308_94 ?_
                    refine rf_ite (fun hc95 => ?_) (fun hc95 => ?_)
                    · refine rf_b2t c_308_95 rfl (decide_eq_true hc95) ?_
                      refine rf_iconst c_308_102 ki_0 ?_
                      refine rf_ist (i := 6) (Or.inl ⟨rfl, rfl⟩) c_308_103 (Nat.le_of_ble_eq_true rfl) rfl ?_
                      exact t_Mo_carry_105 hS hd  NN x0 x1 x2 x3 x4 x5 (0 : Int32) σ h_x0
                    · refine rf_b2f c_308_95 rfl (decide_eq_false hc95) ?_
                      exact t_Mo_carry_98 hS hd  (.ref x0) (.int x1) (.int x2) (.int x3) (.int x4) (.int x5) (unset0) σ
          · refine rf_b2f c_308_51 rfl (decide_eq_false hc51) ?_
            refine rf_ldc (Or.inl ⟨rfl, rfl⟩) c_308_54 rfl kl_12_154 ?_
            exact rf_ret c_308_56 rfl rfl rfl rfl
        · refine rf_b1f c_308_32 rfl (decide_eq_false hc32) ?_
          exact t_Mo_carry_35 hS hd  (.ref x0) (.int x1) (.int x2) (.int x3) (.int x4) (.int x5) (unset0) σ
    · refine rf_b1f c_308_11 rfl (decide_eq_false hc11) ?_
      exact t_Mo_carry_14 hS hd  (.ref x0) (.int x1) (.int x2) (.int x3) (.int x4) (.int x5) (unset0) σ
theorem t_Mo_carry {X : Xt} {S : Sh} (hS : ShOK S) {d : Nat} (hd : 2 ≤ d) (x0 : Nat) (x1 : Int32) (x2 : Int32) (x3 : Int32) (x4 : Int32) (x5 : Int32) (σ : Mm) (h_x0 : tgT x0 = 12) : Rf X S emM (f_Mo_carry x0 x1 x2 x3 x4 x5 σ) d 308 0 [.ref x0, .int x1, .int x2, .int x3, .int x4, .int x5, unset0] [] σ := by
  obtain ⟨d1, rfl⟩ : ∃ d1, d = d1 + 1 := ⟨d - 1, by omega⟩
  exact t_Mo_carry_e hS hd x0 x1 x2 x3 x4 x5 σ h_x0
