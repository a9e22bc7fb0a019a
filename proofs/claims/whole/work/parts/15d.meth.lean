/-! methods: Tb_changePass Tp_appendFour Tp_append Tp_shorten Tp_advance Tp_readHead Tp_readAtom Tp_readOr Tp_readAnd Tp_readNot Tp_putToken Tp_sortOf Tp_endOf Tp_tokenOfNumber Tp_placeAmong Tp_tokenOfWord Tp_tokenOf Tp_cut Tp_readRule Tp_placeOfFault Wf_rememberIfBetter Wf_stepTo Wf_seek Wf_answer Ct_office Ct_isNoneOrWithin -/
theorem c_91_0 : cd 91 0 = some (.aload_n 0, 1) := by decide +kernel
theorem c_91_1 : cd 91 1 = some (.iload_n 1, 1) := by decide +kernel
theorem c_91_2 : cd 91 2 = some (.iload_n 2, 1) := by decide +kernel
theorem c_91_3 : cd 91 3 = some (.invokevirtual 47, 3) := by decide +kernel
theorem c_91_6 : cd 91 6 = some (.istore 4, 2) := by decide +kernel
theorem c_91_8 : cd 91 8 = some (.aload_n 0, 1) := by decide +kernel
theorem c_91_9 : cd 91 9 = some (.getfield 21, 3) := by decide +kernel
theorem c_91_12 : cd 91 12 = some (.iload_n 1, 1) := by decide +kernel
theorem c_91_13 : cd 91 13 = some (.iload_n 3, 1) := by decide +kernel
theorem c_91_14 : cd 91 14 = some (.ifCond .eq (16), 3) := by decide +kernel
theorem c_91_17 : cd 91 17 = some (.aload_n 0, 1) := by decide +kernel
theorem c_91_18 : cd 91 18 = some (.getfield 21, 3) := by decide +kernel
theorem c_91_21 : cd 91 21 = some (.iload_n 1, 1) := by decide +kernel
theorem c_91_22 : cd 91 22 = some (.iaload, 1) := by decide +kernel
theorem c_91_23 : cd 91 23 = some (.iconst (1), 1) := by decide +kernel
theorem c_91_24 : cd 91 24 = some (.iload_n 2, 1) := by decide +kernel
theorem c_91_25 : cd 91 25 = some (.ishl, 1) := by decide +kernel
theorem c_91_26 : cd 91 26 = some (.ior, 1) := by decide +kernel
theorem c_91_27 : cd 91 27 = some (.goto (15), 3) := by decide +kernel
theorem c_91_30 : cd 91 30 = some (.aload_n 0, 1) := by decide +kernel
theorem c_91_31 : cd 91 31 = some (.getfield 21, 3) := by decide +kernel
theorem c_91_34 : cd 91 34 = some (.iload_n 1, 1) := by decide +kernel
theorem c_91_35 : cd 91 35 = some (.iaload, 1) := by decide +kernel
theorem c_91_36 : cd 91 36 = some (.iconst (1), 1) := by decide +kernel
theorem c_91_37 : cd 91 37 = some (.iload_n 2, 1) := by decide +kernel
theorem c_91_38 : cd 91 38 = some (.ishl, 1) := by decide +kernel
theorem c_91_39 : cd 91 39 = some (.iconst (-1), 1) := by decide +kernel
theorem c_91_40 : cd 91 40 = some (.ixor, 1) := by decide +kernel
theorem c_91_41 : cd 91 41 = some (.iand, 1) := by decide +kernel
theorem c_91_42 : cd 91 42 = some (.iastore, 1) := by decide +kernel
theorem c_91_43 : cd 91 43 = some (.iload 4, 2) := by decide +kernel
theorem c_91_45 : cd 91 45 = some (.ireturn, 1) := by decide +kernel
def f_Tb_changePass_42 (x4 : Int32) (y0 : Nat) (y1 : Int32) (y2 : Int32) (σ : Mm) : Option (Int32 × Mm) := if inbB y1 6 = true then nmM (up2 σ y0 (ix y1) y2) fun σ42 => if zB x4 = true then some (x4, σ42) else none else none
set_option maxRecDepth 100000 in
set_option maxHeartbeats 4000000 in
theorem t_Tb_changePass_42 {X : Xt} {S : Sh} (hS : ShOK S) {d : Nat} (hd : 1 ≤ d + 1) (x4 : Int32) (y0 : Nat) (y1 : Int32) (y2 : Int32) (u0 : Value) (u1 : Value) (u2 : Value) (u3 : Value) (σ : Mm) (h_y0 : tgT y0 = 20) (l_y0 : lnT y0 = 6) : Rf X S emM (f_Tb_changePass_42 x4 y0 y1 y2 σ) (d + 1) 91 42 [u0, u1, u2, u3, .int x4] [.int y2, .int y1, .ref y0] σ := by
  unfold f_Tb_changePass_42
  refine rf_ite (fun hb42 => ?_) (fun _ => rf_none)
  refine rf_iast hS c_91_42 h_y0 l_y0 hb42 ?_
  refine rf_nm (fun σ42 => ?_)
  refine rf_ild (i := 4) (Or.inl ⟨rfl, rfl⟩) c_91_43 rfl ?_
  refine rf_ite (fun hq45 => ?_) (fun _ => rf_none)
  exact rf_ret c_91_45 rfl (zB_n hq45) rfl rfl
def f_Tb_changePass (x0 : Nat) (x1 : Int32) (x2 : Int32) (x3 : Int32) (σ : Mm) : Option (Int32 × Mm) := (f_Tb_mayPass σ x0 x1 x2).bind fun v3 => (if x3 = 0 then (if inbB x1 6 = true then f_Tb_changePass_42  v3 (rfT x0 3) x1 ((σ (rfT x0 3) (ix x1)) &&& (((1 : Int32) <<< (x2 &&& 31)) ^^^ (-1 : Int32))) σ else none) else (if inbB x1 6 = true then f_Tb_changePass_42  v3 (rfT x0 3) x1 ((σ (rfT x0 3) (ix x1)) ||| ((1 : Int32) <<< (x2 &&& 31))) σ else none))
set_option maxRecDepth 100000 in
set_option maxHeartbeats 4000000 in
theorem t_Tb_changePass_e {X : Xt} {S : Sh} (hS : ShOK S) {d : Nat} (hd : 1 ≤ d + 1) (x0 : Nat) (x1 : Int32) (x2 : Int32) (x3 : Int32) (σ : Mm) (h_x0 : tgT x0 = 8) : Rf X S emM (f_Tb_changePass x0 x1 x2 x3 σ) (d + 1) 91 0 [.ref x0, .int x1, .int x2, .int x3, unset0] [] σ := by
  unfold f_Tb_changePass
  refine rf_ald (i := 0) (Or.inr ⟨0, rfl, rfl, rfl⟩) c_91_0 rfl ?_
  refine rf_ild (i := 1) (Or.inr ⟨1, rfl, rfl, rfl⟩) c_91_1 rfl ?_
  refine rf_ild (i := 2) (Or.inr ⟨2, rfl, rfl, rfl⟩) c_91_2 rfl ?_
  refine rf_callI (as := [.ref x0, .int x1, .int x2]) (kd := 1) c_91_3 rfl (by decide) rfl ml_8_47 (by decide) rfl (rcv_1 hS rfl rfl h_x0 (by decide)) (Nat.zero_le _) rfl rfl (t_Tb_mayPass hS (by omega) σ x0 x1 x2 h_x0) (fun v3 => ?_)
  refine rf_ist (i := 4) (Or.inl ⟨rfl, rfl⟩) c_91_6 (Nat.le_of_ble_eq_true rfl) rfl ?_
  refine rf_ald (i := 0) (Or.inr ⟨0, rfl, rfl, rfl⟩) c_91_8 rfl ?_
  refine rf_getr hS c_91_9 rfl fl_8_21 rfl h_x0 ?_
  refine rf_ild (i := 1) (Or.inr ⟨1, rfl, rfl, rfl⟩) c_91_12 rfl ?_
  refine rf_ild (i := 3) (Or.inr ⟨3, rfl, rfl, rfl⟩) c_91_13 rfl ?_
  refine rf_ite (fun hc14 => ?_) (fun hc14 => ?_)
  · refine rf_b1t c_91_14 rfl (decide_eq_true hc14) ?_
    refine rf_ald (i := 0) (Or.inr ⟨0, rfl, rfl, rfl⟩) c_91_30 rfl ?_
    refine rf_getr hS c_91_31 rfl fl_8_21 rfl h_x0 ?_
    refine rf_ild (i := 1) (Or.inr ⟨1, rfl, rfl, rfl⟩) c_91_34 rfl ?_
    refine rf_ite (fun hb35 => ?_) (fun _ => rf_none)
    refine rf_iald hS c_91_35 (tf_8_3 h_x0) (lf_8_3 h_x0) hb35 ?_
    refine rf_iconst c_91_36 ki_1 ?_
    refine rf_ild (i := 2) (Or.inr ⟨2, rfl, rfl, rfl⟩) c_91_37 rfl ?_
    refine rf_ishl c_91_38 ?_
    refine rf_iconst c_91_39 ki_m1 ?_
    refine rf_ixor c_91_40 ?_
    refine rf_iand c_91_41 ?_
    exact t_Tb_changePass_42 hS hd  v3 (rfT x0 3) x1 ((σ (rfT x0 3) (ix x1)) &&& (((1 : Int32) <<< (x2 &&& 31)) ^^^ (-1 : Int32))) (.ref x0) (.int x1) (.int x2) (.int x3) σ (tf_8_3 h_x0) (lf_8_3 h_x0)
  · refine rf_b1f c_91_14 rfl (decide_eq_false hc14) ?_
    refine rf_ald (i := 0) (Or.inr ⟨0, rfl, rfl, rfl⟩) c_91_17 rfl ?_
    refine rf_getr hS c_91_18 rfl fl_8_21 rfl h_x0 ?_
    refine rf_ild (i := 1) (Or.inr ⟨1, rfl, rfl, rfl⟩) c_91_21 rfl ?_
    refine rf_ite (fun hb22 => ?_) (fun _ => rf_none)
    refine rf_iald hS c_91_22 (tf_8_3 h_x0) (lf_8_3 h_x0) hb22 ?_
    refine rf_iconst c_91_23 ki_1 ?_
    refine rf_ild (i := 2) (Or.inr ⟨2, rfl, rfl, rfl⟩) c_91_24 rfl ?_
    refine rf_ishl c_91_25 ?_
    refine rf_ior c_91_26 ?_
    refine rf_goto c_91_27 rfl ?_
    exact t_Tb_changePass_42 hS hd  v3 (rfT x0 3) x1 ((σ (rfT x0 3) (ix x1)) ||| ((1 : Int32) <<< (x2 &&& 31))) (.ref x0) (.int x1) (.int x2) (.int x3) σ (tf_8_3 h_x0) (lf_8_3 h_x0)
theorem t_Tb_changePass {X : Xt} {S : Sh} (hS : ShOK S) {d : Nat} (hd : 1 ≤ d) (x0 : Nat) (x1 : Int32) (x2 : Int32) (x3 : Int32) (σ : Mm) (h_x0 : tgT x0 = 8) : Rf X S emM (f_Tb_changePass x0 x1 x2 x3 σ) d 91 0 [.ref x0, .int x1, .int x2, .int x3, unset0] [] σ := by
  obtain ⟨d1, rfl⟩ : ∃ d1, d = d1 + 1 := ⟨d - 1, by omega⟩
  exact t_Tb_changePass_e hS hd x0 x1 x2 x3 σ h_x0
theorem c_94_0 : cd 94 0 = some (.bipush (24), 2) := by decide +kernel
theorem c_94_2 : cd 94 2 = some (.istore_n 2, 1) := by decide +kernel
theorem c_94_3 : cd 94 3 = some (.iload_n 2, 1) := by decide +kernel
theorem c_94_4 : cd 94 4 = some (.ifCond .lt (41), 3) := by decide +kernel
theorem c_94_7 : cd 94 7 = some (.aload_n 0, 1) := by decide +kernel
theorem c_94_8 : cd 94 8 = some (.getfield 32, 3) := by decide +kernel
theorem c_94_11 : cd 94 11 = some (.bipush (96), 2) := by decide +kernel
theorem c_94_13 : cd 94 13 = some (.if_icmp .ge (32), 3) := by decide +kernel
theorem c_94_16 : cd 94 16 = some (.aload_n 0, 1) := by decide +kernel
theorem c_94_17 : cd 94 17 = some (.getfield 9, 3) := by decide +kernel
theorem c_94_20 : cd 94 20 = some (.aload_n 0, 1) := by decide +kernel
theorem c_94_21 : cd 94 21 = some (.getfield 32, 3) := by decide +kernel
theorem c_94_24 : cd 94 24 = some (.iload_n 1, 1) := by decide +kernel
theorem c_94_25 : cd 94 25 = some (.iload_n 2, 1) := by decide +kernel
theorem c_94_26 : cd 94 26 = some (.ishr, 1) := by decide +kernel
theorem c_94_27 : cd 94 27 = some (.i2b, 1) := by decide +kernel
theorem c_94_28 : cd 94 28 = some (.bastore, 1) := by decide +kernel
theorem c_94_29 : cd 94 29 = some (.aload_n 0, 1) := by decide +kernel
theorem c_94_30 : cd 94 30 = some (.dup, 1) := by decide +kernel
theorem c_94_31 : cd 94 31 = some (.getfield 32, 3) := by decide +kernel
theorem c_94_34 : cd 94 34 = some (.iconst (1), 1) := by decide +kernel
theorem c_94_35 : cd 94 35 = some (.iadd, 1) := by decide +kernel
theorem c_94_36 : cd 94 36 = some (.putfield 32, 3) := by decide +kernel
theorem c_94_39 : cd 94 39 = some (.iinc 2 (-8), 3) := by decide +kernel
theorem c_94_42 : cd 94 42 = some (.goto (-39), 3) := by decide +kernel
theorem c_94_45 : cd 94 45 = some (.return_, 1) := by decide +kernel
def f_Tp_appendFour_45 (σ : Mm) : Option Mm := some σ
set_option maxRecDepth 100000 in
set_option maxHeartbeats 4000000 in
theorem t_Tp_appendFour_45 {X : Xt} {S : Sh} (hS : ShOK S) {d : Nat} (hd : 0 ≤ d) (u0 : Value) (u1 : Value) (u2 : Value) (σ : Mm) : Rf X S emV (f_Tp_appendFour_45 σ) d 94 45 [u0, u1, u2] [] σ := by
  unfold f_Tp_appendFour_45
  exact rf_vret c_94_45 rfl rfl
def f_Tp_appendFour_3 : Nat → Nat → Int32 → Int32 → Mm → Option Mm
  | 0, _, _, _, _ => none
  | n + 1, x0, x1, x2, σ => (if x2 < 0 then (f_Tp_appendFour_45  σ) else (if (96 : Int32) ≤ (σ x0 5) then (f_Tp_appendFour_45  σ) else (if inbB (σ x0 5) 96 = true then nmM (up2 σ (rfT x0 0) (ix (σ x0 5)) (vp_nar .byte ((x1 >>> (x2 &&& 31)).toInt8.toInt32))) fun σ28 => nmM (up2 σ28 x0 5 ((σ28 x0 5) + (1 : Int32))) fun σ36 => f_Tp_appendFour_3  n x0 x1 (x2 + (-8 : Int32)) σ36 else none)))
set_option maxRecDepth 100000 in
set_option maxHeartbeats 4000000 in
theorem t_Tp_appendFour_3 {X : Xt} {S : Sh} (hS : ShOK S) {d : Nat} (hd : 0 ≤ d) : ∀ (n : Nat) (x0 : Nat) (x1 : Int32) (x2 : Int32) (σ : Mm) (h_x0 : tgT x0 = 9), Rf X S emV (f_Tp_appendFour_3 n x0 x1 x2 σ) d 94 3 [.ref x0, .int x1, .int x2] [] σ := by
  intro n
  induction n with
  | zero => intro x0 x1 x2 σ h_x0; exact rf_none
  | succ n ih =>
    intro x0 x1 x2 σ h_x0
    rw [f_Tp_appendFour_3]
    refine rf_ild (i := 2) (Or.inr ⟨2, rfl, rfl, rfl⟩) c_94_3 rfl ?_
    refine rf_ite (fun hc4 => ?_) (fun hc4 => ?_)
    · refine rf_b1t c_94_4 rfl (decide_eq_true hc4) ?_
      exact t_Tp_appendFour_45 hS hd  (.ref x0) (.int x1) (.int x2) σ
    · refine rf_b1f c_94_4 rfl (decide_eq_false hc4) ?_
      refine rf_ald (i := 0) (Or.inr ⟨0, rfl, rfl, rfl⟩) c_94_7 rfl ?_
      refine rf_geti hS c_94_8 rfl fl_9_32 rfl h_x0 ?_
      refine rf_bipush c_94_11 kb_96 ?_
      refine rf_ite (fun hc13 => ?_) (fun hc13 => ?_)
      · refine rf_b2t c_94_13 rfl (decide_eq_true hc13) ?_
        exact t_Tp_appendFour_45 hS hd  (.ref x0) (.int x1) (.int x2) σ
      · refine rf_b2f c_94_13 rfl (decide_eq_false hc13) ?_
        refine rf_ald (i := 0) (Or.inr ⟨0, rfl, rfl, rfl⟩) c_94_16 rfl ?_
        refine rf_getr hS c_94_17 rfl fl_9_9 rfl h_x0 ?_
        refine rf_ald (i := 0) (Or.inr ⟨0, rfl, rfl, rfl⟩) c_94_20 rfl ?_
        refine rf_geti hS c_94_21 rfl fl_9_32 rfl h_x0 ?_
        refine rf_ild (i := 1) (Or.inr ⟨1, rfl, rfl, rfl⟩) c_94_24 rfl ?_
        refine rf_ild (i := 2) (Or.inr ⟨2, rfl, rfl, rfl⟩) c_94_25 rfl ?_
        refine rf_ishr c_94_26 ?_
        refine rf_i2b c_94_27 ?_
        refine rf_ite (fun hb28 => ?_) (fun _ => rf_none)
        refine rf_bast (w := (vp_nar .byte ((x1 >>> (x2 &&& 31)).toInt8.toInt32))) hS c_94_28 (Or.inl ⟨(tf_9_0 h_x0), rfl⟩) (lf_9_0 h_x0) hb28 ?_
        refine rf_nm (fun σ28 => ?_)
        refine rf_ald (i := 0) (Or.inr ⟨0, rfl, rfl, rfl⟩) c_94_29 rfl ?_
        refine rf_dup c_94_30 rfl ?_
        refine rf_geti hS c_94_31 rfl fl_9_32 rfl h_x0 ?_
        refine rf_iconst c_94_34 ki_1 ?_
        refine rf_iadd c_94_35 ?_
        refine rf_puti hS c_94_36 rfl fl_9_32 rfl rfl rfl rfl h_x0 ?_
        refine rf_nm (fun σ36 => ?_)
        refine rf_iinc c_94_39 rfl ki_m8 rfl ?_
        refine rf_goto c_94_42 rfl ?_
        exact ih x0 x1 (x2 + (-8 : Int32)) σ36 h_x0
def f_Tp_appendFour (x0 : Nat) (x1 : Int32) (σ : Mm) : Option Mm := f_Tp_appendFour_3  NN x0 x1 (24 : Int32) σ
set_option maxRecDepth 100000 in
set_option maxHeartbeats 4000000 in
theorem t_Tp_appendFour {X : Xt} {S : Sh} (hS : ShOK S) {d : Nat} (hd : 0 ≤ d) (x0 : Nat) (x1 : Int32) (σ : Mm) (h_x0 : tgT x0 = 9) : Rf X S emV (f_Tp_appendFour x0 x1 σ) d 94 0 [.ref x0, .int x1, unset0] [] σ := by
  unfold f_Tp_appendFour
  refine rf_bipush c_94_0 kb_24 ?_
  refine rf_ist (i := 2) (Or.inr ⟨2, rfl, rfl, rfl⟩) c_94_2 (Nat.le_of_ble_eq_true rfl) rfl ?_
  exact t_Tp_appendFour_3 hS hd  NN x0 x1 (24 : Int32) σ h_x0
theorem c_93_0 : cd 93 0 = some (.aload_n 0, 1) := by decide +kernel
theorem c_93_1 : cd 93 1 = some (.getfield 32, 3) := by decide +kernel
theorem c_93_4 : cd 93 4 = some (.bipush (84), 2) := by decide +kernel
theorem c_93_6 : cd 93 6 = some (.if_icmp .le (6), 3) := by decide +kernel
theorem c_93_9 : cd 93 9 = some (.ldc 36, 2) := by decide +kernel
theorem c_93_11 : cd 93 11 = some (.ireturn, 1) := by decide +kernel
theorem c_93_12 : cd 93 12 = some (.aload_n 0, 1) := by decide +kernel
theorem c_93_13 : cd 93 13 = some (.iload_n 1, 1) := by decide +kernel
theorem c_93_14 : cd 93 14 = some (.invokevirtual 37, 3) := by decide +kernel
theorem c_93_17 : cd 93 17 = some (.aload_n 0, 1) := by decide +kernel
theorem c_93_18 : cd 93 18 = some (.iload_n 2, 1) := by decide +kernel
theorem c_93_19 : cd 93 19 = some (.invokevirtual 37, 3) := by decide +kernel
theorem c_93_22 : cd 93 22 = some (.aload_n 0, 1) := by decide +kernel
theorem c_93_23 : cd 93 23 = some (.iload_n 3, 1) := by decide +kernel
theorem c_93_24 : cd 93 24 = some (.invokevirtual 37, 3) := by decide +kernel
theorem c_93_27 : cd 93 27 = some (.aload_n 0, 1) := by decide +kernel
theorem c_93_28 : cd 93 28 = some (.getfield 32, 3) := by decide +kernel
theorem c_93_31 : cd 93 31 = some (.ireturn, 1) := by decide +kernel
def f_Tp_append (x0 : Nat) (x1 : Int32) (x2 : Int32) (x3 : Int32) (σ : Mm) : Option (Int32 × Mm) := (if (σ x0 5) ≤ (84 : Int32) then ((f_Tp_appendFour x0 x1 σ).bind fun v14 => (f_Tp_appendFour x0 x2 v14).bind fun v19 => (f_Tp_appendFour x0 x3 v19).bind fun v24 => some ((v24 x0 5), v24)) else (some ((-1000000003 : Int32), σ)))
set_option maxRecDepth 100000 in
set_option maxHeartbeats 4000000 in
theorem t_Tp_append_e {X : Xt} {S : Sh} (hS : ShOK S) {d : Nat} (hd : 1 ≤ d + 1) (x0 : Nat) (x1 : Int32) (x2 : Int32) (x3 : Int32) (σ : Mm) (h_x0 : tgT x0 = 9) : Rf X S emM (f_Tp_append x0 x1 x2 x3 σ) (d + 1) 93 0 [.ref x0, .int x1, .int x2, .int x3] [] σ := by
  unfold f_Tp_append
  refine rf_ald (i := 0) (Or.inr ⟨0, rfl, rfl, rfl⟩) c_93_0 rfl ?_
  refine rf_geti hS c_93_1 rfl fl_9_32 rfl h_x0 ?_
  refine rf_bipush c_93_4 kb_84 ?_
  refine rf_ite (fun hc6 => ?_) (fun hc6 => ?_)
  · refine rf_b2t c_93_6 rfl (decide_eq_true hc6) ?_
    refine rf_ald (i := 0) (Or.inr ⟨0, rfl, rfl, rfl⟩) c_93_12 rfl ?_
    refine rf_ild (i := 1) (Or.inr ⟨1, rfl, rfl, rfl⟩) c_93_13 rfl ?_
    refine rf_callV (as := [.ref x0, .int x1]) (kd := 1) c_93_14 rfl (by decide) rfl ml_9_37 (by decide) rfl (rcv_1 hS rfl rfl h_x0 (by decide)) (Nat.zero_le _) rfl rfl (t_Tp_appendFour hS (by omega) x0 x1 σ h_x0) (fun v14 => ?_)
    refine rf_ald (i := 0) (Or.inr ⟨0, rfl, rfl, rfl⟩) c_93_17 rfl ?_
    refine rf_ild (i := 2) (Or.inr ⟨2, rfl, rfl, rfl⟩) c_93_18 rfl ?_
    refine rf_callV (as := [.ref x0, .int x2]) (kd := 1) c_93_19 rfl (by decide) rfl ml_9_37 (by decide) rfl (rcv_1 hS rfl rfl h_x0 (by decide)) (Nat.zero_le _) rfl rfl (t_Tp_appendFour hS (by omega) x0 x2 v14 h_x0) (fun v19 => ?_)
    refine rf_ald (i := 0) (Or.inr ⟨0, rfl, rfl, rfl⟩) c_93_22 rfl ?_
    refine rf_ild (i := 3) (Or.inr ⟨3, rfl, rfl, rfl⟩) c_93_23 rfl ?_
    refine rf_callV (as := [.ref x0, .int x3]) (kd := 1) c_93_24 rfl (by decide) rfl ml_9_37 (by decide) rfl (rcv_1 hS rfl rfl h_x0 (by decide)) (Nat.zero_le _) rfl rfl (t_Tp_appendFour hS (by omega) x0 x3 v19 h_x0) (fun v24 => ?_)
    refine rf_ald (i := 0) (Or.inr ⟨0, rfl, rfl, rfl⟩) c_93_27 rfl ?_
    refine rf_geti hS c_93_28 rfl fl_9_32 rfl h_x0 ?_
    exact rf_ret c_93_31 rfl rfl rfl rfl
  · refine rf_b2f c_93_6 rfl (decide_eq_false hc6) ?_
    refine rf_ldc (Or.inl ⟨rfl, rfl⟩) c_93_9 rfl kl_9_36 ?_
    exact rf_ret c_93_11 rfl rfl rfl rfl
theorem t_Tp_append {X : Xt} {S : Sh} (hS : ShOK S) {d : Nat} (hd : 1 ≤ d) (x0 : Nat) (x1 : Int32) (x2 : Int32) (x3 : Int32) (σ : Mm) (h_x0 : tgT x0 = 9) : Rf X S emM (f_Tp_append x0 x1 x2 x3 σ) d 93 0 [.ref x0, .int x1, .int x2, .int x3] [] σ := by
  obtain ⟨d1, rfl⟩ : ∃ d1, d = d1 + 1 := ⟨d - 1, by omega⟩
  exact t_Tp_append_e hS hd x0 x1 x2 x3 σ h_x0
theorem c_95_0 : cd 95 0 = some (.iload_n 1, 1) := by decide +kernel
theorem c_95_1 : cd 95 1 = some (.iconst (0), 1) := by decide +kernel
theorem c_95_2 : cd 95 2 = some (.aload_n 0, 1) := by decide +kernel
theorem c_95_3 : cd 95 3 = some (.getfield 32, 3) := by decide +kernel
theorem c_95_6 : cd 95 6 = some (.invokestatic 41, 3) := by decide +kernel
theorem c_95_9 : cd 95 9 = some (.ifCond .ne (6), 3) := by decide +kernel
theorem c_95_12 : cd 95 12 = some (.ldc 45, 2) := by decide +kernel
theorem c_95_14 : cd 95 14 = some (.ireturn, 1) := by decide +kernel
theorem c_95_15 : cd 95 15 = some (.aload_n 0, 1) := by decide +kernel
theorem c_95_16 : cd 95 16 = some (.iload_n 1, 1) := by decide +kernel
theorem c_95_17 : cd 95 17 = some (.putfield 32, 3) := by decide +kernel
theorem c_95_20 : cd 95 20 = some (.iload_n 1, 1) := by decide +kernel
theorem c_95_21 : cd 95 21 = some (.ireturn, 1) := by decide +kernel
def f_Tp_shorten (x0 : Nat) (x1 : Int32) (σ : Mm) : Option (Int32 × Mm) := (f_Ct_isWithin σ x1 (0 : Int32) (σ x0 5)).bind fun v6 => (if ¬ v6 = 0 then (nmM (up2 σ x0 5 x1) fun σ17 => some (x1, σ17)) else (some ((-1000000001 : Int32), σ)))
set_option maxRecDepth 100000 in
set_option maxHeartbeats 4000000 in
theorem t_Tp_shorten_e {X : Xt} {S : Sh} (hS : ShOK S) {d : Nat} (hd : 1 ≤ d + 1) (x0 : Nat) (x1 : Int32) (σ : Mm) (h_x0 : tgT x0 = 9) : Rf X S emM (f_Tp_shorten x0 x1 σ) (d + 1) 95 0 [.ref x0, .int x1] [] σ := by
  unfold f_Tp_shorten
  refine rf_ild (i := 1) (Or.inr ⟨1, rfl, rfl, rfl⟩) c_95_0 rfl ?_
  refine rf_iconst c_95_1 ki_0 ?_
  refine rf_ald (i := 0) (Or.inr ⟨0, rfl, rfl, rfl⟩) c_95_2 rfl ?_
  refine rf_geti hS c_95_3 rfl fl_9_32 rfl h_x0 ?_
  refine rf_callI (as := [.int x1, .int (0 : Int32), .int (σ x0 5)]) (kd := 0) c_95_6 rfl (by decide) rfl ml_9_41 (by decide) rfl (rcv_0 rfl) (Nat.zero_le _) rfl rfl (t_Ct_isWithin hS (by omega) σ x1 (0 : Int32) (σ x0 5)) (fun v6 => ?_)
  refine rf_ite (fun hc9 => ?_) (fun hc9 => ?_)
  · refine rf_b1t c_95_9 rfl (decide_eq_true hc9) ?_
    refine rf_ald (i := 0) (Or.inr ⟨0, rfl, rfl, rfl⟩) c_95_15 rfl ?_
    refine rf_ild (i := 1) (Or.inr ⟨1, rfl, rfl, rfl⟩) c_95_16 rfl ?_
    refine rf_puti hS c_95_17 rfl fl_9_32 rfl rfl rfl rfl h_x0 ?_
    refine rf_nm (fun σ17 => ?_)
    refine rf_ild (i := 1) (Or.inr ⟨1, rfl, rfl, rfl⟩) c_95_20 rfl ?_
    exact rf_ret c_95_21 rfl rfl rfl rfl
  · refine rf_b1f c_95_9 rfl (decide_eq_false hc9) ?_
    refine rf_ldc (Or.inl ⟨rfl, rfl⟩) c_95_12 rfl kl_9_45 ?_
    exact rf_ret c_95_14 rfl rfl rfl rfl
theorem t_Tp_shorten {X : Xt} {S : Sh} (hS : ShOK S) {d : Nat} (hd : 1 ≤ d) (x0 : Nat) (x1 : Int32) (σ : Mm) (h_x0 : tgT x0 = 9) : Rf X S emM (f_Tp_shorten x0 x1 σ) d 95 0 [.ref x0, .int x1] [] σ := by
  obtain ⟨d1, rfl⟩ : ∃ d1, d = d1 + 1 := ⟨d - 1, by omega⟩
  exact t_Tp_shorten_e hS hd x0 x1 σ h_x0
theorem c_98_0 : cd 98 0 = some (.aload_n 0, 1) := by decide +kernel
theorem c_98_1 : cd 98 1 = some (.getfield 52, 3) := by decide +kernel
theorem c_98_4 : cd 98 4 = some (.aload_n 0, 1) := by decide +kernel
theorem c_98_5 : cd 98 5 = some (.getfield 75, 3) := by decide +kernel
theorem c_98_8 : cd 98 8 = some (.if_icmp .ge (26), 3) := by decide +kernel
theorem c_98_11 : cd 98 11 = some (.aload_n 0, 1) := by decide +kernel
theorem c_98_12 : cd 98 12 = some (.dup, 1) := by decide +kernel
theorem c_98_13 : cd 98 13 = some (.getfield 52, 3) := by decide +kernel
theorem c_98_16 : cd 98 16 = some (.iconst (1), 1) := by decide +kernel
theorem c_98_17 : cd 98 17 = some (.iadd, 1) := by decide +kernel
theorem c_98_18 : cd 98 18 = some (.putfield 52, 3) := by decide +kernel
theorem c_98_21 : cd 98 21 = some (.aload_n 0, 1) := by decide +kernel
theorem c_98_22 : cd 98 22 = some (.aload_n 0, 1) := by decide +kernel
theorem c_98_23 : cd 98 23 = some (.getfield 15, 3) := by decide +kernel
theorem c_98_26 : cd 98 26 = some (.aload_n 0, 1) := by decide +kernel
theorem c_98_27 : cd 98 27 = some (.getfield 52, 3) := by decide +kernel
theorem c_98_30 : cd 98 30 = some (.iaload, 1) := by decide +kernel
theorem c_98_31 : cd 98 31 = some (.putfield 55, 3) := by decide +kernel
theorem c_98_34 : cd 98 34 = some (.return_, 1) := by decide +kernel
def f_Tp_advance_34 (σ : Mm) : Option Mm := some σ
set_option maxRecDepth 100000 in
set_option maxHeartbeats 4000000 in
theorem t_Tp_advance_34 {X : Xt} {S : Sh} (hS : ShOK S) {d : Nat} (hd : 0 ≤ d) (u0 : Value) (σ : Mm) : Rf X S emV (f_Tp_advance_34 σ) d 98 34 [u0] [] σ := by
  unfold f_Tp_advance_34
  exact rf_vret c_98_34 rfl rfl
def f_Tp_advance (x0 : Nat) (σ : Mm) : Option Mm := (if (σ x0 6) ≤ (σ x0 7) then (f_Tp_advance_34  σ) else (nmM (up2 σ x0 7 ((σ x0 7) + (1 : Int32))) fun σ18 => if inbB (σ18 x0 7) 97 = true then nmM (up2 σ18 x0 8 (σ18 (rfT x0 1) (ix (σ18 x0 7)))) fun σ31 => f_Tp_advance_34  σ31 else none))
set_option maxRecDepth 100000 in
set_option maxHeartbeats 4000000 in
theorem t_Tp_advance {X : Xt} {S : Sh} (hS : ShOK S) {d : Nat} (hd : 0 ≤ d) (x0 : Nat) (σ : Mm) (h_x0 : tgT x0 = 9) : Rf X S emV (f_Tp_advance x0 σ) d 98 0 [.ref x0] [] σ := by
  unfold f_Tp_advance
  refine rf_ald (i := 0) (Or.inr ⟨0, rfl, rfl, rfl⟩) c_98_0 rfl ?_
  refine rf_geti hS c_98_1 rfl fl_9_52 rfl h_x0 ?_
  refine rf_ald (i := 0) (Or.inr ⟨0, rfl, rfl, rfl⟩) c_98_4 rfl ?_
  refine rf_geti hS c_98_5 rfl fl_9_75 rfl h_x0 ?_
  refine rf_ite (fun hc8 => ?_) (fun hc8 => ?_)
  · refine rf_b2t c_98_8 rfl (decide_eq_true hc8) ?_
    exact t_Tp_advance_34 hS hd  (.ref x0) σ
  · refine rf_b2f c_98_8 rfl (decide_eq_false hc8) ?_
    refine rf_ald (i := 0) (Or.inr ⟨0, rfl, rfl, rfl⟩) c_98_11 rfl ?_
    refine rf_dup c_98_12 rfl ?_
    refine rf_geti hS c_98_13 rfl fl_9_52 rfl h_x0 ?_
    refine rf_iconst c_98_16 ki_1 ?_
    refine rf_iadd c_98_17 ?_
    refine rf_puti hS c_98_18 rfl fl_9_52 rfl rfl rfl rfl h_x0 ?_
    refine rf_nm (fun σ18 => ?_)
    refine rf_ald (i := 0) (Or.inr ⟨0, rfl, rfl, rfl⟩) c_98_21 rfl ?_
    refine rf_ald (i := 0) (Or.inr ⟨0, rfl, rfl, rfl⟩) c_98_22 rfl ?_
    refine rf_getr hS c_98_23 rfl fl_9_15 rfl h_x0 ?_
    refine rf_ald (i := 0) (Or.inr ⟨0, rfl, rfl, rfl⟩) c_98_26 rfl ?_
    refine rf_geti hS c_98_27 rfl fl_9_52 rfl h_x0 ?_
    refine rf_ite (fun hb30 => ?_) (fun _ => rf_none)
    refine rf_iald hS c_98_30 (tf_9_1 h_x0) (lf_9_1 h_x0) hb30 ?_
    refine rf_puti hS c_98_31 rfl fl_9_55 rfl rfl rfl rfl h_x0 ?_
    refine rf_nm (fun σ31 => ?_)
    exact t_Tp_advance_34 hS hd  (.ref x0) σ31
theorem c_99_0 : cd 99 0 = some (.aload_n 0, 1) := by decide +kernel
theorem c_99_1 : cd 99 1 = some (.getfield 55, 3) := by decide +kernel
theorem c_99_4 : cd 99 4 = some (.bipush (11), 2) := by decide +kernel
theorem c_99_6 : cd 99 6 = some (.bipush (16), 2) := by decide +kernel
theorem c_99_8 : cd 99 8 = some (.invokestatic 41, 3) := by decide +kernel
theorem c_99_11 : cd 99 11 = some (.ifCond .ne (5), 3) := by decide +kernel
theorem c_99_14 : cd 99 14 = some (.iconst (0), 1) := by decide +kernel
theorem c_99_15 : cd 99 15 = some (.ireturn, 1) := by decide +kernel
theorem c_99_16 : cd 99 16 = some (.aload_n 0, 1) := by decide +kernel
theorem c_99_17 : cd 99 17 = some (.getfield 28, 3) := by decide +kernel
theorem c_99_20 : cd 99 20 = some (.aload_n 0, 1) := by decide +kernel
theorem c_99_21 : cd 99 21 = some (.getfield 55, 3) := by decide +kernel
theorem c_99_24 : cd 99 24 = some (.bipush (11), 2) := by decide +kernel
theorem c_99_26 : cd 99 26 = some (.isub, 1) := by decide +kernel
theorem c_99_27 : cd 99 27 = some (.putfield 78, 3) := by decide +kernel
theorem c_99_30 : cd 99 30 = some (.aload_n 0, 1) := by decide +kernel
theorem c_99_31 : cd 99 31 = some (.invokevirtual 62, 3) := by decide +kernel
theorem c_99_34 : cd 99 34 = some (.aload_n 0, 1) := by decide +kernel
theorem c_99_35 : cd 99 35 = some (.getfield 55, 3) := by decide +kernel
theorem c_99_38 : cd 99 38 = some (.iconst (1), 1) := by decide +kernel
theorem c_99_39 : cd 99 39 = some (.if_icmp .eq (5), 3) := by decide +kernel
theorem c_99_42 : cd 99 42 = some (.iconst (0), 1) := by decide +kernel
theorem c_99_43 : cd 99 43 = some (.ireturn, 1) := by decide +kernel
theorem c_99_44 : cd 99 44 = some (.aload_n 0, 1) := by decide +kernel
theorem c_99_45 : cd 99 45 = some (.getfield 28, 3) := by decide +kernel
theorem c_99_48 : cd 99 48 = some (.aload_n 0, 1) := by decide +kernel
theorem c_99_49 : cd 99 49 = some (.getfield 22, 3) := by decide +kernel
theorem c_99_52 : cd 99 52 = some (.aload_n 0, 1) := by decide +kernel
theorem c_99_53 : cd 99 53 = some (.getfield 52, 3) := by decide +kernel
theorem c_99_56 : cd 99 56 = some (.iaload, 1) := by decide +kernel
theorem c_99_57 : cd 99 57 = some (.putfield 81, 3) := by decide +kernel
theorem c_99_60 : cd 99 60 = some (.aload_n 0, 1) := by decide +kernel
theorem c_99_61 : cd 99 61 = some (.invokevirtual 62, 3) := by decide +kernel
theorem c_99_64 : cd 99 64 = some (.aload_n 0, 1) := by decide +kernel
theorem c_99_65 : cd 99 65 = some (.getfield 28, 3) := by decide +kernel
theorem c_99_68 : cd 99 68 = some (.getfield 78, 3) := by decide +kernel
theorem c_99_71 : cd 99 71 = some (.iconst (5), 1) := by decide +kernel
theorem c_99_72 : cd 99 72 = some (.if_icmp .ne (5), 3) := by decide +kernel
theorem c_99_75 : cd 99 75 = some (.iconst (1), 1) := by decide +kernel
theorem c_99_76 : cd 99 76 = some (.ireturn, 1) := by decide +kernel
theorem c_99_77 : cd 99 77 = some (.aload_n 0, 1) := by decide +kernel
theorem c_99_78 : cd 99 78 = some (.getfield 55, 3) := by decide +kernel
theorem c_99_81 : cd 99 81 = some (.iconst (1), 1) := by decide +kernel
theorem c_99_82 : cd 99 82 = some (.if_icmp .eq (5), 3) := by decide +kernel
theorem c_99_85 : cd 99 85 = some (.iconst (0), 1) := by decide +kernel
theorem c_99_86 : cd 99 86 = some (.ireturn, 1) := by decide +kernel
theorem c_99_87 : cd 99 87 = some (.aload_n 0, 1) := by decide +kernel
theorem c_99_88 : cd 99 88 = some (.getfield 28, 3) := by decide +kernel
theorem c_99_91 : cd 99 91 = some (.aload_n 0, 1) := by decide +kernel
theorem c_99_92 : cd 99 92 = some (.getfield 22, 3) := by decide +kernel
theorem c_99_95 : cd 99 95 = some (.aload_n 0, 1) := by decide +kernel
theorem c_99_96 : cd 99 96 = some (.getfield 52, 3) := by decide +kernel
theorem c_99_99 : cd 99 99 = some (.iaload, 1) := by decide +kernel
theorem c_99_100 : cd 99 100 = some (.putfield 84, 3) := by decide +kernel
theorem c_99_103 : cd 99 103 = some (.aload_n 0, 1) := by decide +kernel
theorem c_99_104 : cd 99 104 = some (.invokevirtual 62, 3) := by decide +kernel
theorem c_99_107 : cd 99 107 = some (.iconst (1), 1) := by decide +kernel
theorem c_99_108 : cd 99 108 = some (.ireturn, 1) := by decide +kernel
def f_Tp_readHead (x0 : Nat) (σ : Mm) : Option (Int32 × Mm) := (f_Ct_isWithin σ (σ x0 8) (11 : Int32) (16 : Int32)).bind fun v8 => (if ¬ v8 = 0 then (nmM (up2 σ (rfT x0 4) 0 ((σ x0 8) - (11 : Int32))) fun σ27 => (f_Tp_advance x0 σ27).bind fun v31 => (if (v31 x0 8) = (1 : Int32) then (if inbB (v31 x0 7) 97 = true then nmM (up2 v31 (rfT x0 4) 1 (v31 (rfT x0 3) (ix (v31 x0 7)))) fun σ57 => (f_Tp_advance x0 σ57).bind fun v61 => (if ¬ (v61 (rfT x0 4) 0) = (5 : Int32) then (if (v61 x0 8) = (1 : Int32) then (if inbB (v61 x0 7) 97 = true then nmM (up2 v61 (rfT x0 4) 2 (v61 (rfT x0 3) (ix (v61 x0 7)))) fun σ100 => (f_Tp_advance x0 σ100).bind fun v104 => some ((1 : Int32), v104) else none) else (some ((0 : Int32), v61))) else (some ((1 : Int32), v61))) else none) else (some ((0 : Int32), v31)))) else (some ((0 : Int32), σ)))
set_option maxRecDepth 100000 in
set_option maxHeartbeats 4000000 in
theorem t_Tp_readHead_e {X : Xt} {S : Sh} (hS : ShOK S) {d : Nat} (hd : 1 ≤ d + 1) (x0 : Nat) (σ : Mm) (h_x0 : tgT x0 = 9) : Rf X S emM (f_Tp_readHead x0 σ) (d + 1) 99 0 [.ref x0] [] σ := by
  unfold f_Tp_readHead
  refine rf_ald (i := 0) (Or.inr ⟨0, rfl, rfl, rfl⟩) c_99_0 rfl ?_
  refine rf_geti hS c_99_1 rfl fl_9_55 rfl h_x0 ?_
  refine rf_bipush c_99_4 kb_11 ?_
  refine rf_bipush c_99_6 kb_16 ?_
  refine rf_callI (as := [.int (σ x0 8), .int (11 : Int32), .int (16 : Int32)]) (kd := 0) c_99_8 rfl (by decide) rfl ml_9_41 (by decide) rfl (rcv_0 rfl) (Nat.zero_le _) rfl rfl (t_Ct_isWithin hS (by omega) σ (σ x0 8) (11 : Int32) (16 : Int32)) (fun v8 => ?_)
  refine rf_ite (fun hc11 => ?_) (fun hc11 => ?_)
  · refine rf_b1t c_99_11 rfl (decide_eq_true hc11) ?_
    refine rf_ald (i := 0) (Or.inr ⟨0, rfl, rfl, rfl⟩) c_99_16 rfl ?_
    refine rf_getr hS c_99_17 rfl fl_9_28 rfl h_x0 ?_
    refine rf_ald (i := 0) (Or.inr ⟨0, rfl, rfl, rfl⟩) c_99_20 rfl ?_
    refine rf_geti hS c_99_21 rfl fl_9_55 rfl h_x0 ?_
    refine rf_bipush c_99_24 kb_11 ?_
    refine rf_isub c_99_26 ?_
    refine rf_puti hS c_99_27 rfl fl_9_78 rfl rfl rfl rfl (tf_9_4 h_x0) ?_
    refine rf_nm (fun σ27 => ?_)
    refine rf_ald (i := 0) (Or.inr ⟨0, rfl, rfl, rfl⟩) c_99_30 rfl ?_
    refine rf_callV (as := [.ref x0]) (kd := 1) c_99_31 rfl (by decide) rfl ml_9_62 (by decide) rfl (rcv_1 hS rfl rfl h_x0 (by decide)) (Nat.zero_le _) rfl rfl (t_Tp_advance hS (by omega) x0 σ27 h_x0) (fun v31 => ?_)
    refine rf_ald (i := 0) (Or.inr ⟨0, rfl, rfl, rfl⟩) c_99_34 rfl ?_
    refine rf_geti hS c_99_35 rfl fl_9_55 rfl h_x0 ?_
    refine rf_iconst c_99_38 ki_1 ?_
    refine rf_ite (fun hc39 => ?_) (fun hc39 => ?_)
    · refine rf_b2t c_99_39 rfl (decide_eq_true hc39) ?_
      refine rf_ald (i := 0) (Or.inr ⟨0, rfl, rfl, rfl⟩) c_99_44 rfl ?_
      refine rf_getr hS c_99_45 rfl fl_9_28 rfl h_x0 ?_
      refine rf_ald (i := 0) (Or.inr ⟨0, rfl, rfl, rfl⟩) c_99_48 rfl ?_
      refine rf_getr hS c_99_49 rfl fl_9_22 rfl h_x0 ?_
      refine rf_ald (i := 0) (Or.inr ⟨0, rfl, rfl, rfl⟩) c_99_52 rfl ?_
      refine rf_geti hS c_99_53 rfl fl_9_52 rfl h_x0 ?_
      refine rf_ite (fun hb56 => ?_) (fun _ => rf_none)
      refine rf_iald hS c_99_56 (tf_9_3 h_x0) (lf_9_3 h_x0) hb56 ?_
      refine rf_puti hS c_99_57 rfl fl_9_81 rfl rfl rfl rfl (tf_9_4 h_x0) ?_
      refine rf_nm (fun σ57 => ?_)
      refine rf_ald (i := 0) (Or.inr ⟨0, rfl, rfl, rfl⟩) c_99_60 rfl ?_
      refine rf_callV (as := [.ref x0]) (kd := 1) c_99_61 rfl (by decide) rfl ml_9_62 (by decide) rfl (rcv_1 hS rfl rfl h_x0 (by decide)) (Nat.zero_le _) rfl rfl (t_Tp_advance hS (by omega) x0 σ57 h_x0) (fun v61 => ?_)
      refine rf_ald (i := 0) (Or.inr ⟨0, rfl, rfl, rfl⟩) c_99_64 rfl ?_
      refine rf_getr hS c_99_65 rfl fl_9_28 rfl h_x0 ?_
      refine rf_geti hS c_99_68 rfl fl_9_78 rfl (tf_9_4 h_x0) ?_
      refine rf_iconst c_99_71 ki_5 ?_
      refine rf_ite (fun hc72 => ?_) (fun hc72 => ?_)
      · refine rf_b2t c_99_72 rfl (decide_eq_true hc72) ?_
        refine rf_ald (i := 0) (Or.inr ⟨0, rfl, rfl, rfl⟩) c_99_77 rfl ?_
        refine rf_geti hS c_99_78 rfl fl_9_55 rfl h_x0 ?_
        refine rf_iconst c_99_81 ki_1 ?_
        refine rf_ite (fun hc82 => ?_) (fun hc82 => ?_)
        · refine rf_b2t c_99_82 rfl (decide_eq_true hc82) ?_
          refine rf_ald (i := 0) (Or.inr ⟨0, rfl, rfl, rfl⟩) c_99_87 rfl ?_
          refine rf_getr hS c_99_88 rfl fl_9_28 rfl h_x0 ?_
          refine rf_ald (i := 0) (Or.inr ⟨0, rfl, rfl, rfl⟩) c_99_91 rfl ?_
          refine rf_getr hS c_99_92 rfl fl_9_22 rfl h_x0 ?_
          refine rf_ald (i := 0) (Or.inr ⟨0, rfl, rfl, rfl⟩) c_99_95 rfl ?_
          refine rf_geti hS c_99_96 rfl fl_9_52 rfl h_x0 ?_
          refine rf_ite (fun hb99 => ?_) (fun _ => rf_none)
          refine rf_iald hS c_99_99 (tf_9_3 h_x0) (lf_9_3 h_x0) hb99 ?_
          refine rf_puti hS c_99_100 rfl fl_9_84 rfl rfl rfl rfl (tf_9_4 h_x0) ?_
          refine rf_nm (fun σ100 => ?_)
          refine rf_ald (i := 0) (Or.inr ⟨0, rfl, rfl, rfl⟩) c_99_103 rfl ?_
          refine rf_callV (as := [.ref x0]) (kd := 1) c_99_104 rfl (by decide) rfl ml_9_62 (by decide) rfl (rcv_1 hS rfl rfl h_x0 (by decide)) (Nat.zero_le _) rfl rfl (t_Tp_advance hS (by omega) x0 σ100 h_x0) (fun v104 => ?_)
          refine rf_iconst c_99_107 ki_1 ?_
          exact rf_ret c_99_108 rfl (by decide) rfl rfl
        · refine rf_b2f c_99_82 rfl (decide_eq_false hc82) ?_
          refine rf_iconst c_99_85 ki_0 ?_
          exact rf_ret c_99_86 rfl (by decide) rfl rfl
      · refine rf_b2f c_99_72 rfl (decide_eq_false hc72) ?_
        refine rf_iconst c_99_75 ki_1 ?_
        exact rf_ret c_99_76 rfl (by decide) rfl rfl
    · refine rf_b2f c_99_39 rfl (decide_eq_false hc39) ?_
      refine rf_iconst c_99_42 ki_0 ?_
      exact rf_ret c_99_43 rfl (by decide) rfl rfl
  · refine rf_b1f c_99_11 rfl (decide_eq_false hc11) ?_
    refine rf_iconst c_99_14 ki_0 ?_
    exact rf_ret c_99_15 rfl (by decide) rfl rfl
theorem t_Tp_readHead {X : Xt} {S : Sh} (hS : ShOK S) {d : Nat} (hd : 1 ≤ d) (x0 : Nat) (σ : Mm) (h_x0 : tgT x0 = 9) : Rf X S emM (f_Tp_readHead x0 σ) d 99 0 [.ref x0] [] σ := by
  obtain ⟨d1, rfl⟩ : ∃ d1, d = d1 + 1 := ⟨d - 1, by omega⟩
  exact t_Tp_readHead_e hS hd x0 σ h_x0
theorem c_103_0 : cd 103 0 = some (.aload_n 0, 1) := by decide +kernel
theorem c_103_1 : cd 103 1 = some (.getfield 55, 3) := by decide +kernel
theorem c_103_4 : cd 103 4 = some (.bipush (17), 2) := by decide +kernel
theorem c_103_6 : cd 103 6 = some (.bipush (22), 2) := by decide +kernel
theorem c_103_8 : cd 103 8 = some (.invokestatic 41, 3) := by decide +kernel
theorem c_103_11 : cd 103 11 = some (.ifCond .ne (5), 3) := by decide +kernel
theorem c_103_14 : cd 103 14 = some (.iconst (0), 1) := by decide +kernel
theorem c_103_15 : cd 103 15 = some (.ireturn, 1) := by decide +kernel
theorem c_103_16 : cd 103 16 = some (.bipush (6), 2) := by decide +kernel
theorem c_103_18 : cd 103 18 = some (.aload_n 0, 1) := by decide +kernel
theorem c_103_19 : cd 103 19 = some (.getfield 55, 3) := by decide +kernel
theorem c_103_22 : cd 103 22 = some (.iadd, 1) := by decide +kernel
theorem c_103_23 : cd 103 23 = some (.bipush (20), 2) := by decide +kernel
theorem c_103_25 : cd 103 25 = some (.isub, 1) := by decide +kernel
theorem c_103_26 : cd 103 26 = some (.istore_n 1, 1) := by decide +kernel
theorem c_103_27 : cd 103 27 = some (.aload_n 0, 1) := by decide +kernel
theorem c_103_28 : cd 103 28 = some (.getfield 55, 3) := by decide +kernel
theorem c_103_31 : cd 103 31 = some (.bipush (20), 2) := by decide +kernel
theorem c_103_33 : cd 103 33 = some (.if_icmp .ge (7), 3) := by decide +kernel
theorem c_103_36 : cd 103 36 = some (.iconst (1), 1) := by decide +kernel
theorem c_103_37 : cd 103 37 = some (.goto (4), 3) := by decide +kernel
theorem c_103_40 : cd 103 40 = some (.iconst (0), 1) := by decide +kernel
theorem c_103_41 : cd 103 41 = some (.istore_n 2, 1) := by decide +kernel
theorem c_103_42 : cd 103 42 = some (.iload_n 2, 1) := by decide +kernel
theorem c_103_43 : cd 103 43 = some (.ifCond .eq (15), 3) := by decide +kernel
theorem c_103_46 : cd 103 46 = some (.iconst (0), 1) := by decide +kernel
theorem c_103_47 : cd 103 47 = some (.iconst (2), 1) := by decide +kernel
theorem c_103_48 : cd 103 48 = some (.aload_n 0, 1) := by decide +kernel
theorem c_103_49 : cd 103 49 = some (.getfield 55, 3) := by decide +kernel
theorem c_103_52 : cd 103 52 = some (.bipush (17), 2) := by decide +kernel
theorem c_103_54 : cd 103 54 = some (.isub, 1) := by decide +kernel
theorem c_103_55 : cd 103 55 = some (.imul, 1) := by decide +kernel
theorem c_103_56 : cd 103 56 = some (.iadd, 1) := by decide +kernel
theorem c_103_57 : cd 103 57 = some (.istore_n 1, 1) := by decide +kernel
theorem c_103_58 : cd 103 58 = some (.aload_n 0, 1) := by decide +kernel
theorem c_103_59 : cd 103 59 = some (.invokevirtual 62, 3) := by decide +kernel
theorem c_103_62 : cd 103 62 = some (.iload_n 2, 1) := by decide +kernel
theorem c_103_63 : cd 103 63 = some (.ifCond .eq (44), 3) := by decide +kernel
theorem c_103_66 : cd 103 66 = some (.aload_n 0, 1) := by decide +kernel
theorem c_103_67 : cd 103 67 = some (.getfield 55, 3) := by decide +kernel
theorem c_103_70 : cd 103 70 = some (.iconst (4), 1) := by decide +kernel
theorem c_103_71 : cd 103 71 = some (.if_icmp .eq (13), 3) := by decide +kernel
theorem c_103_74 : cd 103 74 = some (.aload_n 0, 1) := by decide +kernel
theorem c_103_75 : cd 103 75 = some (.getfield 55, 3) := by decide +kernel
theorem c_103_78 : cd 103 78 = some (.iconst (5), 1) := by decide +kernel
theorem c_103_79 : cd 103 79 = some (.if_icmp .eq (5), 3) := by decide +kernel
theorem c_103_82 : cd 103 82 = some (.iconst (0), 1) := by decide +kernel
theorem c_103_83 : cd 103 83 = some (.ireturn, 1) := by decide +kernel
theorem c_103_84 : cd 103 84 = some (.iload_n 1, 1) := by decide +kernel
theorem c_103_85 : cd 103 85 = some (.aload_n 0, 1) := by decide +kernel
theorem c_103_86 : cd 103 86 = some (.getfield 55, 3) := by decide +kernel
theorem c_103_89 : cd 103 89 = some (.iconst (5), 1) := by decide +kernel
theorem c_103_90 : cd 103 90 = some (.if_icmp .ne (7), 3) := by decide +kernel
theorem c_103_93 : cd 103 93 = some (.iconst (1), 1) := by decide +kernel
theorem c_103_94 : cd 103 94 = some (.goto (4), 3) := by decide +kernel
theorem c_103_97 : cd 103 97 = some (.iconst (0), 1) := by decide +kernel
theorem c_103_98 : cd 103 98 = some (.invokestatic 100, 3) := by decide +kernel
theorem c_103_101 : cd 103 101 = some (.iadd, 1) := by decide +kernel
theorem c_103_102 : cd 103 102 = some (.istore_n 1, 1) := by decide +kernel
theorem c_103_103 : cd 103 103 = some (.aload_n 0, 1) := by decide +kernel
theorem c_103_104 : cd 103 104 = some (.invokevirtual 62, 3) := by decide +kernel
theorem c_103_107 : cd 103 107 = some (.aload_n 0, 1) := by decide +kernel
theorem c_103_108 : cd 103 108 = some (.getfield 55, 3) := by decide +kernel
theorem c_103_111 : cd 103 111 = some (.iconst (1), 1) := by decide +kernel
theorem c_103_112 : cd 103 112 = some (.if_icmp .eq (5), 3) := by decide +kernel
theorem c_103_115 : cd 103 115 = some (.iconst (0), 1) := by decide +kernel
theorem c_103_116 : cd 103 116 = some (.ireturn, 1) := by decide +kernel
theorem c_103_117 : cd 103 117 = some (.aload_n 0, 1) := by decide +kernel
theorem c_103_118 : cd 103 118 = some (.getfield 28, 3) := by decide +kernel
theorem c_103_121 : cd 103 121 = some (.iload_n 1, 1) := by decide +kernel
theorem c_103_122 : cd 103 122 = some (.aload_n 0, 1) := by decide +kernel
theorem c_103_123 : cd 103 123 = some (.getfield 22, 3) := by decide +kernel
theorem c_103_126 : cd 103 126 = some (.aload_n 0, 1) := by decide +kernel
theorem c_103_127 : cd 103 127 = some (.getfield 52, 3) := by decide +kernel
theorem c_103_130 : cd 103 130 = some (.iaload, 1) := by decide +kernel
theorem c_103_131 : cd 103 131 = some (.invokevirtual 90, 3) := by decide +kernel
theorem c_103_134 : cd 103 134 = some (.aload_n 0, 1) := by decide +kernel
theorem c_103_135 : cd 103 135 = some (.invokevirtual 62, 3) := by decide +kernel
theorem c_103_138 : cd 103 138 = some (.iconst (1), 1) := by decide +kernel
theorem c_103_139 : cd 103 139 = some (.ireturn, 1) := by decide +kernel
def f_Tp_readAtom_107 (x0 : Nat) (x1 : Int32) (σ : Mm) : Option (Int32 × Mm) := (if (σ x0 8) = (1 : Int32) then (if inbB (σ x0 7) 97 = true then (f_Ru_addStep (rfT x0 4) x1 (σ (rfT x0 3) (ix (σ x0 7))) σ).bind fun v131 => (f_Tp_advance x0 v131).bind fun v135 => some ((1 : Int32), v135) else none) else (some ((0 : Int32), σ)))
set_option maxRecDepth 100000 in
set_option maxHeartbeats 4000000 in
theorem t_Tp_readAtom_107 {X : Xt} {S : Sh} (hS : ShOK S) {d : Nat} (hd : 1 ≤ d + 1) (x0 : Nat) (x1 : Int32) (u2 : Value) (σ : Mm) (h_x0 : tgT x0 = 9) : Rf X S emM (f_Tp_readAtom_107 x0 x1 σ) (d + 1) 103 107 [.ref x0, .int x1, u2] [] σ := by
  unfold f_Tp_readAtom_107
  refine rf_ald (i := 0) (Or.inr ⟨0, rfl, rfl, rfl⟩) c_103_107 rfl ?_
  refine rf_geti hS c_103_108 rfl fl_9_55 rfl h_x0 ?_
  refine rf_iconst c_103_111 ki_1 ?_
  refine rf_ite (fun hc112 => ?_) (fun hc112 => ?_)
  · refine rf_b2t c_103_112 rfl (decide_eq_true hc112) ?_
    refine rf_ald (i := 0) (Or.inr ⟨0, rfl, rfl, rfl⟩) c_103_117 rfl ?_
    refine rf_getr hS c_103_118 rfl fl_9_28 rfl h_x0 ?_
    refine rf_ild (i := 1) (Or.inr ⟨1, rfl, rfl, rfl⟩) c_103_121 rfl ?_
    refine rf_ald (i := 0) (Or.inr ⟨0, rfl, rfl, rfl⟩) c_103_122 rfl ?_
    refine rf_getr hS c_103_123 rfl fl_9_22 rfl h_x0 ?_
    refine rf_ald (i := 0) (Or.inr ⟨0, rfl, rfl, rfl⟩) c_103_126 rfl ?_
    refine rf_geti hS c_103_127 rfl fl_9_52 rfl h_x0 ?_
    refine rf_ite (fun hb130 => ?_) (fun _ => rf_none)
    refine rf_iald hS c_103_130 (tf_9_3 h_x0) (lf_9_3 h_x0) hb130 ?_
    refine rf_callV (as := [.ref (rfT x0 4), .int x1, .int (σ (rfT x0 3) (ix (σ x0 7)))]) (kd := 1) c_103_131 rfl (by decide) rfl ml_9_90 (by decide) rfl (rcv_1 hS rfl rfl (tf_9_4 h_x0) (by decide)) (Nat.zero_le _) rfl rfl (t_Ru_addStep hS (by omega) (rfT x0 4) x1 (σ (rfT x0 3) (ix (σ x0 7))) σ (tf_9_4 h_x0)) (fun v131 => ?_)
    refine rf_ald (i := 0) (Or.inr ⟨0, rfl, rfl, rfl⟩) c_103_134 rfl ?_
    refine rf_callV (as := [.ref x0]) (kd := 1) c_103_135 rfl (by decide) rfl ml_9_62 (by decide) rfl (rcv_1 hS rfl rfl h_x0 (by decide)) (Nat.zero_le _) rfl rfl (t_Tp_advance hS (by omega) x0 v131 h_x0) (fun v135 => ?_)
    refine rf_iconst c_103_138 ki_1 ?_
    exact rf_ret c_103_139 rfl (by decide) rfl rfl
  · refine rf_b2f c_103_112 rfl (decide_eq_false hc112) ?_
    refine rf_iconst c_103_115 ki_0 ?_
    exact rf_ret c_103_116 rfl (by decide) rfl rfl
def f_Tp_readAtom_98 (x0 : Nat) (y0 : Int32) (y1 : Int32) (σ : Mm) : Option (Int32 × Mm) := (f_Ct_bit σ y1).bind fun v98 => (f_Tp_advance x0 σ).bind fun v104 => f_Tp_readAtom_107  x0 (y0 + v98) v104
set_option maxRecDepth 100000 in
set_option maxHeartbeats 4000000 in
theorem t_Tp_readAtom_98 {X : Xt} {S : Sh} (hS : ShOK S) {d : Nat} (hd : 1 ≤ d + 1) (x0 : Nat) (y0 : Int32) (y1 : Int32) (u1 : Value) (u2 : Value) (σ : Mm) (h_x0 : tgT x0 = 9) : Rf X S emM (f_Tp_readAtom_98 x0 y0 y1 σ) (d + 1) 103 98 [.ref x0, u1, u2] [.int y1, .int y0] σ := by
  unfold f_Tp_readAtom_98
  refine rf_callI (as := [.int y1]) (kd := 0) c_103_98 rfl (by decide) rfl ml_9_100 (by decide) rfl (rcv_0 rfl) (by simp [Value.category]) rfl rfl (t_Ct_bit hS (by omega) σ y1) (fun v98 => ?_)
  refine rf_iadd c_103_101 ?_
  refine rf_ist (i := 1) (Or.inr ⟨1, rfl, rfl, rfl⟩) c_103_102 (Nat.le_of_ble_eq_true rfl) rfl ?_
  refine rf_ald (i := 0) (Or.inr ⟨0, rfl, rfl, rfl⟩) c_103_103 rfl ?_
  refine rf_callV (as := [.ref x0]) (kd := 1) c_103_104 rfl (by decide) rfl ml_9_62 (by decide) rfl (rcv_1 hS rfl rfl h_x0 (by decide)) (Nat.zero_le _) rfl rfl (t_Tp_advance hS (by omega) x0 σ h_x0) (fun v104 => ?_)
  exact t_Tp_readAtom_107 hS hd  x0 (y0 + v98) (u2) v104 h_x0
def f_Tp_readAtom_84 (x0 : Nat) (x1 : Int32) (σ : Mm) : Option (Int32 × Mm) := (if ¬ (σ x0 8) = (5 : Int32) then (f_Tp_readAtom_98  x0 x1 (0 : Int32) σ) else (f_Tp_readAtom_98  x0 x1 (1 : Int32) σ))
set_option maxRecDepth 100000 in
set_option maxHeartbeats 4000000 in
theorem t_Tp_readAtom_84 {X : Xt} {S : Sh} (hS : ShOK S) {d : Nat} (hd : 1 ≤ d + 1) (x0 : Nat) (x1 : Int32) (u2 : Value) (σ : Mm) (h_x0 : tgT x0 = 9) : Rf X S emM (f_Tp_readAtom_84 x0 x1 σ) (d + 1) 103 84 [.ref x0, .int x1, u2] [] σ := by
  unfold f_Tp_readAtom_84
  refine rf_ild (i := 1) (Or.inr ⟨1, rfl, rfl, rfl⟩) c_103_84 rfl ?_
  refine rf_ald (i := 0) (Or.inr ⟨0, rfl, rfl, rfl⟩) c_103_85 rfl ?_
  refine rf_geti hS c_103_86 rfl fl_9_55 rfl h_x0 ?_
  refine rf_iconst c_103_89 ki_5 ?_
  refine rf_ite (fun hc90 => ?_) (fun hc90 => ?_)
  · refine rf_b2t c_103_90 rfl (decide_eq_true hc90) ?_
    refine rf_iconst c_103_97 ki_0 ?_
    exact t_Tp_readAtom_98 hS hd  x0 x1 (0 : Int32) (.int x1) (u2) σ h_x0
  · refine rf_b2f c_103_90 rfl (decide_eq_false hc90) ?_
    refine rf_iconst c_103_93 ki_1 ?_
    refine rf_goto c_103_94 rfl ?_
    exact t_Tp_readAtom_98 hS hd  x0 x1 (1 : Int32) (.int x1) (u2) σ h_x0
def f_Tp_readAtom_58 (x0 : Nat) (x1 : Int32) (x2 : Int32) (σ : Mm) : Option (Int32 × Mm) := (f_Tp_advance x0 σ).bind fun v59 => (if x2 = 0 then (f_Tp_readAtom_107  x0 x1 v59) else (if (v59 x0 8) = (4 : Int32) then (f_Tp_readAtom_84  x0 x1 v59) else (if (v59 x0 8) = (5 : Int32) then (f_Tp_readAtom_84  x0 x1 v59) else (some ((0 : Int32), v59)))))
set_option maxRecDepth 100000 in
set_option maxHeartbeats 4000000 in
theorem t_Tp_readAtom_58 {X : Xt} {S : Sh} (hS : ShOK S) {d : Nat} (hd : 1 ≤ d + 1) (x0 : Nat) (x1 : Int32) (x2 : Int32) (σ : Mm) (h_x0 : tgT x0 = 9) : Rf X S emM (f_Tp_readAtom_58 x0 x1 x2 σ) (d + 1) 103 58 [.ref x0, .int x1, .int x2] [] σ := by
  unfold f_Tp_readAtom_58
  refine rf_ald (i := 0) (Or.inr ⟨0, rfl, rfl, rfl⟩) c_103_58 rfl ?_
  refine rf_callV (as := [.ref x0]) (kd := 1) c_103_59 rfl (by decide) rfl ml_9_62 (by decide) rfl (rcv_1 hS rfl rfl h_x0 (by decide)) (Nat.zero_le _) rfl rfl (t_Tp_advance hS (by omega) x0 σ h_x0) (fun v59 => ?_)
  refine rf_ild (i := 2) (Or.inr ⟨2, rfl, rfl, rfl⟩) c_103_62 rfl ?_
  refine rf_ite (fun hc63 => ?_) (fun hc63 => ?_)
  · refine rf_b1t c_103_63 rfl (decide_eq_true hc63) ?_
    exact t_Tp_readAtom_107 hS hd  x0 x1 (.int x2) v59 h_x0
  · refine rf_b1f c_103_63 rfl (decide_eq_false hc63) ?_
    refine rf_ald (i := 0) (Or.inr ⟨0, rfl, rfl, rfl⟩) c_103_66 rfl ?_
    refine rf_geti hS c_103_67 rfl fl_9_55 rfl h_x0 ?_
    refine rf_iconst c_103_70 ki_4 ?_
    refine rf_ite (fun hc71 => ?_) (fun hc71 => ?_)
    · refine rf_b2t c_103_71 rfl (decide_eq_true hc71) ?_
      exact t_Tp_readAtom_84 hS hd  x0 x1 (.int x2) v59 h_x0
    · refine rf_b2f c_103_71 rfl (decide_eq_false hc71) ?_
      refine rf_ald (i := 0) (Or.inr ⟨0, rfl, rfl, rfl⟩) c_103_74 rfl ?_
      refine rf_geti hS c_103_75 rfl fl_9_55 rfl h_x0 ?_
      refine rf_iconst c_103_78 ki_5 ?_
      refine rf_ite (fun hc79 => ?_) (fun hc79 => ?_)
      · refine rf_b2t c_103_79 rfl (decide_eq_true hc79) ?_
        exact t_Tp_readAtom_84 hS hd  x0 x1 (.int x2) v59 h_x0
      · refine rf_b2f c_103_79 rfl (decide_eq_false hc79) ?_
        refine rf_iconst c_103_82 ki_0 ?_
        exact rf_ret c_103_83 rfl (by decide) rfl rfl
def f_Tp_readAtom_41 (x0 : Nat) (x1 : Int32) (y0 : Int32) (σ : Mm) : Option (Int32 × Mm) := (if y0 = 0 then (f_Tp_readAtom_58  x0 x1 y0 σ) else (f_Tp_readAtom_58  x0 ((0 : Int32) + ((2 : Int32) * ((σ x0 8) - (17 : Int32)))) y0 σ))
set_option maxRecDepth 100000 in
set_option maxHeartbeats 4000000 in
theorem t_Tp_readAtom_41 {X : Xt} {S : Sh} (hS : ShOK S) {d : Nat} (hd : 1 ≤ d + 1) (x0 : Nat) (x1 : Int32) (y0 : Int32) (u2 : Value) (σ : Mm) (h_x0 : tgT x0 = 9) : Rf X S emM (f_Tp_readAtom_41 x0 x1 y0 σ) (d + 1) 103 41 [.ref x0, .int x1, u2] [.int y0] σ := by
  unfold f_Tp_readAtom_41
  refine rf_ist (i := 2) (Or.inr ⟨2, rfl, rfl, rfl⟩) c_103_41 (Nat.le_of_ble_eq_true rfl) rfl ?_
  refine rf_ild (i := 2) (Or.inr ⟨2, rfl, rfl, rfl⟩) c_103_42 rfl ?_
  refine rf_ite (fun hc43 => ?_) (fun hc43 => ?_)
  · refine rf_b1t c_103_43 rfl (decide_eq_true hc43) ?_
    exact t_Tp_readAtom_58 hS hd  x0 x1 y0 σ h_x0
  · refine rf_b1f c_103_43 rfl (decide_eq_false hc43) ?_
    refine rf_iconst c_103_46 ki_0 ?_
    refine rf_iconst c_103_47 ki_2 ?_
    refine rf_ald (i := 0) (Or.inr ⟨0, rfl, rfl, rfl⟩) c_103_48 rfl ?_
    refine rf_geti hS c_103_49 rfl fl_9_55 rfl h_x0 ?_
    refine rf_bipush c_103_52 kb_17 ?_
    refine rf_isub c_103_54 ?_
    refine rf_imul c_103_55 ?_
    refine rf_iadd c_103_56 ?_
    refine rf_ist (i := 1) (Or.inr ⟨1, rfl, rfl, rfl⟩) c_103_57 (Nat.le_of_ble_eq_true rfl) rfl ?_
    exact t_Tp_readAtom_58 hS hd  x0 ((0 : Int32) + ((2 : Int32) * ((σ x0 8) - (17 : Int32)))) y0 σ h_x0
def f_Tp_readAtom (x0 : Nat) (σ : Mm) : Option (Int32 × Mm) := (f_Ct_isWithin σ (σ x0 8) (17 : Int32) (22 : Int32)).bind fun v8 => (if ¬ v8 = 0 then (if (20 : Int32) ≤ (σ x0 8) then (f_Tp_readAtom_41  x0 (((6 : Int32) + (σ x0 8)) - (20 : Int32)) (0 : Int32) σ) else (f_Tp_readAtom_41  x0 (((6 : Int32) + (σ x0 8)) - (20 : Int32)) (1 : Int32) σ)) else (some ((0 : Int32), σ)))
set_option maxRecDepth 100000 in
set_option maxHeartbeats 4000000 in
theorem t_Tp_readAtom_e {X : Xt} {S : Sh} (hS : ShOK S) {d : Nat} (hd : 1 ≤ d + 1) (x0 : Nat) (σ : Mm) (h_x0 : tgT x0 = 9) : Rf X S emM (f_Tp_readAtom x0 σ) (d + 1) 103 0 [.ref x0, unset0, unset0] [] σ := by
  unfold f_Tp_readAtom
  refine rf_ald (i := 0) (Or.inr ⟨0, rfl, rfl, rfl⟩) c_103_0 rfl ?_
  refine rf_geti hS c_103_1 rfl fl_9_55 rfl h_x0 ?_
  refine rf_bipush c_103_4 kb_17 ?_
  refine rf_bipush c_103_6 kb_22 ?_
  refine rf_callI (as := [.int (σ x0 8), .int (17 : Int32), .int (22 : Int32)]) (kd := 0) c_103_8 rfl (by decide) rfl ml_9_41 (by decide) rfl (rcv_0 rfl) (Nat.zero_le _) rfl rfl (t_Ct_isWithin hS (by omega) σ (σ x0 8) (17 : Int32) (22 : Int32)) (fun v8 => ?_)
  refine rf_ite (fun hc11 => ?_) (fun hc11 => ?_)
  · refine rf_b1t c_103_11 rfl (decide_eq_true hc11) ?_
    refine rf_bipush c_103_16 kb_6 ?_
    refine rf_ald (i := 0) (Or.inr ⟨0, rfl, rfl, rfl⟩) c_103_18 rfl ?_
    refine rf_geti hS c_103_19 rfl fl_9_55 rfl h_x0 ?_
    refine rf_iadd c_103_22 ?_
    refine rf_bipush c_103_23 kb_20 ?_
    refine rf_isub c_103_25 ?_
    refine rf_ist (i := 1) (Or.inr ⟨1, rfl, rfl, rfl⟩) c_103_26 (Nat.le_of_ble_eq_true rfl) rfl ?_
    refine rf_ald (i := 0) (Or.inr ⟨0, rfl, rfl, rfl⟩) c_103_27 rfl ?_
    refine rf_geti hS c_103_28 rfl fl_9_55 rfl h_x0 ?_
    refine rf_bipush c_103_31 kb_20 ?_
    refine rf_ite (fun hc33 => ?_) (fun hc33 => ?_)
    · refine rf_b2t c_103_33 rfl (decide_eq_true hc33) ?_
      refine rf_iconst c_103_40 ki_0 ?_
      exact t_Tp_readAtom_41 hS hd  x0 (((6 : Int32) + (σ x0 8)) - (20 : Int32)) (0 : Int32) (unset0) σ h_x0
    · refine rf_b2f c_103_33 rfl (decide_eq_false hc33) ?_
      refine rf_iconst c_103_36 ki_1 ?_
      refine rf_goto c_103_37 rfl ?_
      exact t_Tp_readAtom_41 hS hd  x0 (((6 : Int32) + (σ x0 8)) - (20 : Int32)) (1 : Int32) (unset0) σ h_x0
  · refine rf_b1f c_103_11 rfl (decide_eq_false hc11) ?_
    refine rf_iconst c_103_14 ki_0 ?_
    exact rf_ret c_103_15 rfl (by decide) rfl rfl
theorem t_Tp_readAtom {X : Xt} {S : Sh} (hS : ShOK S) {d : Nat} (hd : 1 ≤ d) (x0 : Nat) (σ : Mm) (h_x0 : tgT x0 = 9) : Rf X S emM (f_Tp_readAtom x0 σ) d 103 0 [.ref x0, unset0, unset0] [] σ := by
  obtain ⟨d1, rfl⟩ : ∃ d1, d = d1 + 1 := ⟨d - 1, by omega⟩
  exact t_Tp_readAtom_e hS hd x0 σ h_x0
theorem c_100_0 : cd 100 0 = some (.aload_n 0, 1) := by decide +kernel
theorem c_100_1 : cd 100 1 = some (.iload_n 1, 1) := by decide +kernel
theorem c_100_2 : cd 100 2 = some (.iload_n 2, 1) := by decide +kernel
theorem c_100_3 : cd 100 3 = some (.invokevirtual 87, 3) := by decide +kernel
theorem c_100_6 : cd 100 6 = some (.ifCond .ne (5), 3) := by decide +kernel
theorem c_100_9 : cd 100 9 = some (.iconst (0), 1) := by decide +kernel
theorem c_100_10 : cd 100 10 = some (.ireturn, 1) := by decide +kernel
theorem c_100_11 : cd 100 11 = some (.iconst (0), 1) := by decide +kernel
theorem c_100_12 : cd 100 12 = some (.istore_n 3, 1) := by decide +kernel
theorem c_100_13 : cd 100 13 = some (.iload_n 3, 1) := by decide +kernel
theorem c_100_14 : cd 100 14 = some (.bipush (96), 2) := by decide +kernel
theorem c_100_16 : cd 100 16 = some (.if_icmp .ge (43), 3) := by decide +kernel
theorem c_100_19 : cd 100 19 = some (.aload_n 0, 1) := by decide +kernel
theorem c_100_20 : cd 100 20 = some (.getfield 55, 3) := by decide +kernel
theorem c_100_23 : cd 100 23 = some (.bipush (8), 2) := by decide +kernel
theorem c_100_25 : cd 100 25 = some (.if_icmp .ne (34), 3) := by decide +kernel
theorem c_100_28 : cd 100 28 = some (.aload_n 0, 1) := by decide +kernel
theorem c_100_29 : cd 100 29 = some (.invokevirtual 62, 3) := by decide +kernel
theorem c_100_32 : cd 100 32 = some (.aload_n 0, 1) := by decide +kernel
theorem c_100_33 : cd 100 33 = some (.iload_n 1, 1) := by decide +kernel
theorem c_100_34 : cd 100 34 = some (.iload_n 2, 1) := by decide +kernel
theorem c_100_35 : cd 100 35 = some (.invokevirtual 87, 3) := by decide +kernel
theorem c_100_38 : cd 100 38 = some (.ifCond .ne (5), 3) := by decide +kernel
theorem c_100_41 : cd 100 41 = some (.iconst (0), 1) := by decide +kernel
theorem c_100_42 : cd 100 42 = some (.ireturn, 1) := by decide +kernel
theorem c_100_43 : cd 100 43 = some (.aload_n 0, 1) := by decide +kernel
theorem c_100_44 : cd 100 44 = some (.getfield 28, 3) := by decide +kernel
theorem c_100_47 : cd 100 47 = some (.bipush (11), 2) := by decide +kernel
theorem c_100_49 : cd 100 49 = some (.iconst (0), 1) := by decide +kernel
theorem c_100_50 : cd 100 50 = some (.invokevirtual 90, 3) := by decide +kernel
theorem c_100_53 : cd 100 53 = some (.iinc 3 (1), 3) := by decide +kernel
theorem c_100_56 : cd 100 56 = some (.goto (-43), 3) := by decide +kernel
theorem c_100_59 : cd 100 59 = some (.iconst (1), 1) := by decide +kernel
theorem c_100_60 : cd 100 60 = some (.ireturn, 1) := by decide +kernel
def f_Tp_readOr_59 (r101 : Nat → Int32 → Int32 → Mm → Option (Int32 × Mm)) (σ : Mm) : Option (Int32 × Mm) := some ((1 : Int32), σ)
set_option maxRecDepth 100000 in
set_option maxHeartbeats 4000000 in
theorem t_Tp_readOr_59 {X : Xt} {S : Sh} (hS : ShOK S) {d : Nat} (hd : 1 ≤ d + 1) {r101 : Nat → Int32 → Int32 → Mm → Option (Int32 × Mm)} (hr101 : ∀ (x0 : Nat) (x1 : Int32) (x2 : Int32) (σ : Mm) (h_x0 : tgT x0 = 9), Rf X S emM (r101 x0 x1 x2 σ) d 101 0 [.ref x0, .int x1, .int x2, unset0] [] σ) (u0 : Value) (u1 : Value) (u2 : Value) (u3 : Value) (σ : Mm) : Rf X S emM (f_Tp_readOr_59 r101 σ) (d + 1) 100 59 [u0, u1, u2, u3] [] σ := by
  unfold f_Tp_readOr_59
  refine rf_iconst c_100_59 ki_1 ?_
  exact rf_ret c_100_60 rfl (by decide) rfl rfl
def f_Tp_readOr_13 (r101 : Nat → Int32 → Int32 → Mm → Option (Int32 × Mm)) : Nat → Nat → Int32 → Int32 → Int32 → Mm → Option (Int32 × Mm)
  | 0, _, _, _, _, _ => none
  | n + 1, x0, x1, x2, x3, σ => (if (96 : Int32) ≤ x3 then (f_Tp_readOr_59 r101 σ) else (if ¬ (σ x0 8) = (8 : Int32) then (f_Tp_readOr_59 r101 σ) else ((f_Tp_advance x0 σ).bind fun v29 => (r101 x0 x1 x2 v29).bind fun v35 => (if ¬ v35.1 = 0 then ((f_Ru_addStep (rfT x0 4) (11 : Int32) (0 : Int32) v35.2).bind fun v50 => f_Tp_readOr_13 r101 n x0 x1 x2 (x3 + (1 : Int32)) v50) else (some ((0 : Int32), v35.2))))))
set_option maxRecDepth 100000 in
set_option maxHeartbeats 4000000 in
theorem t_Tp_readOr_13 {X : Xt} {S : Sh} (hS : ShOK S) {d : Nat} (hd : 1 ≤ d + 1) {r101 : Nat → Int32 → Int32 → Mm → Option (Int32 × Mm)} (hr101 : ∀ (x0 : Nat) (x1 : Int32) (x2 : Int32) (σ : Mm) (h_x0 : tgT x0 = 9), Rf X S emM (r101 x0 x1 x2 σ) d 101 0 [.ref x0, .int x1, .int x2, unset0] [] σ) : ∀ (n : Nat) (x0 : Nat) (x1 : Int32) (x2 : Int32) (x3 : Int32) (σ : Mm) (h_x0 : tgT x0 = 9), Rf X S emM (f_Tp_readOr_13 r101 n x0 x1 x2 x3 σ) (d + 1) 100 13 [.ref x0, .int x1, .int x2, .int x3] [] σ := by
  intro n
  induction n with
  | zero => intro x0 x1 x2 x3 σ h_x0; exact rf_none
  | succ n ih =>
    intro x0 x1 x2 x3 σ h_x0
    rw [f_Tp_readOr_13]
    refine rf_ild (i := 3) (Or.inr ⟨3, rfl, rfl, rfl⟩) c_100_13 rfl ?_
    refine rf_bipush c_100_14 kb_96 ?_
    refine rf_ite (fun hc16 => ?_) (fun hc16 => ?_)
    · refine rf_b2t c_100_16 rfl (decide_eq_true hc16) ?_
      exact t_Tp_readOr_59 hS hd hr101  (.ref x0) (.int x1) (.int x2) (.int x3) σ
    · refine rf_b2f c_100_16 rfl (decide_eq_false hc16) ?_
      refine rf_ald (i := 0) (Or.inr ⟨0, rfl, rfl, rfl⟩) c_100_19 rfl ?_
      refine rf_geti hS c_100_20 rfl fl_9_55 rfl h_x0 ?_
      refine rf_bipush c_100_23 kb_8 ?_
      refine rf_ite (fun hc25 => ?_) (fun hc25 => ?_)
      · refine rf_b2t c_100_25 rfl (decide_eq_true hc25) ?_
        exact t_Tp_readOr_59 hS hd hr101  (.ref x0) (.int x1) (.int x2) (.int x3) σ
      · refine rf_b2f c_100_25 rfl (decide_eq_false hc25) ?_
        refine rf_ald (i := 0) (Or.inr ⟨0, rfl, rfl, rfl⟩) c_100_28 rfl ?_
        refine rf_callV (as := [.ref x0]) (kd := 1) c_100_29 rfl (by decide) rfl ml_9_62 (by decide) rfl (rcv_1 hS rfl rfl h_x0 (by decide)) (Nat.zero_le _) rfl rfl (t_Tp_advance hS (by omega) x0 σ h_x0) (fun v29 => ?_)
        refine rf_ald (i := 0) (Or.inr ⟨0, rfl, rfl, rfl⟩) c_100_32 rfl ?_
        refine rf_ild (i := 1) (Or.inr ⟨1, rfl, rfl, rfl⟩) c_100_33 rfl ?_
        refine rf_ild (i := 2) (Or.inr ⟨2, rfl, rfl, rfl⟩) c_100_34 rfl ?_
        refine rf_callM (as := [.ref x0, .int x1, .int x2]) (kd := 1) c_100_35 rfl (by decide) rfl ml_9_87 (by decide) rfl (rcv_1 hS rfl rfl h_x0 (by decide)) (Nat.zero_le _) rfl rfl (hr101 x0 x1 x2 v29 h_x0) (fun v35 => ?_)
        refine rf_ite (fun hc38 => ?_) (fun hc38 => ?_)
        · refine rf_b1t c_100_38 rfl (decide_eq_true hc38) ?_
          refine rf_ald (i := 0) (Or.inr ⟨0, rfl, rfl, rfl⟩) c_100_43 rfl ?_
          refine rf_getr hS c_100_44 rfl fl_9_28 rfl h_x0 ?_
          refine rf_bipush c_100_47 kb_11 ?_
          refine rf_iconst c_100_49 ki_0 ?_
          refine rf_callV (as := [.ref (rfT x0 4), .int (11 : Int32), .int (0 : Int32)]) (kd := 1) c_100_50 rfl (by decide) rfl ml_9_90 (by decide) rfl (rcv_1 hS rfl rfl (tf_9_4 h_x0) (by decide)) (Nat.zero_le _) rfl rfl (t_Ru_addStep hS (by omega) (rfT x0 4) (11 : Int32) (0 : Int32) v35.2 (tf_9_4 h_x0)) (fun v50 => ?_)
          refine rf_iinc c_100_53 rfl ki_1 rfl ?_
          refine rf_goto c_100_56 rfl ?_
          exact ih x0 x1 x2 (x3 + (1 : Int32)) v50 h_x0
        · refine rf_b1f c_100_38 rfl (decide_eq_false hc38) ?_
          refine rf_iconst c_100_41 ki_0 ?_
          exact rf_ret c_100_42 rfl (by decide) rfl rfl
def f_Tp_readOr (r101 : Nat → Int32 → Int32 → Mm → Option (Int32 × Mm)) (x0 : Nat) (x1 : Int32) (x2 : Int32) (σ : Mm) : Option (Int32 × Mm) := (r101 x0 x1 x2 σ).bind fun v3 => (if ¬ v3.1 = 0 then (f_Tp_readOr_13 r101 NN x0 x1 x2 (0 : Int32) v3.2) else (some ((0 : Int32), v3.2)))
set_option maxRecDepth 100000 in
set_option maxHeartbeats 4000000 in
theorem t_Tp_readOr_e {X : Xt} {S : Sh} (hS : ShOK S) {d : Nat} (hd : 1 ≤ d + 1) {r101 : Nat → Int32 → Int32 → Mm → Option (Int32 × Mm)} (hr101 : ∀ (x0 : Nat) (x1 : Int32) (x2 : Int32) (σ : Mm) (h_x0 : tgT x0 = 9), Rf X S emM (r101 x0 x1 x2 σ) d 101 0 [.ref x0, .int x1, .int x2, unset0] [] σ) (x0 : Nat) (x1 : Int32) (x2 : Int32) (σ : Mm) (h_x0 : tgT x0 = 9) : Rf X S emM (f_Tp_readOr r101 x0 x1 x2 σ) (d + 1) 100 0 [.ref x0, .int x1, .int x2, unset0] [] σ := by
  unfold f_Tp_readOr
  refine rf_ald (i := 0) (Or.inr ⟨0, rfl, rfl, rfl⟩) c_100_0 rfl ?_
  refine rf_ild (i := 1) (Or.inr ⟨1, rfl, rfl, rfl⟩) c_100_1 rfl ?_
  refine rf_ild (i := 2) (Or.inr ⟨2, rfl, rfl, rfl⟩) c_100_2 rfl ?_
  refine rf_callM (as := [.ref x0, .int x1, .int x2]) (kd := 1) c_100_3 rfl (by decide) rfl ml_9_87 (by decide) rfl (rcv_1 hS rfl rfl h_x0 (by decide)) (Nat.zero_le _) rfl rfl (hr101 x0 x1 x2 σ h_x0) (fun v3 => ?_)
  refine rf_ite (fun hc6 => ?_) (fun hc6 => ?_)
  · refine rf_b1t c_100_6 rfl (decide_eq_true hc6) ?_
    refine rf_iconst c_100_11 ki_0 ?_
    refine rf_ist (i := 3) (Or.inr ⟨3, rfl, rfl, rfl⟩) c_100_12 (Nat.le_of_ble_eq_true rfl) rfl ?_
    exact t_Tp_readOr_13 hS hd hr101  NN x0 x1 x2 (0 : Int32) v3.2 h_x0
  · refine rf_b1f c_100_6 rfl (decide_eq_false hc6) ?_
    refine rf_iconst c_100_9 ki_0 ?_
    exact rf_ret c_100_10 rfl (by decide) rfl rfl
theorem c_101_0 : cd 101 0 = some (.aload_n 0, 1) := by decide +kernel
theorem c_101_1 : cd 101 1 = some (.iload_n 1, 1) := by decide +kernel
theorem c_101_2 : cd 101 2 = some (.iload_n 2, 1) := by decide +kernel
theorem c_101_3 : cd 101 3 = some (.invokevirtual 94, 3) := by decide +kernel
theorem c_101_6 : cd 101 6 = some (.ifCond .ne (5), 3) := by decide +kernel
theorem c_101_9 : cd 101 9 = some (.iconst (0), 1) := by decide +kernel
theorem c_101_10 : cd 101 10 = some (.ireturn, 1) := by decide +kernel
theorem c_101_11 : cd 101 11 = some (.iconst (0), 1) := by decide +kernel
theorem c_101_12 : cd 101 12 = some (.istore_n 3, 1) := by decide +kernel
theorem c_101_13 : cd 101 13 = some (.iload_n 3, 1) := by decide +kernel
theorem c_101_14 : cd 101 14 = some (.bipush (96), 2) := by decide +kernel
theorem c_101_16 : cd 101 16 = some (.if_icmp .ge (43), 3) := by decide +kernel
theorem c_101_19 : cd 101 19 = some (.aload_n 0, 1) := by decide +kernel
theorem c_101_20 : cd 101 20 = some (.getfield 55, 3) := by decide +kernel
theorem c_101_23 : cd 101 23 = some (.bipush (9), 2) := by decide +kernel
theorem c_101_25 : cd 101 25 = some (.if_icmp .ne (34), 3) := by decide +kernel
theorem c_101_28 : cd 101 28 = some (.aload_n 0, 1) := by decide +kernel
theorem c_101_29 : cd 101 29 = some (.invokevirtual 62, 3) := by decide +kernel
theorem c_101_32 : cd 101 32 = some (.aload_n 0, 1) := by decide +kernel
theorem c_101_33 : cd 101 33 = some (.iload_n 1, 1) := by decide +kernel
theorem c_101_34 : cd 101 34 = some (.iload_n 2, 1) := by decide +kernel
theorem c_101_35 : cd 101 35 = some (.invokevirtual 94, 3) := by decide +kernel
theorem c_101_38 : cd 101 38 = some (.ifCond .ne (5), 3) := by decide +kernel
theorem c_101_41 : cd 101 41 = some (.iconst (0), 1) := by decide +kernel
theorem c_101_42 : cd 101 42 = some (.ireturn, 1) := by decide +kernel
theorem c_101_43 : cd 101 43 = some (.aload_n 0, 1) := by decide +kernel
theorem c_101_44 : cd 101 44 = some (.getfield 28, 3) := by decide +kernel
theorem c_101_47 : cd 101 47 = some (.bipush (10), 2) := by decide +kernel
theorem c_101_49 : cd 101 49 = some (.iconst (0), 1) := by decide +kernel
theorem c_101_50 : cd 101 50 = some (.invokevirtual 90, 3) := by decide +kernel
theorem c_101_53 : cd 101 53 = some (.iinc 3 (1), 3) := by decide +kernel
theorem c_101_56 : cd 101 56 = some (.goto (-43), 3) := by decide +kernel
theorem c_101_59 : cd 101 59 = some (.iconst (1), 1) := by decide +kernel
theorem c_101_60 : cd 101 60 = some (.ireturn, 1) := by decide +kernel
def f_Tp_readAnd_59 (r102 : Nat → Int32 → Int32 → Mm → Option (Int32 × Mm)) (σ : Mm) : Option (Int32 × Mm) := some ((1 : Int32), σ)
set_option maxRecDepth 100000 in
set_option maxHeartbeats 4000000 in
theorem t_Tp_readAnd_59 {X : Xt} {S : Sh} (hS : ShOK S) {d : Nat} (hd : 1 ≤ d + 1) {r102 : Nat → Int32 → Int32 → Mm → Option (Int32 × Mm)} (hr102 : ∀ (x0 : Nat) (x1 : Int32) (x2 : Int32) (σ : Mm) (h_x0 : tgT x0 = 9), Rf X S emM (r102 x0 x1 x2 σ) d 102 0 [.ref x0, .int x1, .int x2] [] σ) (u0 : Value) (u1 : Value) (u2 : Value) (u3 : Value) (σ : Mm) : Rf X S emM (f_Tp_readAnd_59 r102 σ) (d + 1) 101 59 [u0, u1, u2, u3] [] σ := by
  unfold f_Tp_readAnd_59
  refine rf_iconst c_101_59 ki_1 ?_
  exact rf_ret c_101_60 rfl (by decide) rfl rfl
def f_Tp_readAnd_13 (r102 : Nat → Int32 → Int32 → Mm → Option (Int32 × Mm)) : Nat → Nat → Int32 → Int32 → Int32 → Mm → Option (Int32 × Mm)
  | 0, _, _, _, _, _ => none
  | n + 1, x0, x1, x2, x3, σ => (if (96 : Int32) ≤ x3 then (f_Tp_readAnd_59 r102 σ) else (if ¬ (σ x0 8) = (9 : Int32) then (f_Tp_readAnd_59 r102 σ) else ((f_Tp_advance x0 σ).bind fun v29 => (r102 x0 x1 x2 v29).bind fun v35 => (if ¬ v35.1 = 0 then ((f_Ru_addStep (rfT x0 4) (10 : Int32) (0 : Int32) v35.2).bind fun v50 => f_Tp_readAnd_13 r102 n x0 x1 x2 (x3 + (1 : Int32)) v50) else (some ((0 : Int32), v35.2))))))
set_option maxRecDepth 100000 in
set_option maxHeartbeats 4000000 in
theorem t_Tp_readAnd_13 {X : Xt} {S : Sh} (hS : ShOK S) {d : Nat} (hd : 1 ≤ d + 1) {r102 : Nat → Int32 → Int32 → Mm → Option (Int32 × Mm)} (hr102 : ∀ (x0 : Nat) (x1 : Int32) (x2 : Int32) (σ : Mm) (h_x0 : tgT x0 = 9), Rf X S emM (r102 x0 x1 x2 σ) d 102 0 [.ref x0, .int x1, .int x2] [] σ) : ∀ (n : Nat) (x0 : Nat) (x1 : Int32) (x2 : Int32) (x3 : Int32) (σ : Mm) (h_x0 : tgT x0 = 9), Rf X S emM (f_Tp_readAnd_13 r102 n x0 x1 x2 x3 σ) (d + 1) 101 13 [.ref x0, .int x1, .int x2, .int x3] [] σ := by
  intro n
  induction n with
  | zero => intro x0 x1 x2 x3 σ h_x0; exact rf_none
  | succ n ih =>
    intro x0 x1 x2 x3 σ h_x0
    rw [f_Tp_readAnd_13]
    refine rf_ild (i := 3) (Or.inr ⟨3, rfl, rfl, rfl⟩) c_101_13 rfl ?_
    refine rf_bipush c_101_14 kb_96 ?_
    refine rf_ite (fun hc16 => ?_) (fun hc16 => ?_)
    · refine rf_b2t c_101_16 rfl (decide_eq_true hc16) ?_
      exact t_Tp_readAnd_59 hS hd hr102  (.ref x0) (.int x1) (.int x2) (.int x3) σ
    · refine rf_b2f c_101_16 rfl (decide_eq_false hc16) ?_
      refine rf_ald (i := 0) (Or.inr ⟨0, rfl, rfl, rfl⟩) c_101_19 rfl ?_
      refine rf_geti hS c_101_20 rfl fl_9_55 rfl h_x0 ?_
      refine rf_bipush c_101_23 kb_9 ?_
      refine rf_ite (fun hc25 => ?_) (fun hc25 => ?_)
      · refine rf_b2t c_101_25 rfl (decide_eq_true hc25) ?_
        exact t_Tp_readAnd_59 hS hd hr102  (.ref x0) (.int x1) (.int x2) (.int x3) σ
      · refine rf_b2f c_101_25 rfl (decide_eq_false hc25) ?_
        refine rf_ald (i := 0) (Or.inr ⟨0, rfl, rfl, rfl⟩) c_101_28 rfl ?_
        refine rf_callV (as := [.ref x0]) (kd := 1) c_101_29 rfl (by decide) rfl ml_9_62 (by decide) rfl (rcv_1 hS rfl rfl h_x0 (by decide)) (Nat.zero_le _) rfl rfl (t_Tp_advance hS (by omega) x0 σ h_x0) (fun v29 => ?_)
        refine rf_ald (i := 0) (Or.inr ⟨0, rfl, rfl, rfl⟩) c_101_32 rfl ?_
        refine rf_ild (i := 1) (Or.inr ⟨1, rfl, rfl, rfl⟩) c_101_33 rfl ?_
        refine rf_ild (i := 2) (Or.inr ⟨2, rfl, rfl, rfl⟩) c_101_34 rfl ?_
        refine rf_callM (as := [.ref x0, .int x1, .int x2]) (kd := 1) c_101_35 rfl (by decide) rfl ml_9_94 (by decide) rfl (rcv_1 hS rfl rfl h_x0 (by decide)) (Nat.zero_le _) rfl rfl (hr102 x0 x1 x2 v29 h_x0) (fun v35 => ?_)
        refine rf_ite (fun hc38 => ?_) (fun hc38 => ?_)
        · refine rf_b1t c_101_38 rfl (decide_eq_true hc38) ?_
          refine rf_ald (i := 0) (Or.inr ⟨0, rfl, rfl, rfl⟩) c_101_43 rfl ?_
          refine rf_getr hS c_101_44 rfl fl_9_28 rfl h_x0 ?_
          refine rf_bipush c_101_47 kb_10 ?_
          refine rf_iconst c_101_49 ki_0 ?_
          refine rf_callV (as := [.ref (rfT x0 4), .int (10 : Int32), .int (0 : Int32)]) (kd := 1) c_101_50 rfl (by decide) rfl ml_9_90 (by decide) rfl (rcv_1 hS rfl rfl (tf_9_4 h_x0) (by decide)) (Nat.zero_le _) rfl rfl (t_Ru_addStep hS (by omega) (rfT x0 4) (10 : Int32) (0 : Int32) v35.2 (tf_9_4 h_x0)) (fun v50 => ?_)
          refine rf_iinc c_101_53 rfl ki_1 rfl ?_
          refine rf_goto c_101_56 rfl ?_
          exact ih x0 x1 x2 (x3 + (1 : Int32)) v50 h_x0
        · refine rf_b1f c_101_38 rfl (decide_eq_false hc38) ?_
          refine rf_iconst c_101_41 ki_0 ?_
          exact rf_ret c_101_42 rfl (by decide) rfl rfl
def f_Tp_readAnd (r102 : Nat → Int32 → Int32 → Mm → Option (Int32 × Mm)) (x0 : Nat) (x1 : Int32) (x2 : Int32) (σ : Mm) : Option (Int32 × Mm) := (r102 x0 x1 x2 σ).bind fun v3 => (if ¬ v3.1 = 0 then (f_Tp_readAnd_13 r102 NN x0 x1 x2 (0 : Int32) v3.2) else (some ((0 : Int32), v3.2)))
set_option maxRecDepth 100000 in
set_option maxHeartbeats 4000000 in
theorem t_Tp_readAnd_e {X : Xt} {S : Sh} (hS : ShOK S) {d : Nat} (hd : 1 ≤ d + 1) {r102 : Nat → Int32 → Int32 → Mm → Option (Int32 × Mm)} (hr102 : ∀ (x0 : Nat) (x1 : Int32) (x2 : Int32) (σ : Mm) (h_x0 : tgT x0 = 9), Rf X S emM (r102 x0 x1 x2 σ) d 102 0 [.ref x0, .int x1, .int x2] [] σ) (x0 : Nat) (x1 : Int32) (x2 : Int32) (σ : Mm) (h_x0 : tgT x0 = 9) : Rf X S emM (f_Tp_readAnd r102 x0 x1 x2 σ) (d + 1) 101 0 [.ref x0, .int x1, .int x2, unset0] [] σ := by
  unfold f_Tp_readAnd
  refine rf_ald (i := 0) (Or.inr ⟨0, rfl, rfl, rfl⟩) c_101_0 rfl ?_
  refine rf_ild (i := 1) (Or.inr ⟨1, rfl, rfl, rfl⟩) c_101_1 rfl ?_
  refine rf_ild (i := 2) (Or.inr ⟨2, rfl, rfl, rfl⟩) c_101_2 rfl ?_
  refine rf_callM (as := [.ref x0, .int x1, .int x2]) (kd := 1) c_101_3 rfl (by decide) rfl ml_9_94 (by decide) rfl (rcv_1 hS rfl rfl h_x0 (by decide)) (Nat.zero_le _) rfl rfl (hr102 x0 x1 x2 σ h_x0) (fun v3 => ?_)
  refine rf_ite (fun hc6 => ?_) (fun hc6 => ?_)
  · refine rf_b1t c_101_6 rfl (decide_eq_true hc6) ?_
    refine rf_iconst c_101_11 ki_0 ?_
    refine rf_ist (i := 3) (Or.inr ⟨3, rfl, rfl, rfl⟩) c_101_12 (Nat.le_of_ble_eq_true rfl) rfl ?_
    exact t_Tp_readAnd_13 hS hd hr102  NN x0 x1 x2 (0 : Int32) v3.2 h_x0
  · refine rf_b1f c_101_6 rfl (decide_eq_false hc6) ?_
    refine rf_iconst c_101_9 ki_0 ?_
    exact rf_ret c_101_10 rfl (by decide) rfl rfl
theorem c_102_0 : cd 102 0 = some (.aload_n 0, 1) := by decide +kernel
theorem c_102_1 : cd 102 1 = some (.getfield 55, 3) := by decide +kernel
theorem c_102_4 : cd 102 4 = some (.bipush (10), 2) := by decide +kernel
theorem c_102_6 : cd 102 6 = some (.if_icmp .ne (38), 3) := by decide +kernel
theorem c_102_9 : cd 102 9 = some (.iload_n 2, 1) := by decide +kernel
theorem c_102_10 : cd 102 10 = some (.bipush (8), 2) := by decide +kernel
theorem c_102_12 : cd 102 12 = some (.if_icmp .ge (32), 3) := by decide +kernel
theorem c_102_15 : cd 102 15 = some (.aload_n 0, 1) := by decide +kernel
theorem c_102_16 : cd 102 16 = some (.invokevirtual 62, 3) := by decide +kernel
theorem c_102_19 : cd 102 19 = some (.aload_n 0, 1) := by decide +kernel
theorem c_102_20 : cd 102 20 = some (.iload_n 1, 1) := by decide +kernel
theorem c_102_21 : cd 102 21 = some (.iload_n 2, 1) := by decide +kernel
theorem c_102_22 : cd 102 22 = some (.iconst (1), 1) := by decide +kernel
theorem c_102_23 : cd 102 23 = some (.iadd, 1) := by decide +kernel
theorem c_102_24 : cd 102 24 = some (.invokevirtual 94, 3) := by decide +kernel
theorem c_102_27 : cd 102 27 = some (.ifCond .ne (5), 3) := by decide +kernel
theorem c_102_30 : cd 102 30 = some (.iconst (0), 1) := by decide +kernel
theorem c_102_31 : cd 102 31 = some (.ireturn, 1) := by decide +kernel
theorem c_102_32 : cd 102 32 = some (.aload_n 0, 1) := by decide +kernel
theorem c_102_33 : cd 102 33 = some (.getfield 28, 3) := by decide +kernel
theorem c_102_36 : cd 102 36 = some (.bipush (9), 2) := by decide +kernel
theorem c_102_38 : cd 102 38 = some (.iconst (0), 1) := by decide +kernel
theorem c_102_39 : cd 102 39 = some (.invokevirtual 90, 3) := by decide +kernel
theorem c_102_42 : cd 102 42 = some (.iconst (1), 1) := by decide +kernel
theorem c_102_43 : cd 102 43 = some (.ireturn, 1) := by decide +kernel
theorem c_102_44 : cd 102 44 = some (.aload_n 0, 1) := by decide +kernel
theorem c_102_45 : cd 102 45 = some (.getfield 55, 3) := by decide +kernel
theorem c_102_48 : cd 102 48 = some (.iconst (2), 1) := by decide +kernel
theorem c_102_49 : cd 102 49 = some (.if_icmp .ne (40), 3) := by decide +kernel
theorem c_102_52 : cd 102 52 = some (.iload_n 1, 1) := by decide +kernel
theorem c_102_53 : cd 102 53 = some (.bipush (8), 2) := by decide +kernel
theorem c_102_55 : cd 102 55 = some (.if_icmp .ge (34), 3) := by decide +kernel
theorem c_102_58 : cd 102 58 = some (.aload_n 0, 1) := by decide +kernel
theorem c_102_59 : cd 102 59 = some (.invokevirtual 62, 3) := by decide +kernel
theorem c_102_62 : cd 102 62 = some (.aload_n 0, 1) := by decide +kernel
theorem c_102_63 : cd 102 63 = some (.iload_n 1, 1) := by decide +kernel
theorem c_102_64 : cd 102 64 = some (.iconst (1), 1) := by decide +kernel
theorem c_102_65 : cd 102 65 = some (.iadd, 1) := by decide +kernel
theorem c_102_66 : cd 102 66 = some (.iload_n 2, 1) := by decide +kernel
theorem c_102_67 : cd 102 67 = some (.invokevirtual 65, 3) := by decide +kernel
theorem c_102_70 : cd 102 70 = some (.ifCond .eq (11), 3) := by decide +kernel
theorem c_102_73 : cd 102 73 = some (.aload_n 0, 1) := by decide +kernel
theorem c_102_74 : cd 102 74 = some (.getfield 55, 3) := by decide +kernel
theorem c_102_77 : cd 102 77 = some (.iconst (3), 1) := by decide +kernel
theorem c_102_78 : cd 102 78 = some (.if_icmp .eq (5), 3) := by decide +kernel
theorem c_102_81 : cd 102 81 = some (.iconst (0), 1) := by decide +kernel
theorem c_102_82 : cd 102 82 = some (.ireturn, 1) := by decide +kernel
theorem c_102_83 : cd 102 83 = some (.aload_n 0, 1) := by decide +kernel
theorem c_102_84 : cd 102 84 = some (.invokevirtual 62, 3) := by decide +kernel
theorem c_102_87 : cd 102 87 = some (.iconst (1), 1) := by decide +kernel
theorem c_102_88 : cd 102 88 = some (.ireturn, 1) := by decide +kernel
theorem c_102_89 : cd 102 89 = some (.aload_n 0, 1) := by decide +kernel
theorem c_102_90 : cd 102 90 = some (.invokevirtual 97, 3) := by decide +kernel
theorem c_102_93 : cd 102 93 = some (.ireturn, 1) := by decide +kernel
def f_Tp_readNot_81 (r100 : Nat → Int32 → Int32 → Mm → Option (Int32 × Mm)) (r102 : Nat → Int32 → Int32 → Mm → Option (Int32 × Mm)) (σ : Mm) : Option (Int32 × Mm) := some ((0 : Int32), σ)
set_option maxRecDepth 100000 in
set_option maxHeartbeats 4000000 in
theorem t_Tp_readNot_81 {X : Xt} {S : Sh} (hS : ShOK S) {d : Nat} (hd : 2 ≤ d + 1) {r100 : Nat → Int32 → Int32 → Mm → Option (Int32 × Mm)} (hr100 : ∀ (x0 : Nat) (x1 : Int32) (x2 : Int32) (σ : Mm) (h_x0 : tgT x0 = 9), Rf X S emM (r100 x0 x1 x2 σ) d 100 0 [.ref x0, .int x1, .int x2, unset0] [] σ) {r102 : Nat → Int32 → Int32 → Mm → Option (Int32 × Mm)} (hr102 : ∀ (x0 : Nat) (x1 : Int32) (x2 : Int32) (σ : Mm) (h_x0 : tgT x0 = 9), Rf X S emM (r102 x0 x1 x2 σ) d 102 0 [.ref x0, .int x1, .int x2] [] σ) (u0 : Value) (u1 : Value) (u2 : Value) (σ : Mm) : Rf X S emM (f_Tp_readNot_81 r100 r102 σ) (d + 1) 102 81 [u0, u1, u2] [] σ := by
  unfold f_Tp_readNot_81
  refine rf_iconst c_102_81 ki_0 ?_
  exact rf_ret c_102_82 rfl (by decide) rfl rfl
def f_Tp_readNot_89 (r100 : Nat → Int32 → Int32 → Mm → Option (Int32 × Mm)) (r102 : Nat → Int32 → Int32 → Mm → Option (Int32 × Mm)) (x0 : Nat) (σ : Mm) : Option (Int32 × Mm) := (f_Tp_readAtom x0 σ).bind fun v90 => if zB v90.1 = true then some (v90.1, v90.2) else none
set_option maxRecDepth 100000 in
set_option maxHeartbeats 4000000 in
theorem t_Tp_readNot_89 {X : Xt} {S : Sh} (hS : ShOK S) {d : Nat} (hd : 2 ≤ d + 1) {r100 : Nat → Int32 → Int32 → Mm → Option (Int32 × Mm)} (hr100 : ∀ (x0 : Nat) (x1 : Int32) (x2 : Int32) (σ : Mm) (h_x0 : tgT x0 = 9), Rf X S emM (r100 x0 x1 x2 σ) d 100 0 [.ref x0, .int x1, .int x2, unset0] [] σ) {r102 : Nat → Int32 → Int32 → Mm → Option (Int32 × Mm)} (hr102 : ∀ (x0 : Nat) (x1 : Int32) (x2 : Int32) (σ : Mm) (h_x0 : tgT x0 = 9), Rf X S emM (r102 x0 x1 x2 σ) d 102 0 [.ref x0, .int x1, .int x2] [] σ) (x0 : Nat) (u1 : Value) (u2 : Value) (σ : Mm) (h_x0 : tgT x0 = 9) : Rf X S emM (f_Tp_readNot_89 r100 r102 x0 σ) (d + 1) 102 89 [.ref x0, u1, u2] [] σ := by
  unfold f_Tp_readNot_89
  refine rf_ald (i := 0) (Or.inr ⟨0, rfl, rfl, rfl⟩) c_102_89 rfl ?_
  refine rf_callM (as := [.ref x0]) (kd := 1) c_102_90 rfl (by decide) rfl ml_9_97 (by decide) rfl (rcv_1 hS rfl rfl h_x0 (by decide)) (Nat.zero_le _) rfl rfl (t_Tp_readAtom hS (by omega) x0 σ h_x0) (fun v90 => ?_)
  refine rf_ite (fun hq93 => ?_) (fun _ => rf_none)
  exact rf_ret c_102_93 rfl (zB_n hq93) rfl rfl
def f_Tp_readNot_44 (r100 : Nat → Int32 → Int32 → Mm → Option (Int32 × Mm)) (r102 : Nat → Int32 → Int32 → Mm → Option (Int32 × Mm)) (x0 : Nat) (x1 : Int32) (x2 : Int32) (σ : Mm) : Option (Int32 × Mm) := (if ¬ (σ x0 8) = (2 : Int32) then (f_Tp_readNot_89 r100 r102 x0 σ) else (if (8 : Int32) ≤ x1 then (f_Tp_readNot_89 r100 r102 x0 σ) else ((f_Tp_advance x0 σ).bind fun v59 => (r100 x0 (x1 + (1 : Int32)) x2 v59).bind fun v67 => (if v67.1 = 0 then (f_Tp_readNot_81 r100 r102 v67.2) else (if (v67.2 x0 8) = (3 : Int32) then ((f_Tp_advance x0 v67.2).bind fun v84 => some ((1 : Int32), v84)) else (f_Tp_readNot_81 r100 r102 v67.2))))))
set_option maxRecDepth 100000 in
set_option maxHeartbeats 4000000 in
theorem t_Tp_readNot_44 {X : Xt} {S : Sh} (hS : ShOK S) {d : Nat} (hd : 2 ≤ d + 1) {r100 : Nat → Int32 → Int32 → Mm → Option (Int32 × Mm)} (hr100 : ∀ (x0 : Nat) (x1 : Int32) (x2 : Int32) (σ : Mm) (h_x0 : tgT x0 = 9), Rf X S emM (r100 x0 x1 x2 σ) d 100 0 [.ref x0, .int x1, .int x2, unset0] [] σ) {r102 : Nat → Int32 → Int32 → Mm → Option (Int32 × Mm)} (hr102 : ∀ (x0 : Nat) (x1 : Int32) (x2 : Int32) (σ : Mm) (h_x0 : tgT x0 = 9), Rf X S emM (r102 x0 x1 x2 σ) d 102 0 [.ref x0, .int x1, .int x2] [] σ) (x0 : Nat) (x1 : Int32) (x2 : Int32) (σ : Mm) (h_x0 : tgT x0 = 9) : Rf X S emM (f_Tp_readNot_44 r100 r102 x0 x1 x2 σ) (d + 1) 102 44 [.ref x0, .int x1, .int x2] [] σ := by
  unfold f_Tp_readNot_44
  refine rf_ald (i := 0) (Or.inr ⟨0, rfl, rfl, rfl⟩) c_102_44 rfl ?_
  refine rf_geti hS c_102_45 rfl fl_9_55 rfl h_x0 ?_
  refine rf_iconst c_102_48 ki_2 ?_
  refine rf_ite (fun hc49 => ?_) (fun hc49 => ?_)
  · refine rf_b2t c_102_49 rfl (decide_eq_true hc49) ?_
    exact t_Tp_readNot_89 hS hd hr100 hr102  x0 (.int x1) (.int x2) σ h_x0
  · refine rf_b2f c_102_49 rfl (decide_eq_false hc49) ?_
    refine rf_ild (i := 1) (Or.inr ⟨1, rfl, rfl, rfl⟩) c_102_52 rfl ?_
    refine rf_bipush c_102_53 kb_8 ?_
    refine rf_ite (fun hc55 => ?_) (fun hc55 => ?_)
    · refine rf_b2t c_102_55 rfl (decide_eq_true hc55) ?_
      exact t_Tp_readNot_89 hS hd hr100 hr102  x0 (.int x1) (.int x2) σ h_x0
    · refine rf_b2f c_102_55 rfl (decide_eq_false hc55) ?_
      refine rf_ald (i := 0) (Or.inr ⟨0, rfl, rfl, rfl⟩) c_102_58 rfl ?_
      refine rf_callV (as := [.ref x0]) (kd := 1) c_102_59 rfl (by decide) rfl ml_9_62 (by decide) rfl (rcv_1 hS rfl rfl h_x0 (by decide)) (Nat.zero_le _) rfl rfl (t_Tp_advance hS (by omega) x0 σ h_x0) (fun v59 => ?_)
      refine rf_ald (i := 0) (Or.inr ⟨0, rfl, rfl, rfl⟩) c_102_62 rfl ?_
      refine rf_ild (i := 1) (Or.inr ⟨1, rfl, rfl, rfl⟩) c_102_63 rfl ?_
      refine rf_iconst c_102_64 ki_1 ?_
      refine rf_iadd c_102_65 ?_
      refine rf_ild (i := 2) (Or.inr ⟨2, rfl, rfl, rfl⟩) c_102_66 rfl ?_
      refine rf_callM (as := [.ref x0, .int (x1 + (1 : Int32)), .int x2]) (kd := 1) c_102_67 rfl (by decide) rfl ml_9_65 (by decide) rfl (rcv_1 hS rfl rfl h_x0 (by decide)) (Nat.zero_le _) rfl rfl (hr100 x0 (x1 + (1 : Int32)) x2 v59 h_x0) (fun v67 => ?_)
      refine rf_ite (fun hc70 => ?_) (fun hc70 => ?_)
      · refine rf_b1t c_102_70 rfl (decide_eq_true hc70) ?_
        exact t_Tp_readNot_81 hS hd hr100 hr102  (.ref x0) (.int x1) (.int x2) v67.2
      · refine rf_b1f c_102_70 rfl (decide_eq_false hc70) ?_
        refine rf_ald (i := 0) (Or.inr ⟨0, rfl, rfl, rfl⟩) c_102_73 rfl ?_
        refine rf_geti hS c_102_74 rfl fl_9_55 rfl h_x0 ?_
        refine rf_iconst c_102_77 ki_3 ?_
        refine rf_ite (fun hc78 => ?_) (fun hc78 => ?_)
        · refine rf_b2t c_102_78 rfl (decide_eq_true hc78) ?_
          refine rf_ald (i := 0) (Or.inr ⟨0, rfl, rfl, rfl⟩) c_102_83 rfl ?_
          refine rf_callV (as := [.ref x0]) (kd := 1) c_102_84 rfl (by decide) rfl ml_9_62 (by decide) rfl (rcv_1 hS rfl rfl h_x0 (by decide)) (Nat.zero_le _) rfl rfl (t_Tp_advance hS (by omega) x0 v67.2 h_x0) (fun v84 => ?_)
          refine rf_iconst c_102_87 ki_1 ?_
          exact rf_ret c_102_88 rfl (by decide) rfl rfl
        · refine rf_b2f c_102_78 rfl (decide_eq_false hc78) ?_
          exact t_Tp_readNot_81 hS hd hr100 hr102  (.ref x0) (.int x1) (.int x2) v67.2
def f_Tp_readNot (r100 : Nat → Int32 → Int32 → Mm → Option (Int32 × Mm)) (r102 : Nat → Int32 → Int32 → Mm → Option (Int32 × Mm)) (x0 : Nat) (x1 : Int32) (x2 : Int32) (σ : Mm) : Option (Int32 × Mm) := (if ¬ (σ x0 8) = (10 : Int32) then (f_Tp_readNot_44 r100 r102 x0 x1 x2 σ) else (if (8 : Int32) ≤ x2 then (f_Tp_readNot_44 r100 r102 x0 x1 x2 σ) else ((f_Tp_advance x0 σ).bind fun v16 => (r102 x0 x1 (x2 + (1 : Int32)) v16).bind fun v24 => (if ¬ v24.1 = 0 then ((f_Ru_addStep (rfT x0 4) (9 : Int32) (0 : Int32) v24.2).bind fun v39 => some ((1 : Int32), v39)) else (some ((0 : Int32), v24.2))))))
set_option maxRecDepth 100000 in
set_option maxHeartbeats 4000000 in
theorem t_Tp_readNot_e {X : Xt} {S : Sh} (hS : ShOK S) {d : Nat} (hd : 2 ≤ d + 1) {r100 : Nat → Int32 → Int32 → Mm → Option (Int32 × Mm)} (hr100 : ∀ (x0 : Nat) (x1 : Int32) (x2 : Int32) (σ : Mm) (h_x0 : tgT x0 = 9), Rf X S emM (r100 x0 x1 x2 σ) d 100 0 [.ref x0, .int x1, .int x2, unset0] [] σ) {r102 : Nat → Int32 → Int32 → Mm → Option (Int32 × Mm)} (hr102 : ∀ (x0 : Nat) (x1 : Int32) (x2 : Int32) (σ : Mm) (h_x0 : tgT x0 = 9), Rf X S emM (r102 x0 x1 x2 σ) d 102 0 [.ref x0, .int x1, .int x2] [] σ) (x0 : Nat) (x1 : Int32) (x2 : Int32) (σ : Mm) (h_x0 : tgT x0 = 9) : Rf X S emM (f_Tp_readNot r100 r102 x0 x1 x2 σ) (d + 1) 102 0 [.ref x0, .int x1, .int x2] [] σ := by
  unfold f_Tp_readNot
  refine rf_ald (i := 0) (Or.inr ⟨0, rfl, rfl, rfl⟩) c_102_0 rfl ?_
  refine rf_geti hS c_102_1 rfl fl_9_55 rfl h_x0 ?_
  refine rf_bipush c_102_4 kb_10 ?_
  refine rf_ite (fun hc6 => ?_) (fun hc6 => ?_)
  · refine rf_b2t c_102_6 rfl (decide_eq_true hc6) ?_
    exact t_Tp_readNot_44 hS hd hr100 hr102  x0 x1 x2 σ h_x0
  · refine rf_b2f c_102_6 rfl (decide_eq_false hc6) ?_
    refine rf_ild (i := 2) (Or.inr ⟨2, rfl, rfl, rfl⟩) c_102_9 rfl ?_
    refine rf_bipush c_102_10 kb_8 ?_
    refine rf_ite (fun hc12 => ?_) (fun hc12 => ?_)
    · refine rf_b2t c_102_12 rfl (decide_eq_true hc12) ?_
      exact t_Tp_readNot_44 hS hd hr100 hr102  x0 x1 x2 σ h_x0
    · refine rf_b2f c_102_12 rfl (decide_eq_false hc12) ?_
      refine rf_ald (i := 0) (Or.inr ⟨0, rfl, rfl, rfl⟩) c_102_15 rfl ?_
      refine rf_callV (as := [.ref x0]) (kd := 1) c_102_16 rfl (by decide) rfl ml_9_62 (by decide) rfl (rcv_1 hS rfl rfl h_x0 (by decide)) (Nat.zero_le _) rfl rfl (t_Tp_advance hS (by omega) x0 σ h_x0) (fun v16 => ?_)
      refine rf_ald (i := 0) (Or.inr ⟨0, rfl, rfl, rfl⟩) c_102_19 rfl ?_
      refine rf_ild (i := 1) (Or.inr ⟨1, rfl, rfl, rfl⟩) c_102_20 rfl ?_
      refine rf_ild (i := 2) (Or.inr ⟨2, rfl, rfl, rfl⟩) c_102_21 rfl ?_
      refine rf_iconst c_102_22 ki_1 ?_
      refine rf_iadd c_102_23 ?_
      refine rf_callM (as := [.ref x0, .int x1, .int (x2 + (1 : Int32))]) (kd := 1) c_102_24 rfl (by decide) rfl ml_9_94 (by decide) rfl (rcv_1 hS rfl rfl h_x0 (by decide)) (Nat.zero_le _) rfl rfl (hr102 x0 x1 (x2 + (1 : Int32)) v16 h_x0) (fun v24 => ?_)
      refine rf_ite (fun hc27 => ?_) (fun hc27 => ?_)
      · refine rf_b1t c_102_27 rfl (decide_eq_true hc27) ?_
        refine rf_ald (i := 0) (Or.inr ⟨0, rfl, rfl, rfl⟩) c_102_32 rfl ?_
        refine rf_getr hS c_102_33 rfl fl_9_28 rfl h_x0 ?_
        refine rf_bipush c_102_36 kb_9 ?_
        refine rf_iconst c_102_38 ki_0 ?_
        refine rf_callV (as := [.ref (rfT x0 4), .int (9 : Int32), .int (0 : Int32)]) (kd := 1) c_102_39 rfl (by decide) rfl ml_9_90 (by decide) rfl (rcv_1 hS rfl rfl (tf_9_4 h_x0) (by decide)) (Nat.zero_le _) rfl rfl (t_Ru_addStep hS (by omega) (rfT x0 4) (9 : Int32) (0 : Int32) v24.2 (tf_9_4 h_x0)) (fun v39 => ?_)
        refine rf_iconst c_102_42 ki_1 ?_
        exact rf_ret c_102_43 rfl (by decide) rfl rfl
      · refine rf_b1f c_102_27 rfl (decide_eq_false hc27) ?_
        refine rf_iconst c_102_30 ki_0 ?_
        exact rf_ret c_102_31 rfl (by decide) rfl rfl
def fz_Tp_readNot : Nat → Nat → Int32 → Int32 → Mm → Option (Int32 × Mm)
  | 0, _, _, _, _ => none
  | k + 1, x0, x1, x2, σ => f_Tp_readNot (f_Tp_readOr (f_Tp_readAnd (fz_Tp_readNot k))) (fz_Tp_readNot k) x0 x1 x2 σ
theorem tz_Tp_readNot {X : Xt} {S : Sh} (hS : ShOK S) : ∀ (k d : Nat) (hd : 3 * k + 2 ≤ d) (x0 : Nat) (x1 x2 : Int32) (σ : Mm) (h_x0 : tgT x0 = 9), Rf X S emM (fz_Tp_readNot k x0 x1 x2 σ) d 102 0 [.ref x0, .int x1, .int x2] [] σ := by
  intro k
  induction k with
  | zero => intro d hd x0 x1 x2 σ h_x0; exact rf_none
  | succ k ih =>
    intro d hd x0 x1 x2 σ h_x0
    obtain ⟨d1, rfl⟩ : ∃ d1, d = d1 + 3 := ⟨d - 3, by omega⟩
    rw [fz_Tp_readNot]
    exact t_Tp_readNot_e (d := d1 + 2) hS (by omega) (fun x0 x1 x2 σ h => t_Tp_readOr_e (d := d1 + 1) hS (by omega) (fun x0 x1 x2 σ h => t_Tp_readAnd_e (d := d1) hS (by omega) (fun x0 x1 x2 σ h => ih d1 (by omega) x0 x1 x2 σ h) x0 x1 x2 σ h) x0 x1 x2 σ h) (fun x0 x1 x2 σ h => ih (d1 + 2) (by omega) x0 x1 x2 σ h) x0 x1 x2 σ h_x0
def fz_Tp_readOr (x0 : Nat) (x1 x2 : Int32) (σ : Mm) : Option (Int32 × Mm) := f_Tp_readOr (f_Tp_readAnd (fz_Tp_readNot 18)) x0 x1 x2 σ
theorem tz_Tp_readOr {X : Xt} {S : Sh} (hS : ShOK S) {d : Nat} (hd : 60 ≤ d) (x0 : Nat) (x1 x2 : Int32) (σ : Mm) (h_x0 : tgT x0 = 9) : Rf X S emM (fz_Tp_readOr x0 x1 x2 σ) d 100 0 [.ref x0, .int x1, .int x2, unset0] [] σ := by
  obtain ⟨d1, rfl⟩ : ∃ d1, d = d1 + 2 := ⟨d - 2, by omega⟩
  exact t_Tp_readOr_e (d := d1 + 1) hS (by omega) (fun x0 x1 x2 σ h => t_Tp_readAnd_e (d := d1) hS (by omega) (fun x0 x1 x2 σ h => tz_Tp_readNot hS 18 d1 (by omega) x0 x1 x2 σ h) x0 x1 x2 σ h) x0 x1 x2 σ h_x0
theorem c_105_0 : cd 105 0 = some (.aload_n 0, 1) := by decide +kernel
theorem c_105_1 : cd 105 1 = some (.getfield 75, 3) := by decide +kernel
theorem c_105_4 : cd 105 4 = some (.bipush (96), 2) := by decide +kernel
theorem c_105_6 : cd 105 6 = some (.if_icmp .ge (33), 3) := by decide +kernel
theorem c_105_9 : cd 105 9 = some (.aload_n 0, 1) := by decide +kernel
theorem c_105_10 : cd 105 10 = some (.getfield 15, 3) := by decide +kernel
theorem c_105_13 : cd 105 13 = some (.aload_n 0, 1) := by decide +kernel
theorem c_105_14 : cd 105 14 = some (.getfield 75, 3) := by decide +kernel
theorem c_105_17 : cd 105 17 = some (.iload_n 1, 1) := by decide +kernel
theorem c_105_18 : cd 105 18 = some (.iastore, 1) := by decide +kernel
theorem c_105_19 : cd 105 19 = some (.aload_n 0, 1) := by decide +kernel
theorem c_105_20 : cd 105 20 = some (.getfield 19, 3) := by decide +kernel
theorem c_105_23 : cd 105 23 = some (.aload_n 0, 1) := by decide +kernel
theorem c_105_24 : cd 105 24 = some (.getfield 75, 3) := by decide +kernel
theorem c_105_27 : cd 105 27 = some (.iload_n 2, 1) := by decide +kernel
theorem c_105_28 : cd 105 28 = some (.iastore, 1) := by decide +kernel
theorem c_105_29 : cd 105 29 = some (.aload_n 0, 1) := by decide +kernel
theorem c_105_30 : cd 105 30 = some (.dup, 1) := by decide +kernel
theorem c_105_31 : cd 105 31 = some (.getfield 75, 3) := by decide +kernel
theorem c_105_34 : cd 105 34 = some (.iconst (1), 1) := by decide +kernel
theorem c_105_35 : cd 105 35 = some (.iadd, 1) := by decide +kernel
theorem c_105_36 : cd 105 36 = some (.putfield 75, 3) := by decide +kernel
theorem c_105_39 : cd 105 39 = some (.return_, 1) := by decide +kernel
def f_Tp_putToken_39 (σ : Mm) : Option Mm := some σ
set_option maxRecDepth 100000 in
set_option maxHeartbeats 4000000 in
theorem t_Tp_putToken_39 {X : Xt} {S : Sh} (hS : ShOK S) {d : Nat} (hd : 0 ≤ d) (u0 : Value) (u1 : Value) (u2 : Value) (σ : Mm) : Rf X S emV (f_Tp_putToken_39 σ) d 105 39 [u0, u1, u2] [] σ := by
  unfold f_Tp_putToken_39
  exact rf_vret c_105_39 rfl rfl
def f_Tp_putToken (x0 : Nat) (x1 : Int32) (x2 : Int32) (σ : Mm) : Option Mm := (if (96 : Int32) ≤ (σ x0 6) then (f_Tp_putToken_39  σ) else (if inbB (σ x0 6) 97 = true then nmM (up2 σ (rfT x0 1) (ix (σ x0 6)) x1) fun σ18 => if inbB (σ18 x0 6) 97 = true then nmM (up2 σ18 (rfT x0 2) (ix (σ18 x0 6)) x2) fun σ28 => nmM (up2 σ28 x0 6 ((σ28 x0 6) + (1 : Int32))) fun σ36 => f_Tp_putToken_39  σ36 else none else none))
set_option maxRecDepth 100000 in
set_option maxHeartbeats 4000000 in
theorem t_Tp_putToken {X : Xt} {S : Sh} (hS : ShOK S) {d : Nat} (hd : 0 ≤ d) (x0 : Nat) (x1 : Int32) (x2 : Int32) (σ : Mm) (h_x0 : tgT x0 = 9) : Rf X S emV (f_Tp_putToken x0 x1 x2 σ) d 105 0 [.ref x0, .int x1, .int x2] [] σ := by
  unfold f_Tp_putToken
  refine rf_ald (i := 0) (Or.inr ⟨0, rfl, rfl, rfl⟩) c_105_0 rfl ?_
  refine rf_geti hS c_105_1 rfl fl_9_75 rfl h_x0 ?_
  refine rf_bipush c_105_4 kb_96 ?_
  refine rf_ite (fun hc6 => ?_) (fun hc6 => ?_)
  · refine rf_b2t c_105_6 rfl (decide_eq_true hc6) ?_
    exact t_Tp_putToken_39 hS hd  (.ref x0) (.int x1) (.int x2) σ
  · refine rf_b2f c_105_6 rfl (decide_eq_false hc6) ?_
    refine rf_ald (i := 0) (Or.inr ⟨0, rfl, rfl, rfl⟩) c_105_9 rfl ?_
    refine rf_getr hS c_105_10 rfl fl_9_15 rfl h_x0 ?_
    refine rf_ald (i := 0) (Or.inr ⟨0, rfl, rfl, rfl⟩) c_105_13 rfl ?_
    refine rf_geti hS c_105_14 rfl fl_9_75 rfl h_x0 ?_
    refine rf_ild (i := 1) (Or.inr ⟨1, rfl, rfl, rfl⟩) c_105_17 rfl ?_
    refine rf_ite (fun hb18 => ?_) (fun _ => rf_none)
    refine rf_iast hS c_105_18 (tf_9_1 h_x0) (lf_9_1 h_x0) hb18 ?_
    refine rf_nm (fun σ18 => ?_)
    refine rf_ald (i := 0) (Or.inr ⟨0, rfl, rfl, rfl⟩) c_105_19 rfl ?_
    refine rf_getr hS c_105_20 rfl fl_9_19 rfl h_x0 ?_
    refine rf_ald (i := 0) (Or.inr ⟨0, rfl, rfl, rfl⟩) c_105_23 rfl ?_
    refine rf_geti hS c_105_24 rfl fl_9_75 rfl h_x0 ?_
    refine rf_ild (i := 2) (Or.inr ⟨2, rfl, rfl, rfl⟩) c_105_27 rfl ?_
    refine rf_ite (fun hb28 => ?_) (fun _ => rf_none)
    refine rf_iast hS c_105_28 (tf_9_2 h_x0) (lf_9_2 h_x0) hb28 ?_
    refine rf_nm (fun σ28 => ?_)
    refine rf_ald (i := 0) (Or.inr ⟨0, rfl, rfl, rfl⟩) c_105_29 rfl ?_
    refine rf_dup c_105_30 rfl ?_
    refine rf_geti hS c_105_31 rfl fl_9_75 rfl h_x0 ?_
    refine rf_iconst c_105_34 ki_1 ?_
    refine rf_iadd c_105_35 ?_
    refine rf_puti hS c_105_36 rfl fl_9_75 rfl rfl rfl rfl h_x0 ?_
    refine rf_nm (fun σ36 => ?_)
    exact t_Tp_putToken_39 hS hd  (.ref x0) (.int x1) (.int x2) σ36
theorem c_106_0 : cd 106 0 = some (.iload_n 0, 1) := by decide +kernel
theorem c_106_1 : cd 106 1 = some (.bipush (97), 2) := by decide +kernel
theorem c_106_3 : cd 106 3 = some (.if_icmp .lt (11), 3) := by decide +kernel
theorem c_106_6 : cd 106 6 = some (.iload_n 0, 1) := by decide +kernel
theorem c_106_7 : cd 106 7 = some (.bipush (122), 2) := by decide +kernel
theorem c_106_9 : cd 106 9 = some (.if_icmp .gt (5), 3) := by decide +kernel
theorem c_106_12 : cd 106 12 = some (.iconst (1), 1) := by decide +kernel
theorem c_106_13 : cd 106 13 = some (.ireturn, 1) := by decide +kernel
theorem c_106_14 : cd 106 14 = some (.iload_n 0, 1) := by decide +kernel
theorem c_106_15 : cd 106 15 = some (.bipush (48), 2) := by decide +kernel
theorem c_106_17 : cd 106 17 = some (.if_icmp .lt (13), 3) := by decide +kernel
theorem c_106_20 : cd 106 20 = some (.iload_n 0, 1) := by decide +kernel
theorem c_106_21 : cd 106 21 = some (.bipush (57), 2) := by decide +kernel
theorem c_106_23 : cd 106 23 = some (.if_icmp .gt (7), 3) := by decide +kernel
theorem c_106_26 : cd 106 26 = some (.iconst (2), 1) := by decide +kernel
theorem c_106_27 : cd 106 27 = some (.goto (4), 3) := by decide +kernel
theorem c_106_30 : cd 106 30 = some (.iconst (3), 1) := by decide +kernel
theorem c_106_31 : cd 106 31 = some (.ireturn, 1) := by decide +kernel
def f_Tp_sortOf_31 (σ : Mm) (y0 : Int32) : Option Int32 := some y0
set_option maxRecDepth 100000 in
set_option maxHeartbeats 4000000 in
theorem t_Tp_sortOf_31 {X : Xt} {S : Sh} (hS : ShOK S) {d : Nat} (hd : 0 ≤ d) (σ : Mm) (y0 : Int32) (u0 : Value) : Rf X S (emI σ) (f_Tp_sortOf_31 σ y0) d 106 31 [u0] [.int y0] σ := by
  unfold f_Tp_sortOf_31
  exact rf_ret c_106_31 rfl rfl rfl rfl
def f_Tp_sortOf_30 (σ : Mm) : Option Int32 := f_Tp_sortOf_31 σ (3 : Int32)
set_option maxRecDepth 100000 in
set_option maxHeartbeats 4000000 in
theorem t_Tp_sortOf_30 {X : Xt} {S : Sh} (hS : ShOK S) {d : Nat} (hd : 0 ≤ d) (σ : Mm) (u0 : Value) : Rf X S (emI σ) (f_Tp_sortOf_30 σ) d 106 30 [u0] [] σ := by
  unfold f_Tp_sortOf_30
  refine rf_iconst c_106_30 ki_3 ?_
  exact t_Tp_sortOf_31 hS hd σ  (3 : Int32) (u0)
def f_Tp_sortOf_14 (σ : Mm) (x0 : Int32) : Option Int32 := (if x0 < (48 : Int32) then (f_Tp_sortOf_30 σ ) else (if (57 : Int32) < x0 then (f_Tp_sortOf_30 σ ) else (f_Tp_sortOf_31 σ (2 : Int32))))
set_option maxRecDepth 100000 in
set_option maxHeartbeats 4000000 in
theorem t_Tp_sortOf_14 {X : Xt} {S : Sh} (hS : ShOK S) {d : Nat} (hd : 0 ≤ d) (σ : Mm) (x0 : Int32) : Rf X S (emI σ) (f_Tp_sortOf_14 σ x0) d 106 14 [.int x0] [] σ := by
  unfold f_Tp_sortOf_14
  refine rf_ild (i := 0) (Or.inr ⟨0, rfl, rfl, rfl⟩) c_106_14 rfl ?_
  refine rf_bipush c_106_15 kb_48 ?_
  refine rf_ite (fun hc17 => ?_) (fun hc17 => ?_)
  · refine rf_b2t c_106_17 rfl (decide_eq_true hc17) ?_
    exact t_Tp_sortOf_30 hS hd σ  (.int x0)
  · refine rf_b2f c_106_17 rfl (decide_eq_false hc17) ?_
    refine rf_ild (i := 0) (Or.inr ⟨0, rfl, rfl, rfl⟩) c_106_20 rfl ?_
    refine rf_bipush c_106_21 kb_57 ?_
    refine rf_ite (fun hc23 => ?_) (fun hc23 => ?_)
    · refine rf_b2t c_106_23 rfl (decide_eq_true hc23) ?_
      exact t_Tp_sortOf_30 hS hd σ  (.int x0)
    · refine rf_b2f c_106_23 rfl (decide_eq_false hc23) ?_
      refine rf_iconst c_106_26 ki_2 ?_
      refine rf_goto c_106_27 rfl ?_
      exact t_Tp_sortOf_31 hS hd σ  (2 : Int32) (.int x0)
def f_Tp_sortOf (σ : Mm) (x0 : Int32) : Option Int32 := (if x0 < (97 : Int32) then (f_Tp_sortOf_14 σ x0) else (if (122 : Int32) < x0 then (f_Tp_sortOf_14 σ x0) else (some (1 : Int32))))
set_option maxRecDepth 100000 in
set_option maxHeartbeats 4000000 in
theorem t_Tp_sortOf {X : Xt} {S : Sh} (hS : ShOK S) {d : Nat} (hd : 0 ≤ d) (σ : Mm) (x0 : Int32) : Rf X S (emI σ) (f_Tp_sortOf σ x0) d 106 0 [.int x0] [] σ := by
  unfold f_Tp_sortOf
  refine rf_ild (i := 0) (Or.inr ⟨0, rfl, rfl, rfl⟩) c_106_0 rfl ?_
  refine rf_bipush c_106_1 kb_97 ?_
  refine rf_ite (fun hc3 => ?_) (fun hc3 => ?_)
  · refine rf_b2t c_106_3 rfl (decide_eq_true hc3) ?_
    exact t_Tp_sortOf_14 hS hd σ  x0
  · refine rf_b2f c_106_3 rfl (decide_eq_false hc3) ?_
    refine rf_ild (i := 0) (Or.inr ⟨0, rfl, rfl, rfl⟩) c_106_6 rfl ?_
    refine rf_bipush c_106_7 kb_122 ?_
    refine rf_ite (fun hc9 => ?_) (fun hc9 => ?_)
    · refine rf_b2t c_106_9 rfl (decide_eq_true hc9) ?_
      exact t_Tp_sortOf_14 hS hd σ  x0
    · refine rf_b2f c_106_9 rfl (decide_eq_false hc9) ?_
      refine rf_iconst c_106_12 ki_1 ?_
      exact rf_ret c_106_13 rfl rfl rfl rfl
theorem c_107_0 : cd 107 0 = some (.iload_n 1, 1) := by decide +kernel
theorem c_107_1 : cd 107 1 = some (.iconst (1), 1) := by decide +kernel
theorem c_107_2 : cd 107 2 = some (.iadd, 1) := by decide +kernel
theorem c_107_3 : cd 107 3 = some (.istore_n 3, 1) := by decide +kernel
theorem c_107_4 : cd 107 4 = some (.iload_n 2, 1) := by decide +kernel
theorem c_107_5 : cd 107 5 = some (.iconst (3), 1) := by decide +kernel
theorem c_107_6 : cd 107 6 = some (.if_icmp .eq (30), 3) := by decide +kernel
theorem c_107_9 : cd 107 9 = some (.iload_n 3, 1) := by decide +kernel
theorem c_107_10 : cd 107 10 = some (.aload_n 0, 1) := by decide +kernel
theorem c_107_11 : cd 107 11 = some (.getfield 32, 3) := by decide +kernel
theorem c_107_14 : cd 107 14 = some (.if_icmp .ge (22), 3) := by decide +kernel
theorem c_107_17 : cd 107 17 = some (.aload_n 0, 1) := by decide +kernel
theorem c_107_18 : cd 107 18 = some (.getfield 9, 3) := by decide +kernel
theorem c_107_21 : cd 107 21 = some (.iload_n 3, 1) := by decide +kernel
theorem c_107_22 : cd 107 22 = some (.baload, 1) := by decide +kernel
theorem c_107_23 : cd 107 23 = some (.invokestatic 104, 3) := by decide +kernel
theorem c_107_26 : cd 107 26 = some (.iload_n 2, 1) := by decide +kernel
theorem c_107_27 : cd 107 27 = some (.if_icmp .ne (9), 3) := by decide +kernel
theorem c_107_30 : cd 107 30 = some (.iinc 3 (1), 3) := by decide +kernel
theorem c_107_33 : cd 107 33 = some (.goto (-29), 3) := by decide +kernel
theorem c_107_36 : cd 107 36 = some (.iload_n 3, 1) := by decide +kernel
theorem c_107_37 : cd 107 37 = some (.ireturn, 1) := by decide +kernel
def f_Tp_endOf_36 (σ : Mm) (x3 : Int32) : Option Int32 := some x3
set_option maxRecDepth 100000 in
set_option maxHeartbeats 4000000 in
theorem t_Tp_endOf_36 {X : Xt} {S : Sh} (hS : ShOK S) {d : Nat} (hd : 1 ≤ d + 1) (σ : Mm) (x3 : Int32) (u0 : Value) (u1 : Value) (u2 : Value) : Rf X S (emI σ) (f_Tp_endOf_36 σ x3) (d + 1) 107 36 [u0, u1, u2, .int x3] [] σ := by
  unfold f_Tp_endOf_36
  refine rf_ild (i := 3) (Or.inr ⟨3, rfl, rfl, rfl⟩) c_107_36 rfl ?_
  exact rf_ret c_107_37 rfl rfl rfl rfl
def f_Tp_endOf_4 (σ : Mm) : Nat → Nat → Int32 → Int32 → Option Int32
  | 0, _, _, _ => none
  | n + 1, x0, x2, x3 => (if x2 = (3 : Int32) then (f_Tp_endOf_36 σ x3) else (if (σ x0 5) ≤ x3 then (f_Tp_endOf_36 σ x3) else (if inbB x3 96 = true then (f_Tp_sortOf σ (σ (rfT x0 0) (ix x3))).bind fun v23 => (if ¬ v23 = x2 then (f_Tp_endOf_36 σ x3) else (f_Tp_endOf_4 σ n x0 x2 (x3 + (1 : Int32)))) else none)))
set_option maxRecDepth 100000 in
set_option maxHeartbeats 4000000 in
theorem t_Tp_endOf_4 {X : Xt} {S : Sh} (hS : ShOK S) {d : Nat} (hd : 1 ≤ d + 1) (σ : Mm) : ∀ (n : Nat) (x0 : Nat) (x2 : Int32) (x3 : Int32) (u1 : Value) (h_x0 : tgT x0 = 9), Rf X S (emI σ) (f_Tp_endOf_4 σ n x0 x2 x3) (d + 1) 107 4 [.ref x0, u1, .int x2, .int x3] [] σ := by
  intro n
  induction n with
  | zero => intro x0 x2 x3 u1 h_x0; exact rf_none
  | succ n ih =>
    intro x0 x2 x3 u1 h_x0
    rw [f_Tp_endOf_4]
    refine rf_ild (i := 2) (Or.inr ⟨2, rfl, rfl, rfl⟩) c_107_4 rfl ?_
    refine rf_iconst c_107_5 ki_3 ?_
    refine rf_ite (fun hc6 => ?_) (fun hc6 => ?_)
    · refine rf_b2t c_107_6 rfl (decide_eq_true hc6) ?_
      exact t_Tp_endOf_36 hS hd σ  x3 (.ref x0) (u1) (.int x2)
    · refine rf_b2f c_107_6 rfl (decide_eq_false hc6) ?_
      refine rf_ild (i := 3) (Or.inr ⟨3, rfl, rfl, rfl⟩) c_107_9 rfl ?_
      refine rf_ald (i := 0) (Or.inr ⟨0, rfl, rfl, rfl⟩) c_107_10 rfl ?_
      refine rf_geti hS c_107_11 rfl fl_9_32 rfl h_x0 ?_
      refine rf_ite (fun hc14 => ?_) (fun hc14 => ?_)
      · refine rf_b2t c_107_14 rfl (decide_eq_true hc14) ?_
        exact t_Tp_endOf_36 hS hd σ  x3 (.ref x0) (u1) (.int x2)
      · refine rf_b2f c_107_14 rfl (decide_eq_false hc14) ?_
        refine rf_ald (i := 0) (Or.inr ⟨0, rfl, rfl, rfl⟩) c_107_17 rfl ?_
        refine rf_getr hS c_107_18 rfl fl_9_9 rfl h_x0 ?_
        refine rf_ild (i := 3) (Or.inr ⟨3, rfl, rfl, rfl⟩) c_107_21 rfl ?_
        refine rf_ite (fun hb22 => ?_) (fun _ => rf_none)
        refine rf_bald hS c_107_22 (Or.inl (tf_9_0 h_x0)) (lf_9_0 h_x0) hb22 ?_
        refine rf_callI (as := [.int (σ (rfT x0 0) (ix x3))]) (kd := 0) c_107_23 rfl (by decide) rfl ml_9_104 (by decide) rfl (rcv_0 rfl) (Nat.zero_le _) rfl rfl (t_Tp_sortOf hS (by omega) σ (σ (rfT x0 0) (ix x3))) (fun v23 => ?_)
        refine rf_ild (i := 2) (Or.inr ⟨2, rfl, rfl, rfl⟩) c_107_26 rfl ?_
        refine rf_ite (fun hc27 => ?_) (fun hc27 => ?_)
        · refine rf_b2t c_107_27 rfl (decide_eq_true hc27) ?_
          exact t_Tp_endOf_36 hS hd σ  x3 (.ref x0) (u1) (.int x2)
        · refine rf_b2f c_107_27 rfl (decide_eq_false hc27) ?_
          refine rf_iinc c_107_30 rfl ki_1 rfl ?_
          refine rf_goto c_107_33 rfl ?_
          exact ih x0 x2 (x3 + (1 : Int32)) (u1) h_x0
def f_Tp_endOf (σ : Mm) (x0 : Nat) (x1 : Int32) (x2 : Int32) : Option Int32 := f_Tp_endOf_4 σ NN x0 x2 (x1 + (1 : Int32))
set_option maxRecDepth 100000 in
set_option maxHeartbeats 4000000 in
theorem t_Tp_endOf_e {X : Xt} {S : Sh} (hS : ShOK S) {d : Nat} (hd : 1 ≤ d + 1) (σ : Mm) (x0 : Nat) (x1 : Int32) (x2 : Int32) (h_x0 : tgT x0 = 9) : Rf X S (emI σ) (f_Tp_endOf σ x0 x1 x2) (d + 1) 107 0 [.ref x0, .int x1, .int x2, unset0] [] σ := by
  unfold f_Tp_endOf
  refine rf_ild (i := 1) (Or.inr ⟨1, rfl, rfl, rfl⟩) c_107_0 rfl ?_
  refine rf_iconst c_107_1 ki_1 ?_
  refine rf_iadd c_107_2 ?_
  refine rf_ist (i := 3) (Or.inr ⟨3, rfl, rfl, rfl⟩) c_107_3 (Nat.le_of_ble_eq_true rfl) rfl ?_
  exact t_Tp_endOf_4 hS hd σ  NN x0 x2 (x1 + (1 : Int32)) (.int x1) h_x0
theorem t_Tp_endOf {X : Xt} {S : Sh} (hS : ShOK S) {d : Nat} (hd : 1 ≤ d) (σ : Mm) (x0 : Nat) (x1 : Int32) (x2 : Int32) (h_x0 : tgT x0 = 9) : Rf X S (emI σ) (f_Tp_endOf σ x0 x1 x2) d 107 0 [.ref x0, .int x1, .int x2, unset0] [] σ := by
  obtain ⟨d1, rfl⟩ : ∃ d1, d = d1 + 1 := ⟨d - 1, by omega⟩
  exact t_Tp_endOf_e hS hd σ x0 x1 x2 h_x0
theorem c_109_0 : cd 109 0 = some (.iload_n 2, 1) := by decide +kernel
theorem c_109_1 : cd 109 1 = some (.iload_n 1, 1) := by decide +kernel
theorem c_109_2 : cd 109 2 = some (.isub, 1) := by decide +kernel
theorem c_109_3 : cd 109 3 = some (.iconst (5), 1) := by decide +kernel
theorem c_109_4 : cd 109 4 = some (.if_icmp .le (6), 3) := by decide +kernel
theorem c_109_7 : cd 109 7 = some (.bipush (23), 2) := by decide +kernel
theorem c_109_9 : cd 109 9 = some (.ireturn, 1) := by decide +kernel
theorem c_109_10 : cd 109 10 = some (.aload_n 0, 1) := by decide +kernel
theorem c_109_11 : cd 109 11 = some (.getfield 22, 3) := by decide +kernel
theorem c_109_14 : cd 109 14 = some (.aload_n 0, 1) := by decide +kernel
theorem c_109_15 : cd 109 15 = some (.getfield 75, 3) := by decide +kernel
theorem c_109_18 : cd 109 18 = some (.iconst (0), 1) := by decide +kernel
theorem c_109_19 : cd 109 19 = some (.iastore, 1) := by decide +kernel
theorem c_109_20 : cd 109 20 = some (.iload_n 1, 1) := by decide +kernel
theorem c_109_21 : cd 109 21 = some (.istore_n 3, 1) := by decide +kernel
theorem c_109_22 : cd 109 22 = some (.iload_n 3, 1) := by decide +kernel
theorem c_109_23 : cd 109 23 = some (.iload_n 2, 1) := by decide +kernel
theorem c_109_24 : cd 109 24 = some (.if_icmp .ge (40), 3) := by decide +kernel
theorem c_109_27 : cd 109 27 = some (.aload_n 0, 1) := by decide +kernel
theorem c_109_28 : cd 109 28 = some (.getfield 22, 3) := by decide +kernel
theorem c_109_31 : cd 109 31 = some (.aload_n 0, 1) := by decide +kernel
theorem c_109_32 : cd 109 32 = some (.getfield 75, 3) := by decide +kernel
theorem c_109_35 : cd 109 35 = some (.aload_n 0, 1) := by decide +kernel
theorem c_109_36 : cd 109 36 = some (.getfield 22, 3) := by decide +kernel
theorem c_109_39 : cd 109 39 = some (.aload_n 0, 1) := by decide +kernel
theorem c_109_40 : cd 109 40 = some (.getfield 75, 3) := by decide +kernel
theorem c_109_43 : cd 109 43 = some (.iaload, 1) := by decide +kernel
theorem c_109_44 : cd 109 44 = some (.bipush (10), 2) := by decide +kernel
theorem c_109_46 : cd 109 46 = some (.imul, 1) := by decide +kernel
theorem c_109_47 : cd 109 47 = some (.aload_n 0, 1) := by decide +kernel
theorem c_109_48 : cd 109 48 = some (.getfield 9, 3) := by decide +kernel
theorem c_109_51 : cd 109 51 = some (.iload_n 3, 1) := by decide +kernel
theorem c_109_52 : cd 109 52 = some (.baload, 1) := by decide +kernel
theorem c_109_53 : cd 109 53 = some (.iadd, 1) := by decide +kernel
theorem c_109_54 : cd 109 54 = some (.bipush (48), 2) := by decide +kernel
theorem c_109_56 : cd 109 56 = some (.isub, 1) := by decide +kernel
theorem c_109_57 : cd 109 57 = some (.iastore, 1) := by decide +kernel
theorem c_109_58 : cd 109 58 = some (.iinc 3 (1), 3) := by decide +kernel
theorem c_109_61 : cd 109 61 = some (.goto (-39), 3) := by decide +kernel
theorem c_109_64 : cd 109 64 = some (.iconst (1), 1) := by decide +kernel
theorem c_109_65 : cd 109 65 = some (.ireturn, 1) := by decide +kernel
def f_Tp_tokenOfNumber_22 : Nat → Nat → Int32 → Int32 → Mm → Option (Int32 × Mm)
  | 0, _, _, _, _ => none
  | n + 1, x0, x2, x3, σ => (if x2 ≤ x3 then (some ((1 : Int32), σ)) else (if inbB (σ x0 6) 97 = true then if inbB x3 96 = true then if inbB (σ x0 6) 97 = true then nmM (up2 σ (rfT x0 3) (ix (σ x0 6)) ((((σ (rfT x0 3) (ix (σ x0 6))) * (10 : Int32)) + (σ (rfT x0 0) (ix x3))) - (48 : Int32))) fun σ57 => f_Tp_tokenOfNumber_22  n x0 x2 (x3 + (1 : Int32)) σ57 else none else none else none))
set_option maxRecDepth 100000 in
set_option maxHeartbeats 4000000 in
theorem t_Tp_tokenOfNumber_22 {X : Xt} {S : Sh} (hS : ShOK S) {d : Nat} (hd : 0 ≤ d) : ∀ (n : Nat) (x0 : Nat) (x2 : Int32) (x3 : Int32) (u1 : Value) (σ : Mm) (h_x0 : tgT x0 = 9), Rf X S emM (f_Tp_tokenOfNumber_22 n x0 x2 x3 σ) d 109 22 [.ref x0, u1, .int x2, .int x3] [] σ := by
  intro n
  induction n with
  | zero => intro x0 x2 x3 u1 σ h_x0; exact rf_none
  | succ n ih =>
    intro x0 x2 x3 u1 σ h_x0
    rw [f_Tp_tokenOfNumber_22]
    refine rf_ild (i := 3) (Or.inr ⟨3, rfl, rfl, rfl⟩) c_109_22 rfl ?_
    refine rf_ild (i := 2) (Or.inr ⟨2, rfl, rfl, rfl⟩) c_109_23 rfl ?_
    refine rf_ite (fun hc24 => ?_) (fun hc24 => ?_)
    · refine rf_b2t c_109_24 rfl (decide_eq_true hc24) ?_
      refine rf_iconst c_109_64 ki_1 ?_
      exact rf_ret c_109_65 rfl rfl rfl rfl
    · refine rf_b2f c_109_24 rfl (decide_eq_false hc24) ?_
      refine rf_ald (i := 0) (Or.inr ⟨0, rfl, rfl, rfl⟩) c_109_27 rfl ?_
      refine rf_getr hS c_109_28 rfl fl_9_22 rfl h_x0 ?_
      refine rf_ald (i := 0) (Or.inr ⟨0, rfl, rfl, rfl⟩) c_109_31 rfl ?_
      refine rf_geti hS c_109_32 rfl fl_9_75 rfl h_x0 ?_
      refine rf_ald (i := 0) (Or.inr ⟨0, rfl, rfl, rfl⟩) c_109_35 rfl ?_
      refine rf_getr hS c_109_36 rfl fl_9_22 rfl h_x0 ?_
      refine rf_ald (i := 0) (Or.inr ⟨0, rfl, rfl, rfl⟩) c_109_39 rfl ?_
      refine rf_geti hS c_109_40 rfl fl_9_75 rfl h_x0 ?_
      refine rf_ite (fun hb43 => ?_) (fun _ => rf_none)
      refine rf_iald hS c_109_43 (tf_9_3 h_x0) (lf_9_3 h_x0) hb43 ?_
      refine rf_bipush c_109_44 kb_10 ?_
      refine rf_imul c_109_46 ?_
      refine rf_ald (i := 0) (Or.inr ⟨0, rfl, rfl, rfl⟩) c_109_47 rfl ?_
      refine rf_getr hS c_109_48 rfl fl_9_9 rfl h_x0 ?_
      refine rf_ild (i := 3) (Or.inr ⟨3, rfl, rfl, rfl⟩) c_109_51 rfl ?_
      refine rf_ite (fun hb52 => ?_) (fun _ => rf_none)
      refine rf_bald hS c_109_52 (Or.inl (tf_9_0 h_x0)) (lf_9_0 h_x0) hb52 ?_
      refine rf_iadd c_109_53 ?_
      refine rf_bipush c_109_54 kb_48 ?_
      refine rf_isub c_109_56 ?_
      refine rf_ite (fun hb57 => ?_) (fun _ => rf_none)
      refine rf_iast hS c_109_57 (tf_9_3 h_x0) (lf_9_3 h_x0) hb57 ?_
      refine rf_nm (fun σ57 => ?_)
      refine rf_iinc c_109_58 rfl ki_1 rfl ?_
      refine rf_goto c_109_61 rfl ?_
      exact ih x0 x2 (x3 + (1 : Int32)) (u1) σ57 h_x0
def f_Tp_tokenOfNumber (x0 : Nat) (x1 : Int32) (x2 : Int32) (σ : Mm) : Option (Int32 × Mm) := (if (x2 - x1) ≤ (5 : Int32) then (if inbB (σ x0 6) 97 = true then nmM (up2 σ (rfT x0 3) (ix (σ x0 6)) (0 : Int32)) fun σ19 => f_Tp_tokenOfNumber_22  NN x0 x2 x1 σ19 else none) else (some ((23 : Int32), σ)))
set_option maxRecDepth 100000 in
set_option maxHeartbeats 4000000 in
theorem t_Tp_tokenOfNumber {X : Xt} {S : Sh} (hS : ShOK S) {d : Nat} (hd : 0 ≤ d) (x0 : Nat) (x1 : Int32) (x2 : Int32) (σ : Mm) (h_x0 : tgT x0 = 9) : Rf X S emM (f_Tp_tokenOfNumber x0 x1 x2 σ) d 109 0 [.ref x0, .int x1, .int x2, unset0] [] σ := by
  unfold f_Tp_tokenOfNumber
  refine rf_ild (i := 2) (Or.inr ⟨2, rfl, rfl, rfl⟩) c_109_0 rfl ?_
  refine rf_ild (i := 1) (Or.inr ⟨1, rfl, rfl, rfl⟩) c_109_1 rfl ?_
  refine rf_isub c_109_2 ?_
  refine rf_iconst c_109_3 ki_5 ?_
  refine rf_ite (fun hc4 => ?_) (fun hc4 => ?_)
  · refine rf_b2t c_109_4 rfl (decide_eq_true hc4) ?_
    refine rf_ald (i := 0) (Or.inr ⟨0, rfl, rfl, rfl⟩) c_109_10 rfl ?_
    refine rf_getr hS c_109_11 rfl fl_9_22 rfl h_x0 ?_
    refine rf_ald (i := 0) (Or.inr ⟨0, rfl, rfl, rfl⟩) c_109_14 rfl ?_
    refine rf_geti hS c_109_15 rfl fl_9_75 rfl h_x0 ?_
    refine rf_iconst c_109_18 ki_0 ?_
    refine rf_ite (fun hb19 => ?_) (fun _ => rf_none)
    refine rf_iast hS c_109_19 (tf_9_3 h_x0) (lf_9_3 h_x0) hb19 ?_
    refine rf_nm (fun σ19 => ?_)
    refine rf_ild (i := 1) (Or.inr ⟨1, rfl, rfl, rfl⟩) c_109_20 rfl ?_
    refine rf_ist (i := 3) (Or.inr ⟨3, rfl, rfl, rfl⟩) c_109_21 (Nat.le_of_ble_eq_true rfl) rfl ?_
    exact t_Tp_tokenOfNumber_22 hS hd  NN x0 x2 x1 (.int x1) σ19 h_x0
  · refine rf_b2f c_109_4 rfl (decide_eq_false hc4) ?_
    refine rf_bipush c_109_7 kb_23 ?_
    exact rf_ret c_109_9 rfl rfl rfl rfl
theorem c_111_0 : cd 111 0 = some (.iconst (0), 1) := by decide +kernel
theorem c_111_1 : cd 111 1 = some (.istore 4, 2) := by decide +kernel
theorem c_111_3 : cd 111 3 = some (.iconst (0), 1) := by decide +kernel
theorem c_111_4 : cd 111 4 = some (.istore 5, 2) := by decide +kernel
theorem c_111_6 : cd 111 6 = some (.iconst (1), 1) := by decide +kernel
theorem c_111_7 : cd 111 7 = some (.istore 6, 2) := by decide +kernel
theorem c_111_9 : cd 111 9 = some (.iconst (0), 1) := by decide +kernel
theorem c_111_10 : cd 111 10 = some (.istore 7, 2) := by decide +kernel
theorem c_111_12 : cd 111 12 = some (.iload 7, 2) := by decide +kernel
theorem c_111_14 : cd 111 14 = some (.aload_n 1, 1) := by decide +kernel
theorem c_111_15 : cd 111 15 = some (.invokevirtual 135, 3) := by decide +kernel
theorem c_111_18 : cd 111 18 = some (.if_icmp .ge (89), 3) := by decide +kernel
theorem c_111_21 : cd 111 21 = some (.aload_n 1, 1) := by decide +kernel
theorem c_111_22 : cd 111 22 = some (.iload 7, 2) := by decide +kernel
theorem c_111_24 : cd 111 24 = some (.invokevirtual 140, 3) := by decide +kernel
theorem c_111_27 : cd 111 27 = some (.istore 8, 2) := by decide +kernel
theorem c_111_29 : cd 111 29 = some (.iload 8, 2) := by decide +kernel
theorem c_111_31 : cd 111 31 = some (.bipush (32), 2) := by decide +kernel
theorem c_111_33 : cd 111 33 = some (.if_icmp .eq (43), 3) := by decide +kernel
theorem c_111_36 : cd 111 36 = some (.iload 6, 2) := by decide +kernel
theorem c_111_38 : cd 111 38 = some (.ifCond .eq (29), 3) := by decide +kernel
theorem c_111_41 : cd 111 41 = some (.iload_n 2, 1) := by decide +kernel
theorem c_111_42 : cd 111 42 = some (.iload 5, 2) := by decide +kernel
theorem c_111_44 : cd 111 44 = some (.iadd, 1) := by decide +kernel
theorem c_111_45 : cd 111 45 = some (.iload_n 3, 1) := by decide +kernel
theorem c_111_46 : cd 111 46 = some (.if_icmp .ge (21), 3) := by decide +kernel
theorem c_111_49 : cd 111 49 = some (.aload_n 0, 1) := by decide +kernel
theorem c_111_50 : cd 111 50 = some (.getfield 9, 3) := by decide +kernel
theorem c_111_53 : cd 111 53 = some (.iload_n 2, 1) := by decide +kernel
theorem c_111_54 : cd 111 54 = some (.iload 5, 2) := by decide +kernel
theorem c_111_56 : cd 111 56 = some (.iadd, 1) := by decide +kernel
theorem c_111_57 : cd 111 57 = some (.baload, 1) := by decide +kernel
theorem c_111_58 : cd 111 58 = some (.iload 8, 2) := by decide +kernel
theorem c_111_60 : cd 111 60 = some (.if_icmp .ne (7), 3) := by decide +kernel
theorem c_111_63 : cd 111 63 = some (.iconst (1), 1) := by decide +kernel
theorem c_111_64 : cd 111 64 = some (.goto (4), 3) := by decide +kernel
theorem c_111_67 : cd 111 67 = some (.iconst (0), 1) := by decide +kernel
theorem c_111_68 : cd 111 68 = some (.istore 6, 2) := by decide +kernel
theorem c_111_70 : cd 111 70 = some (.iinc 5 (1), 3) := by decide +kernel
theorem c_111_73 : cd 111 73 = some (.goto (28), 3) := by decide +kernel
theorem c_111_76 : cd 111 76 = some (.iload 6, 2) := by decide +kernel
theorem c_111_78 : cd 111 78 = some (.ifCond .eq (14), 3) := by decide +kernel
theorem c_111_81 : cd 111 81 = some (.iload_n 2, 1) := by decide +kernel
theorem c_111_82 : cd 111 82 = some (.iload 5, 2) := by decide +kernel
theorem c_111_84 : cd 111 84 = some (.iadd, 1) := by decide +kernel
theorem c_111_85 : cd 111 85 = some (.iload_n 3, 1) := by decide +kernel
theorem c_111_86 : cd 111 86 = some (.if_icmp .ne (6), 3) := by decide +kernel
theorem c_111_89 : cd 111 89 = some (.iload 4, 2) := by decide +kernel
theorem c_111_91 : cd 111 91 = some (.ireturn, 1) := by decide +kernel
theorem c_111_92 : cd 111 92 = some (.iinc 4 (1), 3) := by decide +kernel
theorem c_111_95 : cd 111 95 = some (.iconst (0), 1) := by decide +kernel
theorem c_111_96 : cd 111 96 = some (.istore 5, 2) := by decide +kernel
theorem c_111_98 : cd 111 98 = some (.iconst (1), 1) := by decide +kernel
theorem c_111_99 : cd 111 99 = some (.istore 6, 2) := by decide +kernel
theorem c_111_101 : cd 111 101 = some (.iinc 7 (1), 3) := by decide +kernel
theorem c_111_104 : cd 111 104 = some (.goto (-92), 3) := by decide +kernel
theorem c_111_107 : cd 111 107 = some (.iconst (-1), 1) := by decide +kernel
theorem c_111_108 : cd 111 108 = some (.ireturn, 1) := by decide +kernel
def f_Tp_placeAmong_101 (σ : Mm) (k12 : Nat → Nat → Int32 → Int32 → Int32 → Int32 → Int32 → Int32 → Option (Int32)) (x0 : Nat) (x1 : Nat) (x2 : Int32) (x3 : Int32) (x4 : Int32) (x5 : Int32) (x6 : Int32) (x7 : Int32) : Option Int32 := k12 x0 x1 x2 x3 x4 x5 x6 (x7 + (1 : Int32))
set_option maxRecDepth 100000 in
set_option maxHeartbeats 4000000 in
theorem t_Tp_placeAmong_101 {X : Xt} {S : Sh} (hS : ShOK S) {d : Nat} (hd : 6 ≤ d) (σ : Mm) {k12 : Nat → Nat → Int32 → Int32 → Int32 → Int32 → Int32 → Int32 → Option (Int32)} (hk12 : ∀ (x0 : Nat) (x1 : Nat) (x2 : Int32) (x3 : Int32) (x4 : Int32) (x5 : Int32) (x6 : Int32) (x7 : Int32) (u8 : Value) (h_x0 : tgT x0 = 9) (h_x1 : x1 < 3), Rf X S (emI σ) (k12 x0 x1 x2 x3 x4 x5 x6 x7) d 111 12 [.ref x0, .ref (1000001 + x1), .int x2, .int x3, .int x4, .int x5, .int x6, .int x7, u8] [] σ) (x0 : Nat) (x1 : Nat) (x2 : Int32) (x3 : Int32) (x4 : Int32) (x5 : Int32) (x6 : Int32) (x7 : Int32) (u8 : Value) (h_x0 : tgT x0 = 9) (h_x1 : x1 < 3) : Rf X S (emI σ) (f_Tp_placeAmong_101 σ k12 x0 x1 x2 x3 x4 x5 x6 x7) d 111 101 [.ref x0, .ref (1000001 + x1), .int x2, .int x3, .int x4, .int x5, .int x6, .int x7, u8] [] σ := by
  unfold f_Tp_placeAmong_101
  refine rf_iinc c_111_101 rfl ki_1 rfl ?_
  refine rf_goto c_111_104 rfl ?_
  exact hk12 x0 x1 x2 x3 x4 x5 x6 (x7 + (1 : Int32)) (u8) h_x0 h_x1
def f_Tp_placeAmong_68 (σ : Mm) (k12 : Nat → Nat → Int32 → Int32 → Int32 → Int32 → Int32 → Int32 → Option (Int32)) (x0 : Nat) (x1 : Nat) (x2 : Int32) (x3 : Int32) (x4 : Int32) (x5 : Int32) (x7 : Int32) (y0 : Int32) : Option Int32 := f_Tp_placeAmong_101 σ k12 x0 x1 x2 x3 x4 (x5 + (1 : Int32)) y0 x7
set_option maxRecDepth 100000 in
set_option maxHeartbeats 4000000 in
theorem t_Tp_placeAmong_68 {X : Xt} {S : Sh} (hS : ShOK S) {d : Nat} (hd : 6 ≤ d) (σ : Mm) {k12 : Nat → Nat → Int32 → Int32 → Int32 → Int32 → Int32 → Int32 → Option (Int32)} (hk12 : ∀ (x0 : Nat) (x1 : Nat) (x2 : Int32) (x3 : Int32) (x4 : Int32) (x5 : Int32) (x6 : Int32) (x7 : Int32) (u8 : Value) (h_x0 : tgT x0 = 9) (h_x1 : x1 < 3), Rf X S (emI σ) (k12 x0 x1 x2 x3 x4 x5 x6 x7) d 111 12 [.ref x0, .ref (1000001 + x1), .int x2, .int x3, .int x4, .int x5, .int x6, .int x7, u8] [] σ) (x0 : Nat) (x1 : Nat) (x2 : Int32) (x3 : Int32) (x4 : Int32) (x5 : Int32) (x7 : Int32) (y0 : Int32) (u6 : Value) (u8 : Value) (h_x0 : tgT x0 = 9) (h_x1 : x1 < 3) : Rf X S (emI σ) (f_Tp_placeAmong_68 σ k12 x0 x1 x2 x3 x4 x5 x7 y0) d 111 68 [.ref x0, .ref (1000001 + x1), .int x2, .int x3, .int x4, .int x5, u6, .int x7, u8] [.int y0] σ := by
  unfold f_Tp_placeAmong_68
  refine rf_ist (i := 6) (Or.inl ⟨rfl, rfl⟩) c_111_68 (Nat.le_of_ble_eq_true rfl) rfl ?_
  refine rf_iinc c_111_70 rfl ki_1 rfl ?_
  refine rf_goto c_111_73 rfl ?_
  exact t_Tp_placeAmong_101 hS hd σ hk12 x0 x1 x2 x3 x4 (x5 + (1 : Int32)) y0 x7 (u8) h_x0 h_x1
def f_Tp_placeAmong_67 (σ : Mm) (k12 : Nat → Nat → Int32 → Int32 → Int32 → Int32 → Int32 → Int32 → Option (Int32)) (x0 : Nat) (x1 : Nat) (x2 : Int32) (x3 : Int32) (x4 : Int32) (x5 : Int32) (x7 : Int32) : Option Int32 := f_Tp_placeAmong_68 σ k12 x0 x1 x2 x3 x4 x5 x7 (0 : Int32)
set_option maxRecDepth 100000 in
set_option maxHeartbeats 4000000 in
theorem t_Tp_placeAmong_67 {X : Xt} {S : Sh} (hS : ShOK S) {d : Nat} (hd : 6 ≤ d) (σ : Mm) {k12 : Nat → Nat → Int32 → Int32 → Int32 → Int32 → Int32 → Int32 → Option (Int32)} (hk12 : ∀ (x0 : Nat) (x1 : Nat) (x2 : Int32) (x3 : Int32) (x4 : Int32) (x5 : Int32) (x6 : Int32) (x7 : Int32) (u8 : Value) (h_x0 : tgT x0 = 9) (h_x1 : x1 < 3), Rf X S (emI σ) (k12 x0 x1 x2 x3 x4 x5 x6 x7) d 111 12 [.ref x0, .ref (1000001 + x1), .int x2, .int x3, .int x4, .int x5, .int x6, .int x7, u8] [] σ) (x0 : Nat) (x1 : Nat) (x2 : Int32) (x3 : Int32) (x4 : Int32) (x5 : Int32) (x7 : Int32) (u6 : Value) (u8 : Value) (h_x0 : tgT x0 = 9) (h_x1 : x1 < 3) : Rf X S (emI σ) (f_Tp_placeAmong_67 σ k12 x0 x1 x2 x3 x4 x5 x7) d 111 67 [.ref x0, .ref (1000001 + x1), .int x2, .int x3, .int x4, .int x5, u6, .int x7, u8] [] σ := by
  unfold f_Tp_placeAmong_67
  refine rf_iconst c_111_67 ki_0 ?_
  exact t_Tp_placeAmong_68 hS hd σ hk12 x0 x1 x2 x3 x4 x5 x7 (0 : Int32) (u6) (u8) h_x0 h_x1
def f_Tp_placeAmong_92 (σ : Mm) (k12 : Nat → Nat → Int32 → Int32 → Int32 → Int32 → Int32 → Int32 → Option (Int32)) (x0 : Nat) (x1 : Nat) (x2 : Int32) (x3 : Int32) (x4 : Int32) (x7 : Int32) : Option Int32 := f_Tp_placeAmong_101 σ k12 x0 x1 x2 x3 (x4 + (1 : Int32)) (0 : Int32) (1 : Int32) x7
set_option maxRecDepth 100000 in
set_option maxHeartbeats 4000000 in
theorem t_Tp_placeAmong_92 {X : Xt} {S : Sh} (hS : ShOK S) {d : Nat} (hd : 6 ≤ d) (σ : Mm) {k12 : Nat → Nat → Int32 → Int32 → Int32 → Int32 → Int32 → Int32 → Option (Int32)} (hk12 : ∀ (x0 : Nat) (x1 : Nat) (x2 : Int32) (x3 : Int32) (x4 : Int32) (x5 : Int32) (x6 : Int32) (x7 : Int32) (u8 : Value) (h_x0 : tgT x0 = 9) (h_x1 : x1 < 3), Rf X S (emI σ) (k12 x0 x1 x2 x3 x4 x5 x6 x7) d 111 12 [.ref x0, .ref (1000001 + x1), .int x2, .int x3, .int x4, .int x5, .int x6, .int x7, u8] [] σ) (x0 : Nat) (x1 : Nat) (x2 : Int32) (x3 : Int32) (x4 : Int32) (x7 : Int32) (u5 : Value) (u6 : Value) (u8 : Value) (h_x0 : tgT x0 = 9) (h_x1 : x1 < 3) : Rf X S (emI σ) (f_Tp_placeAmong_92 σ k12 x0 x1 x2 x3 x4 x7) d 111 92 [.ref x0, .ref (1000001 + x1), .int x2, .int x3, .int x4, u5, u6, .int x7, u8] [] σ := by
  unfold f_Tp_placeAmong_92
  refine rf_iinc c_111_92 rfl ki_1 rfl ?_
  refine rf_iconst c_111_95 ki_0 ?_
  refine rf_ist (i := 5) (Or.inl ⟨rfl, rfl⟩) c_111_96 (Nat.le_of_ble_eq_true rfl) rfl ?_
  refine rf_iconst c_111_98 ki_1 ?_
  refine rf_ist (i := 6) (Or.inl ⟨rfl, rfl⟩) c_111_99 (Nat.le_of_ble_eq_true rfl) rfl ?_
  exact t_Tp_placeAmong_101 hS hd σ hk12 x0 x1 x2 x3 (x4 + (1 : Int32)) (0 : Int32) (1 : Int32) x7 (u8) h_x0 h_x1
def f_Tp_placeAmong_12 (σ : Mm) : Nat → Nat → Nat → Int32 → Int32 → Int32 → Int32 → Int32 → Int32 → Option Int32
  | 0, _, _, _, _, _, _, _, _ => none
  | n + 1, x0, x1, x2, x3, x4, x5, x6, x7 => (if (Int32.ofNat (strs.getD x1 []).length) ≤ x7 then (some (-1 : Int32)) else (if inbB x7 (strs.getD x1 []).length = true then (if ((strs.getD x1 []).getD (ix x7) 0) = (32 : Int32) then (if x6 = 0 then (f_Tp_placeAmong_92 σ (f_Tp_placeAmong_12 σ n) x0 x1 x2 x3 x4 x7) else (if ¬ (x2 + x5) = x3 then (f_Tp_placeAmong_92 σ (f_Tp_placeAmong_12 σ n) x0 x1 x2 x3 x4 x7) else (some x4))) else (if x6 = 0 then (f_Tp_placeAmong_67 σ (f_Tp_placeAmong_12 σ n) x0 x1 x2 x3 x4 x5 x7) else (if x3 ≤ (x2 + x5) then (f_Tp_placeAmong_67 σ (f_Tp_placeAmong_12 σ n) x0 x1 x2 x3 x4 x5 x7) else (if inbB (x2 + x5) 96 = true then (if ¬ (σ (rfT x0 0) (ix (x2 + x5))) = ((strs.getD x1 []).getD (ix x7) 0) then (f_Tp_placeAmong_67 σ (f_Tp_placeAmong_12 σ n) x0 x1 x2 x3 x4 x5 x7) else (f_Tp_placeAmong_68 σ (f_Tp_placeAmong_12 σ n) x0 x1 x2 x3 x4 x5 x7 (1 : Int32))) else none)))) else none))
set_option maxRecDepth 100000 in
set_option maxHeartbeats 4000000 in
theorem t_Tp_placeAmong_12 {X : Xt} {S : Sh} (hS : ShOK S) {d : Nat} (hd : 6 ≤ d) (σ : Mm) : ∀ (n : Nat) (x0 : Nat) (x1 : Nat) (x2 : Int32) (x3 : Int32) (x4 : Int32) (x5 : Int32) (x6 : Int32) (x7 : Int32) (u8 : Value) (h_x0 : tgT x0 = 9) (h_x1 : x1 < 3), Rf X S (emI σ) (f_Tp_placeAmong_12 σ n x0 x1 x2 x3 x4 x5 x6 x7) d 111 12 [.ref x0, .ref (1000001 + x1), .int x2, .int x3, .int x4, .int x5, .int x6, .int x7, u8] [] σ := by
  intro n
  induction n with
  | zero => intro x0 x1 x2 x3 x4 x5 x6 x7 u8 h_x0 h_x1; exact rf_none
  | succ n ih =>
    intro x0 x1 x2 x3 x4 x5 x6 x7 u8 h_x0 h_x1
    rw [f_Tp_placeAmong_12]
    refine rf_ild (i := 7) (Or.inl ⟨rfl, rfl⟩) c_111_12 rfl ?_
    refine rf_ald (i := 1) (Or.inr ⟨1, rfl, rfl, rfl⟩) c_111_14 rfl ?_
    refine rf_slen c_111_15 rfl ml_9_135 (by omega) (by simp [Value.category]) h_x1 rfl ?_
    refine rf_ite (fun hc18 => ?_) (fun hc18 => ?_)
    · refine rf_b2t c_111_18 rfl (decide_eq_true hc18) ?_
      refine rf_iconst c_111_107 ki_m1 ?_
      exact rf_ret c_111_108 rfl rfl rfl rfl
    · refine rf_b2f c_111_18 rfl (decide_eq_false hc18) ?_
      refine rf_ald (i := 1) (Or.inr ⟨1, rfl, rfl, rfl⟩) c_111_21 rfl ?_
      refine rf_ild (i := 7) (Or.inl ⟨rfl, rfl⟩) c_111_22 rfl ?_
      refine rf_ite (fun hb24 => ?_) (fun _ => rf_none)
      refine rf_sat c_111_24 rfl ml_9_140 (by omega) (Nat.zero_le _) h_x1 hb24 ?_
      refine rf_ist (i := 8) (Or.inl ⟨rfl, rfl⟩) c_111_27 (Nat.le_of_ble_eq_true rfl) rfl ?_
      refine rf_ild (i := 8) (Or.inl ⟨rfl, rfl⟩) c_111_29 rfl ?_
      refine rf_bipush c_111_31 kb_32 ?_
      refine rf_ite (fun hc33 => ?_) (fun hc33 => ?_)
      · refine rf_b2t c_111_33 rfl (decide_eq_true hc33) ?_
        refine rf_ild (i := 6) (Or.inl ⟨rfl, rfl⟩) c_111_76 rfl ?_
        refine rf_ite (fun hc78 => ?_) (fun hc78 => ?_)
        · refine rf_b1t c_111_78 rfl (decide_eq_true hc78) ?_
          exact t_Tp_placeAmong_92 hS hd σ ih x0 x1 x2 x3 x4 x7 (.int x5) (.int x6) (.int ((strs.getD x1 []).getD (ix x7) 0)) h_x0 h_x1
        · refine rf_b1f c_111_78 rfl (decide_eq_false hc78) ?_
          refine rf_ild (i := 2) (Or.inr ⟨2, rfl, rfl, rfl⟩) c_111_81 rfl ?_
          refine rf_ild (i := 5) (Or.inl ⟨rfl, rfl⟩) c_111_82 rfl ?_
          refine rf_iadd c_111_84 ?_
          refine rf_ild (i := 3) (Or.inr ⟨3, rfl, rfl, rfl⟩) c_111_85 rfl ?_
          refine rf_ite (fun hc86 => ?_) (fun hc86 => ?_)
          · refine rf_b2t c_111_86 rfl (decide_eq_true hc86) ?_
            exact t_Tp_placeAmong_92 hS hd σ ih x0 x1 x2 x3 x4 x7 (.int x5) (.int x6) (.int ((strs.getD x1 []).getD (ix x7) 0)) h_x0 h_x1
          · refine rf_b2f c_111_86 rfl (decide_eq_false hc86) ?_
            refine rf_ild (i := 4) (Or.inl ⟨rfl, rfl⟩) c_111_89 rfl ?_
            exact rf_ret c_111_91 rfl rfl rfl rfl
      · refine rf_b2f c_111_33 rfl (decide_eq_false hc33) ?_
        refine rf_ild (i := 6) (Or.inl ⟨rfl, rfl⟩) c_111_36 rfl ?_
        refine rf_ite (fun hc38 => ?_) (fun hc38 => ?_)
        · refine rf_b1t c_111_38 rfl (decide_eq_true hc38) ?_
          exact t_Tp_placeAmong_67 hS hd σ ih x0 x1 x2 x3 x4 x5 x7 (.int x6) (.int ((strs.getD x1 []).getD (ix x7) 0)) h_x0 h_x1
        · refine rf_b1f c_111_38 rfl (decide_eq_false hc38) ?_
          refine rf_ild (i := 2) (Or.inr ⟨2, rfl, rfl, rfl⟩) c_111_41 rfl ?_
          refine rf_ild (i := 5) (Or.inl ⟨rfl, rfl⟩) c_111_42 rfl ?_
          refine rf_iadd c_111_44 ?_
          refine rf_ild (i := 3) (Or.inr ⟨3, rfl, rfl, rfl⟩) c_111_45 rfl ?_
          refine rf_ite (fun hc46 => ?_) (fun hc46 => ?_)
          · refine rf_b2t c_111_46 rfl (decide_eq_true hc46) ?_
            exact t_Tp_placeAmong_67 hS hd σ ih x0 x1 x2 x3 x4 x5 x7 (.int x6) (.int ((strs.getD x1 []).getD (ix x7) 0)) h_x0 h_x1
          · refine rf_b2f c_111_46 rfl (decide_eq_false hc46) ?_
            refine rf_ald (i := 0) (Or.inr ⟨0, rfl, rfl, rfl⟩) c_111_49 rfl ?_
            refine rf_getr hS c_111_50 rfl fl_9_9 rfl h_x0 ?_
            refine rf_ild (i := 2) (Or.inr ⟨2, rfl, rfl, rfl⟩) c_111_53 rfl ?_
            refine rf_ild (i := 5) (Or.inl ⟨rfl, rfl⟩) c_111_54 rfl ?_
            refine rf_iadd c_111_56 ?_
            refine rf_ite (fun hb57 => ?_) (fun _ => rf_none)
            refine rf_bald hS c_111_57 (Or.inl (tf_9_0 h_x0)) (lf_9_0 h_x0) hb57 ?_
            refine rf_ild (i := 8) (Or.inl ⟨rfl, rfl⟩) c_111_58 rfl ?_
            refine rf_ite (fun hc60 => ?_) (fun hc60 => ?_)
            · refine rf_b2t c_111_60 rfl (decide_eq_true hc60) ?_
              exact t_Tp_placeAmong_67 hS hd σ ih x0 x1 x2 x3 x4 x5 x7 (.int x6) (.int ((strs.getD x1 []).getD (ix x7) 0)) h_x0 h_x1
            · refine rf_b2f c_111_60 rfl (decide_eq_false hc60) ?_
              refine rf_iconst c_111_63 ki_1 ?_
              refine rf_goto c_111_64 rfl ?_
              exact t_Tp_placeAmong_68 hS hd σ ih x0 x1 x2 x3 x4 x5 x7 (1 : Int32) (.int x6) (.int ((strs.getD x1 []).getD (ix x7) 0)) h_x0 h_x1
def f_Tp_placeAmong (σ : Mm) (x0 : Nat) (x1 : Nat) (x2 : Int32) (x3 : Int32) : Option Int32 := f_Tp_placeAmong_12 σ NN x0 x1 x2 x3 (0 : Int32) (0 : Int32) (1 : Int32) (0 : Int32)
set_option maxRecDepth 100000 in
set_option maxHeartbeats 4000000 in
theorem t_Tp_placeAmong {X : Xt} {S : Sh} (hS : ShOK S) {d : Nat} (hd : 6 ≤ d) (σ : Mm) (x0 : Nat) (x1 : Nat) (x2 : Int32) (x3 : Int32) (h_x0 : tgT x0 = 9) (h_x1 : x1 < 3) : Rf X S (emI σ) (f_Tp_placeAmong σ x0 x1 x2 x3) d 111 0 [.ref x0, .ref (1000001 + x1), .int x2, .int x3, unset0, unset0, unset0, unset0, unset0] [] σ := by
  unfold f_Tp_placeAmong
  refine rf_iconst c_111_0 ki_0 ?_
  refine rf_ist (i := 4) (Or.inl ⟨rfl, rfl⟩) c_111_1 (Nat.le_of_ble_eq_true rfl) rfl ?_
  refine rf_iconst c_111_3 ki_0 ?_
  refine rf_ist (i := 5) (Or.inl ⟨rfl, rfl⟩) c_111_4 (Nat.le_of_ble_eq_true rfl) rfl ?_
  refine rf_iconst c_111_6 ki_1 ?_
  refine rf_ist (i := 6) (Or.inl ⟨rfl, rfl⟩) c_111_7 (Nat.le_of_ble_eq_true rfl) rfl ?_
  refine rf_iconst c_111_9 ki_0 ?_
  refine rf_ist (i := 7) (Or.inl ⟨rfl, rfl⟩) c_111_10 (Nat.le_of_ble_eq_true rfl) rfl ?_
  exact t_Tp_placeAmong_12 hS hd σ  NN x0 x1 x2 x3 (0 : Int32) (0 : Int32) (1 : Int32) (0 : Int32) (unset0) h_x0 h_x1
theorem c_110_0 : cd 110 0 = some (.aload_n 0, 1) := by decide +kernel
theorem c_110_1 : cd 110 1 = some (.ldc 125, 2) := by decide +kernel
theorem c_110_3 : cd 110 3 = some (.iload_n 1, 1) := by decide +kernel
theorem c_110_4 : cd 110 4 = some (.iload_n 2, 1) := by decide +kernel
theorem c_110_5 : cd 110 5 = some (.invokevirtual 127, 3) := by decide +kernel
theorem c_110_8 : cd 110 8 = some (.istore_n 3, 1) := by decide +kernel
theorem c_110_9 : cd 110 9 = some (.iload_n 3, 1) := by decide +kernel
theorem c_110_10 : cd 110 10 = some (.ifCond .lt (8), 3) := by decide +kernel
theorem c_110_13 : cd 110 13 = some (.bipush (6), 2) := by decide +kernel
theorem c_110_15 : cd 110 15 = some (.iload_n 3, 1) := by decide +kernel
theorem c_110_16 : cd 110 16 = some (.iadd, 1) := by decide +kernel
theorem c_110_17 : cd 110 17 = some (.ireturn, 1) := by decide +kernel
theorem c_110_18 : cd 110 18 = some (.aload_n 0, 1) := by decide +kernel
theorem c_110_19 : cd 110 19 = some (.ldc 131, 2) := by decide +kernel
theorem c_110_21 : cd 110 21 = some (.iload_n 1, 1) := by decide +kernel
theorem c_110_22 : cd 110 22 = some (.iload_n 2, 1) := by decide +kernel
theorem c_110_23 : cd 110 23 = some (.invokevirtual 127, 3) := by decide +kernel
theorem c_110_26 : cd 110 26 = some (.istore_n 3, 1) := by decide +kernel
theorem c_110_27 : cd 110 27 = some (.iload_n 3, 1) := by decide +kernel
theorem c_110_28 : cd 110 28 = some (.ifCond .lt (8), 3) := by decide +kernel
theorem c_110_31 : cd 110 31 = some (.bipush (11), 2) := by decide +kernel
theorem c_110_33 : cd 110 33 = some (.iload_n 3, 1) := by decide +kernel
theorem c_110_34 : cd 110 34 = some (.iadd, 1) := by decide +kernel
theorem c_110_35 : cd 110 35 = some (.ireturn, 1) := by decide +kernel
theorem c_110_36 : cd 110 36 = some (.aload_n 0, 1) := by decide +kernel
theorem c_110_37 : cd 110 37 = some (.ldc 133, 2) := by decide +kernel
theorem c_110_39 : cd 110 39 = some (.iload_n 1, 1) := by decide +kernel
theorem c_110_40 : cd 110 40 = some (.iload_n 2, 1) := by decide +kernel
theorem c_110_41 : cd 110 41 = some (.invokevirtual 127, 3) := by decide +kernel
theorem c_110_44 : cd 110 44 = some (.istore_n 3, 1) := by decide +kernel
theorem c_110_45 : cd 110 45 = some (.iload_n 3, 1) := by decide +kernel
theorem c_110_46 : cd 110 46 = some (.ifCond .lt (10), 3) := by decide +kernel
theorem c_110_49 : cd 110 49 = some (.bipush (17), 2) := by decide +kernel
theorem c_110_51 : cd 110 51 = some (.iload_n 3, 1) := by decide +kernel
theorem c_110_52 : cd 110 52 = some (.iadd, 1) := by decide +kernel
theorem c_110_53 : cd 110 53 = some (.goto (5), 3) := by decide +kernel
theorem c_110_56 : cd 110 56 = some (.bipush (23), 2) := by decide +kernel
theorem c_110_58 : cd 110 58 = some (.ireturn, 1) := by decide +kernel
def f_Tp_tokenOfWord_58 (σ : Mm) (y0 : Int32) : Option Int32 := some y0
set_option maxRecDepth 100000 in
set_option maxHeartbeats 4000000 in
theorem t_Tp_tokenOfWord_58 {X : Xt} {S : Sh} (hS : ShOK S) {d : Nat} (hd : 7 ≤ d + 1) (σ : Mm) (y0 : Int32) (u0 : Value) (u1 : Value) (u2 : Value) (u3 : Value) : Rf X S (emI σ) (f_Tp_tokenOfWord_58 σ y0) (d + 1) 110 58 [u0, u1, u2, u3] [.int y0] σ := by
  unfold f_Tp_tokenOfWord_58
  exact rf_ret c_110_58 rfl rfl rfl rfl
def f_Tp_tokenOfWord (σ : Mm) (x0 : Nat) (x1 : Int32) (x2 : Int32) : Option Int32 := (f_Tp_placeAmong σ x0 0 x1 x2).bind fun v5 => (if v5 < 0 then ((f_Tp_placeAmong σ x0 1 x1 x2).bind fun v23 => (if v23 < 0 then ((f_Tp_placeAmong σ x0 2 x1 x2).bind fun v41 => (if v41 < 0 then (f_Tp_tokenOfWord_58 σ (23 : Int32)) else (f_Tp_tokenOfWord_58 σ ((17 : Int32) + v41)))) else (some ((11 : Int32) + v23)))) else (some ((6 : Int32) + v5)))
set_option maxRecDepth 100000 in
set_option maxHeartbeats 4000000 in
theorem t_Tp_tokenOfWord_e {X : Xt} {S : Sh} (hS : ShOK S) {d : Nat} (hd : 7 ≤ d + 1) (σ : Mm) (x0 : Nat) (x1 : Int32) (x2 : Int32) (h_x0 : tgT x0 = 9) : Rf X S (emI σ) (f_Tp_tokenOfWord σ x0 x1 x2) (d + 1) 110 0 [.ref x0, .int x1, .int x2, unset0] [] σ := by
  unfold f_Tp_tokenOfWord
  refine rf_ald (i := 0) (Or.inr ⟨0, rfl, rfl, rfl⟩) c_110_0 rfl ?_
  refine rf_ldcS (j := 0) c_110_1 rfl rfl rfl ?_
  refine rf_ild (i := 1) (Or.inr ⟨1, rfl, rfl, rfl⟩) c_110_3 rfl ?_
  refine rf_ild (i := 2) (Or.inr ⟨2, rfl, rfl, rfl⟩) c_110_4 rfl ?_
  refine rf_callI (as := [.ref x0, .ref (1000001 + 0), .int x1, .int x2]) (kd := 1) c_110_5 rfl (by decide) rfl ml_9_127 (by decide) rfl (rcv_1 hS rfl rfl h_x0 (by decide)) (Nat.zero_le _) rfl rfl (t_Tp_placeAmong hS (by omega) σ x0 0 x1 x2 h_x0 (by decide)) (fun v5 => ?_)
  refine rf_ist (i := 3) (Or.inr ⟨3, rfl, rfl, rfl⟩) c_110_8 (Nat.le_of_ble_eq_true rfl) rfl ?_
  refine rf_ild (i := 3) (Or.inr ⟨3, rfl, rfl, rfl⟩) c_110_9 rfl ?_
  refine rf_ite (fun hc10 => ?_) (fun hc10 => ?_)
  · refine rf_b1t c_110_10 rfl (decide_eq_true hc10) ?_
    refine rf_ald (i := 0) (Or.inr ⟨0, rfl, rfl, rfl⟩) c_110_18 rfl ?_
    refine rf_ldcS (j := 1) c_110_19 rfl rfl rfl ?_
    refine rf_ild (i := 1) (Or.inr ⟨1, rfl, rfl, rfl⟩) c_110_21 rfl ?_
    refine rf_ild (i := 2) (Or.inr ⟨2, rfl, rfl, rfl⟩) c_110_22 rfl ?_
    refine rf_callI (as := [.ref x0, .ref (1000001 + 1), .int x1, .int x2]) (kd := 1) c_110_23 rfl (by decide) rfl ml_9_127 (by decide) rfl (rcv_1 hS rfl rfl h_x0 (by decide)) (Nat.zero_le _) rfl rfl (t_Tp_placeAmong hS (by omega) σ x0 1 x1 x2 h_x0 (by decide)) (fun v23 => ?_)
    refine rf_ist (i := 3) (Or.inr ⟨3, rfl, rfl, rfl⟩) c_110_26 (Nat.le_of_ble_eq_true rfl) rfl ?_
    refine rf_ild (i := 3) (Or.inr ⟨3, rfl, rfl, rfl⟩) c_110_27 rfl ?_
    refine rf_ite (fun hc28 => ?_) (fun hc28 => ?_)
    · refine rf_b1t c_110_28 rfl (decide_eq_true hc28) ?_
      refine rf_ald (i := 0) (Or.inr ⟨0, rfl, rfl, rfl⟩) c_110_36 rfl ?_
      refine rf_ldcS (j := 2) c_110_37 rfl rfl rfl ?_
      refine rf_ild (i := 1) (Or.inr ⟨1, rfl, rfl, rfl⟩) c_110_39 rfl ?_
      refine rf_ild (i := 2) (Or.inr ⟨2, rfl, rfl, rfl⟩) c_110_40 rfl ?_
      refine rf_callI (as := [.ref x0, .ref (1000001 + 2), .int x1, .int x2]) (kd := 1) c_110_41 rfl (by decide) rfl ml_9_127 (by decide) rfl (rcv_1 hS rfl rfl h_x0 (by decide)) (Nat.zero_le _) rfl rfl (t_Tp_placeAmong hS (by omega) σ x0 2 x1 x2 h_x0 (by decide)) (fun v41 => ?_)
      refine rf_ist (i := 3) (Or.inr ⟨3, rfl, rfl, rfl⟩) c_110_44 (Nat.le_of_ble_eq_true rfl) rfl ?_
      refine rf_ild (i := 3) (Or.inr ⟨3, rfl, rfl, rfl⟩) c_110_45 rfl ?_
      refine rf_ite (fun hc46 => ?_) (fun hc46 => ?_)
      · refine rf_b1t c_110_46 rfl (decide_eq_true hc46) ?_
        refine rf_bipush c_110_56 kb_23 ?_
        exact t_Tp_tokenOfWord_58 hS hd σ  (23 : Int32) (.ref x0) (.int x1) (.int x2) (.int v41)
      · refine rf_b1f c_110_46 rfl (decide_eq_false hc46) ?_
        refine rf_bipush c_110_49 kb_17 ?_
        refine rf_ild (i := 3) (Or.inr ⟨3, rfl, rfl, rfl⟩) c_110_51 rfl ?_
        refine rf_iadd c_110_52 ?_
        refine rf_goto c_110_53 rfl ?_
        exact t_Tp_tokenOfWord_58 hS hd σ  ((17 : Int32) + v41) (.ref x0) (.int x1) (.int x2) (.int v41)
    · refine rf_b1f c_110_28 rfl (decide_eq_false hc28) ?_
      refine rf_bipush c_110_31 kb_11 ?_
      refine rf_ild (i := 3) (Or.inr ⟨3, rfl, rfl, rfl⟩) c_110_33 rfl ?_
      refine rf_iadd c_110_34 ?_
      exact rf_ret c_110_35 rfl rfl rfl rfl
  · refine rf_b1f c_110_10 rfl (decide_eq_false hc10) ?_
    refine rf_bipush c_110_13 kb_6 ?_
    refine rf_ild (i := 3) (Or.inr ⟨3, rfl, rfl, rfl⟩) c_110_15 rfl ?_
    refine rf_iadd c_110_16 ?_
    exact rf_ret c_110_17 rfl rfl rfl rfl
theorem t_Tp_tokenOfWord {X : Xt} {S : Sh} (hS : ShOK S) {d : Nat} (hd : 7 ≤ d) (σ : Mm) (x0 : Nat) (x1 : Int32) (x2 : Int32) (h_x0 : tgT x0 = 9) : Rf X S (emI σ) (f_Tp_tokenOfWord σ x0 x1 x2) d 110 0 [.ref x0, .int x1, .int x2, unset0] [] σ := by
  obtain ⟨d1, rfl⟩ : ∃ d1, d = d1 + 1 := ⟨d - 1, by omega⟩
  exact t_Tp_tokenOfWord_e hS hd σ x0 x1 x2 h_x0
theorem c_108_0 : cd 108 0 = some (.iload_n 3, 1) := by decide +kernel
theorem c_108_1 : cd 108 1 = some (.iconst (1), 1) := by decide +kernel
theorem c_108_2 : cd 108 2 = some (.if_icmp .ne (10), 3) := by decide +kernel
theorem c_108_5 : cd 108 5 = some (.aload_n 0, 1) := by decide +kernel
theorem c_108_6 : cd 108 6 = some (.iload_n 1, 1) := by decide +kernel
theorem c_108_7 : cd 108 7 = some (.iload_n 2, 1) := by decide +kernel
theorem c_108_8 : cd 108 8 = some (.invokevirtual 119, 3) := by decide +kernel
theorem c_108_11 : cd 108 11 = some (.ireturn, 1) := by decide +kernel
theorem c_108_12 : cd 108 12 = some (.iload_n 3, 1) := by decide +kernel
theorem c_108_13 : cd 108 13 = some (.iconst (2), 1) := by decide +kernel
theorem c_108_14 : cd 108 14 = some (.if_icmp .ne (10), 3) := by decide +kernel
theorem c_108_17 : cd 108 17 = some (.aload_n 0, 1) := by decide +kernel
theorem c_108_18 : cd 108 18 = some (.iload_n 1, 1) := by decide +kernel
theorem c_108_19 : cd 108 19 = some (.iload_n 2, 1) := by decide +kernel
theorem c_108_20 : cd 108 20 = some (.invokevirtual 122, 3) := by decide +kernel
theorem c_108_23 : cd 108 23 = some (.ireturn, 1) := by decide +kernel
theorem c_108_24 : cd 108 24 = some (.aload_n 0, 1) := by decide +kernel
theorem c_108_25 : cd 108 25 = some (.getfield 9, 3) := by decide +kernel
theorem c_108_28 : cd 108 28 = some (.iload_n 1, 1) := by decide +kernel
theorem c_108_29 : cd 108 29 = some (.baload, 1) := by decide +kernel
theorem c_108_30 : cd 108 30 = some (.lookupswitch (50) #[(40, 42), (41, 44), (60, 46), (62, 48)], 42) := by decide +kernel
theorem c_108_72 : cd 108 72 = some (.iconst (2), 1) := by decide +kernel
theorem c_108_73 : cd 108 73 = some (.ireturn, 1) := by decide +kernel
theorem c_108_74 : cd 108 74 = some (.iconst (3), 1) := by decide +kernel
theorem c_108_75 : cd 108 75 = some (.ireturn, 1) := by decide +kernel
theorem c_108_76 : cd 108 76 = some (.iconst (4), 1) := by decide +kernel
theorem c_108_77 : cd 108 77 = some (.ireturn, 1) := by decide +kernel
theorem c_108_78 : cd 108 78 = some (.iconst (5), 1) := by decide +kernel
theorem c_108_79 : cd 108 79 = some (.ireturn, 1) := by decide +kernel
theorem c_108_80 : cd 108 80 = some (.bipush (23), 2) := by decide +kernel
theorem c_108_82 : cd 108 82 = some (.ireturn, 1) := by decide +kernel
def f_Tp_tokenOf (x0 : Nat) (x1 : Int32) (x2 : Int32) (x3 : Int32) (σ : Mm) : Option (Int32 × Mm) := (if ¬ x3 = (1 : Int32) then (if ¬ x3 = (2 : Int32) then (if inbB x1 96 = true then (if (σ (rfT x0 0) (ix x1)) = (40 : Int32) then (some ((2 : Int32), σ)) else (if (σ (rfT x0 0) (ix x1)) = (41 : Int32) then (some ((3 : Int32), σ)) else (if (σ (rfT x0 0) (ix x1)) = (60 : Int32) then (some ((4 : Int32), σ)) else (if (σ (rfT x0 0) (ix x1)) = (62 : Int32) then (some ((5 : Int32), σ)) else (some ((23 : Int32), σ)))))) else none) else ((f_Tp_tokenOfNumber x0 x1 x2 σ).bind fun v20 => some (v20.1, v20.2))) else ((f_Tp_tokenOfWord σ x0 x1 x2).bind fun v8 => some (v8, σ)))
set_option maxRecDepth 100000 in
set_option maxHeartbeats 4000000 in
theorem t_Tp_tokenOf_e {X : Xt} {S : Sh} (hS : ShOK S) {d : Nat} (hd : 8 ≤ d + 1) (x0 : Nat) (x1 : Int32) (x2 : Int32) (x3 : Int32) (σ : Mm) (h_x0 : tgT x0 = 9) : Rf X S emM (f_Tp_tokenOf x0 x1 x2 x3 σ) (d + 1) 108 0 [.ref x0, .int x1, .int x2, .int x3] [] σ := by
  unfold f_Tp_tokenOf
  refine rf_ild (i := 3) (Or.inr ⟨3, rfl, rfl, rfl⟩) c_108_0 rfl ?_
  refine rf_iconst c_108_1 ki_1 ?_
  refine rf_ite (fun hc2 => ?_) (fun hc2 => ?_)
  · refine rf_b2t c_108_2 rfl (decide_eq_true hc2) ?_
    refine rf_ild (i := 3) (Or.inr ⟨3, rfl, rfl, rfl⟩) c_108_12 rfl ?_
    refine rf_iconst c_108_13 ki_2 ?_
    refine rf_ite (fun hc14 => ?_) (fun hc14 => ?_)
    · refine rf_b2t c_108_14 rfl (decide_eq_true hc14) ?_
      refine rf_ald (i := 0) (Or.inr ⟨0, rfl, rfl, rfl⟩) c_108_24 rfl ?_
      refine rf_getr hS c_108_25 rfl fl_9_9 rfl h_x0 ?_
      refine rf_ild (i := 1) (Or.inr ⟨1, rfl, rfl, rfl⟩) c_108_28 rfl ?_
      refine rf_ite (fun hb29 => ?_) (fun _ => rf_none)
      refine rf_bald hS c_108_29 (Or.inl (tf_9_0 h_x0)) (lf_9_0 h_x0) hb29 ?_
      refine rf_ite (fun hs30_40 => ?_) (fun hs30_40 => ?_)
      · refine rf_lsw (o := 42) c_108_30 (by decide) (by rw [hs30_40]; decide) rfl ?_
        refine rf_iconst c_108_72 ki_2 ?_
        exact rf_ret c_108_73 rfl rfl rfl rfl
      · refine rf_ite (fun hs30_41 => ?_) (fun hs30_41 => ?_)
        · refine rf_lsw (o := 44) c_108_30 (by decide) (by rw [hs30_41]; decide) rfl ?_
          refine rf_iconst c_108_74 ki_3 ?_
          exact rf_ret c_108_75 rfl rfl rfl rfl
        · refine rf_ite (fun hs30_60 => ?_) (fun hs30_60 => ?_)
          · refine rf_lsw (o := 46) c_108_30 (by decide) (by rw [hs30_60]; decide) rfl ?_
            refine rf_iconst c_108_76 ki_4 ?_
            exact rf_ret c_108_77 rfl rfl rfl rfl
          · refine rf_ite (fun hs30_62 => ?_) (fun hs30_62 => ?_)
            · refine rf_lsw (o := 48) c_108_30 (by decide) (by rw [hs30_62]; decide) rfl ?_
              refine rf_iconst c_108_78 ki_5 ?_
              exact rf_ret c_108_79 rfl rfl rfl rfl
            · refine rf_lsw c_108_30 (by decide) (by show Op.lookupswitch.offset [(40, 42), (41, 44), (60, 46), (62, 48)] (50) _ = _; rw [lv_osw hs30_40 (by decide), lv_osw hs30_41 (by decide), lv_osw hs30_60 (by decide), lv_osw hs30_62 (by decide)]; try rfl) rfl ?_
              refine rf_bipush c_108_80 kb_23 ?_
              exact rf_ret c_108_82 rfl rfl rfl rfl
    · refine rf_b2f c_108_14 rfl (decide_eq_false hc14) ?_
      refine rf_ald (i := 0) (Or.inr ⟨0, rfl, rfl, rfl⟩) c_108_17 rfl ?_
      refine rf_ild (i := 1) (Or.inr ⟨1, rfl, rfl, rfl⟩) c_108_18 rfl ?_
      refine rf_ild (i := 2) (Or.inr ⟨2, rfl, rfl, rfl⟩) c_108_19 rfl ?_
      refine rf_callM (as := [.ref x0, .int x1, .int x2]) (kd := 1) c_108_20 rfl (by decide) rfl ml_9_122 (by decide) rfl (rcv_1 hS rfl rfl h_x0 (by decide)) (Nat.zero_le _) rfl rfl (t_Tp_tokenOfNumber hS (by omega) x0 x1 x2 σ h_x0) (fun v20 => ?_)
      exact rf_ret c_108_23 rfl rfl rfl rfl
  · refine rf_b2f c_108_2 rfl (decide_eq_false hc2) ?_
    refine rf_ald (i := 0) (Or.inr ⟨0, rfl, rfl, rfl⟩) c_108_5 rfl ?_
    refine rf_ild (i := 1) (Or.inr ⟨1, rfl, rfl, rfl⟩) c_108_6 rfl ?_
    refine rf_ild (i := 2) (Or.inr ⟨2, rfl, rfl, rfl⟩) c_108_7 rfl ?_
    refine rf_callI (as := [.ref x0, .int x1, .int x2]) (kd := 1) c_108_8 rfl (by decide) rfl ml_9_119 (by decide) rfl (rcv_1 hS rfl rfl h_x0 (by decide)) (Nat.zero_le _) rfl rfl (t_Tp_tokenOfWord hS (by omega) σ x0 x1 x2 h_x0) (fun v8 => ?_)
    exact rf_ret c_108_11 rfl rfl rfl rfl
theorem t_Tp_tokenOf {X : Xt} {S : Sh} (hS : ShOK S) {d : Nat} (hd : 8 ≤ d) (x0 : Nat) (x1 : Int32) (x2 : Int32) (x3 : Int32) (σ : Mm) (h_x0 : tgT x0 = 9) : Rf X S emM (f_Tp_tokenOf x0 x1 x2 x3 σ) d 108 0 [.ref x0, .int x1, .int x2, .int x3] [] σ := by
  obtain ⟨d1, rfl⟩ : ∃ d1, d = d1 + 1 := ⟨d - 1, by omega⟩
  exact t_Tp_tokenOf_e hS hd x0 x1 x2 x3 σ h_x0
theorem c_104_0 : cd 104 0 = some (.aload_n 0, 1) := by decide +kernel
theorem c_104_1 : cd 104 1 = some (.iconst (0), 1) := by decide +kernel
theorem c_104_2 : cd 104 2 = some (.putfield 75, 3) := by decide +kernel
theorem c_104_5 : cd 104 5 = some (.iconst (0), 1) := by decide +kernel
theorem c_104_6 : cd 104 6 = some (.istore_n 1, 1) := by decide +kernel
theorem c_104_7 : cd 104 7 = some (.iconst (-1), 1) := by decide +kernel
theorem c_104_8 : cd 104 8 = some (.istore_n 2, 1) := by decide +kernel
theorem c_104_9 : cd 104 9 = some (.iconst (0), 1) := by decide +kernel
theorem c_104_10 : cd 104 10 = some (.istore_n 3, 1) := by decide +kernel
theorem c_104_11 : cd 104 11 = some (.iload_n 3, 1) := by decide +kernel
theorem c_104_12 : cd 104 12 = some (.bipush (96), 2) := by decide +kernel
theorem c_104_14 : cd 104 14 = some (.if_icmp .ge (112), 3) := by decide +kernel
theorem c_104_17 : cd 104 17 = some (.iload_n 1, 1) := by decide +kernel
theorem c_104_18 : cd 104 18 = some (.aload_n 0, 1) := by decide +kernel
theorem c_104_19 : cd 104 19 = some (.getfield 32, 3) := by decide +kernel
theorem c_104_22 : cd 104 22 = some (.if_icmp .ge (104), 3) := by decide +kernel
theorem c_104_25 : cd 104 25 = some (.aload_n 0, 1) := by decide +kernel
theorem c_104_26 : cd 104 26 = some (.getfield 9, 3) := by decide +kernel
theorem c_104_29 : cd 104 29 = some (.iload_n 1, 1) := by decide +kernel
theorem c_104_30 : cd 104 30 = some (.baload, 1) := by decide +kernel
theorem c_104_31 : cd 104 31 = some (.bipush (32), 2) := by decide +kernel
theorem c_104_33 : cd 104 33 = some (.if_icmp .ne (9), 3) := by decide +kernel
theorem c_104_36 : cd 104 36 = some (.iinc 1 (1), 3) := by decide +kernel
theorem c_104_39 : cd 104 39 = some (.goto (81), 3) := by decide +kernel
theorem c_104_42 : cd 104 42 = some (.aload_n 0, 1) := by decide +kernel
theorem c_104_43 : cd 104 43 = some (.getfield 9, 3) := by decide +kernel
theorem c_104_46 : cd 104 46 = some (.iload_n 1, 1) := by decide +kernel
theorem c_104_47 : cd 104 47 = some (.baload, 1) := by decide +kernel
theorem c_104_48 : cd 104 48 = some (.invokestatic 104, 3) := by decide +kernel
theorem c_104_51 : cd 104 51 = some (.istore 4, 2) := by decide +kernel
theorem c_104_53 : cd 104 53 = some (.aload_n 0, 1) := by decide +kernel
theorem c_104_54 : cd 104 54 = some (.iload_n 1, 1) := by decide +kernel
theorem c_104_55 : cd 104 55 = some (.iload 4, 2) := by decide +kernel
theorem c_104_57 : cd 104 57 = some (.invokevirtual 108, 3) := by decide +kernel
theorem c_104_60 : cd 104 60 = some (.istore 5, 2) := by decide +kernel
theorem c_104_62 : cd 104 62 = some (.iload 4, 2) := by decide +kernel
theorem c_104_64 : cd 104 64 = some (.iconst (3), 1) := by decide +kernel
theorem c_104_65 : cd 104 65 = some (.if_icmp .eq (12), 3) := by decide +kernel
theorem c_104_68 : cd 104 68 = some (.iload_n 2, 1) := by decide +kernel
theorem c_104_69 : cd 104 69 = some (.iload_n 1, 1) := by decide +kernel
theorem c_104_70 : cd 104 70 = some (.if_icmp .ne (7), 3) := by decide +kernel
theorem c_104_73 : cd 104 73 = some (.iconst (1), 1) := by decide +kernel
theorem c_104_74 : cd 104 74 = some (.goto (4), 3) := by decide +kernel
theorem c_104_77 : cd 104 77 = some (.iconst (0), 1) := by decide +kernel
theorem c_104_78 : cd 104 78 = some (.istore 6, 2) := by decide +kernel
theorem c_104_80 : cd 104 80 = some (.aload_n 0, 1) := by decide +kernel
theorem c_104_81 : cd 104 81 = some (.iload 6, 2) := by decide +kernel
theorem c_104_83 : cd 104 83 = some (.ifCond .eq (8), 3) := by decide +kernel
theorem c_104_86 : cd 104 86 = some (.bipush (23), 2) := by decide +kernel
theorem c_104_88 : cd 104 88 = some (.goto (12), 3) := by decide +kernel
theorem c_104_91 : cd 104 91 = some (.aload_n 0, 1) := by decide +kernel
theorem c_104_92 : cd 104 92 = some (.iload_n 1, 1) := by decide +kernel
theorem c_104_93 : cd 104 93 = some (.iload 5, 2) := by decide +kernel
theorem c_104_95 : cd 104 95 = some (.iload 4, 2) := by decide +kernel
theorem c_104_97 : cd 104 97 = some (.invokevirtual 112, 3) := by decide +kernel
theorem c_104_100 : cd 104 100 = some (.iload_n 1, 1) := by decide +kernel
theorem c_104_101 : cd 104 101 = some (.invokevirtual 116, 3) := by decide +kernel
theorem c_104_104 : cd 104 104 = some (.iload 5, 2) := by decide +kernel
theorem c_104_106 : cd 104 106 = some (.istore_n 1, 1) := by decide +kernel
theorem c_104_107 : cd 104 107 = some (.iload 4, 2) := by decide +kernel
theorem c_104_109 : cd 104 109 = some (.iconst (3), 1) := by decide +kernel
theorem c_104_110 : cd 104 110 = some (.if_icmp .ne (7), 3) := by decide +kernel
theorem c_104_113 : cd 104 113 = some (.iconst (-1), 1) := by decide +kernel
theorem c_104_114 : cd 104 114 = some (.goto (5), 3) := by decide +kernel
theorem c_104_117 : cd 104 117 = some (.iload 5, 2) := by decide +kernel
theorem c_104_119 : cd 104 119 = some (.istore_n 2, 1) := by decide +kernel
theorem c_104_120 : cd 104 120 = some (.iinc 3 (1), 3) := by decide +kernel
theorem c_104_123 : cd 104 123 = some (.goto (-112), 3) := by decide +kernel
theorem c_104_126 : cd 104 126 = some (.aload_n 0, 1) := by decide +kernel
theorem c_104_127 : cd 104 127 = some (.getfield 15, 3) := by decide +kernel
theorem c_104_130 : cd 104 130 = some (.aload_n 0, 1) := by decide +kernel
theorem c_104_131 : cd 104 131 = some (.getfield 75, 3) := by decide +kernel
theorem c_104_134 : cd 104 134 = some (.iconst (0), 1) := by decide +kernel
theorem c_104_135 : cd 104 135 = some (.iastore, 1) := by decide +kernel
theorem c_104_136 : cd 104 136 = some (.aload_n 0, 1) := by decide +kernel
theorem c_104_137 : cd 104 137 = some (.getfield 19, 3) := by decide +kernel
theorem c_104_140 : cd 104 140 = some (.aload_n 0, 1) := by decide +kernel
theorem c_104_141 : cd 104 141 = some (.getfield 75, 3) := by decide +kernel
theorem c_104_144 : cd 104 144 = some (.aload_n 0, 1) := by decide +kernel
theorem c_104_145 : cd 104 145 = some (.getfield 32, 3) := by decide +kernel
theorem c_104_148 : cd 104 148 = some (.iastore, 1) := by decide +kernel
theorem c_104_149 : cd 104 149 = some (.return_, 1) := by decide +kernel
def f_Tp_cut_120 (k11 : Nat → Int32 → Int32 → Int32 → Mm → Option (Mm)) (x0 : Nat) (x1 : Int32) (x2 : Int32) (x3 : Int32) (σ : Mm) : Option Mm := k11 x0 x1 x2 (x3 + (1 : Int32)) σ
set_option maxRecDepth 100000 in
set_option maxHeartbeats 4000000 in
theorem t_Tp_cut_120 {X : Xt} {S : Sh} (hS : ShOK S) {d : Nat} (hd : 9 ≤ d + 1) {k11 : Nat → Int32 → Int32 → Int32 → Mm → Option (Mm)} (hk11 : ∀ (x0 : Nat) (x1 : Int32) (x2 : Int32) (x3 : Int32) (u4 : Value) (u5 : Value) (u6 : Value) (σ : Mm) (h_x0 : tgT x0 = 9), Rf X S emV (k11 x0 x1 x2 x3 σ) (d + 1) 104 11 [.ref x0, .int x1, .int x2, .int x3, u4, u5, u6] [] σ) (x0 : Nat) (x1 : Int32) (x2 : Int32) (x3 : Int32) (u4 : Value) (u5 : Value) (u6 : Value) (σ : Mm) (h_x0 : tgT x0 = 9) : Rf X S emV (f_Tp_cut_120 k11 x0 x1 x2 x3 σ) (d + 1) 104 120 [.ref x0, .int x1, .int x2, .int x3, u4, u5, u6] [] σ := by
  unfold f_Tp_cut_120
  refine rf_iinc c_104_120 rfl ki_1 rfl ?_
  refine rf_goto c_104_123 rfl ?_
  exact hk11 x0 x1 x2 (x3 + (1 : Int32)) (u4) (u5) (u6) σ h_x0
def f_Tp_cut_119 (k11 : Nat → Int32 → Int32 → Int32 → Mm → Option (Mm)) (x0 : Nat) (x1 : Int32) (x3 : Int32) (y0 : Int32) (σ : Mm) : Option Mm := f_Tp_cut_120 k11 x0 x1 y0 x3 σ
set_option maxRecDepth 100000 in
set_option maxHeartbeats 4000000 in
theorem t_Tp_cut_119 {X : Xt} {S : Sh} (hS : ShOK S) {d : Nat} (hd : 9 ≤ d + 1) {k11 : Nat → Int32 → Int32 → Int32 → Mm → Option (Mm)} (hk11 : ∀ (x0 : Nat) (x1 : Int32) (x2 : Int32) (x3 : Int32) (u4 : Value) (u5 : Value) (u6 : Value) (σ : Mm) (h_x0 : tgT x0 = 9), Rf X S emV (k11 x0 x1 x2 x3 σ) (d + 1) 104 11 [.ref x0, .int x1, .int x2, .int x3, u4, u5, u6] [] σ) (x0 : Nat) (x1 : Int32) (x3 : Int32) (y0 : Int32) (u2 : Value) (u4 : Value) (u5 : Value) (u6 : Value) (σ : Mm) (h_x0 : tgT x0 = 9) : Rf X S emV (f_Tp_cut_119 k11 x0 x1 x3 y0 σ) (d + 1) 104 119 [.ref x0, .int x1, u2, .int x3, u4, u5, u6] [.int y0] σ := by
  unfold f_Tp_cut_119
  refine rf_ist (i := 2) (Or.inr ⟨2, rfl, rfl, rfl⟩) c_104_119 (Nat.le_of_ble_eq_true rfl) rfl ?_
  exact t_Tp_cut_120 hS hd hk11 x0 x1 y0 x3 (u4) (u5) (u6) σ h_x0
def f_Tp_cut_100 (k11 : Nat → Int32 → Int32 → Int32 → Mm → Option (Mm)) (x0 : Nat) (x1 : Int32) (x3 : Int32) (x4 : Int32) (x5 : Int32) (y0 : Nat) (y1 : Int32) (σ : Mm) : Option Mm := (f_Tp_putToken y0 y1 x1 σ).bind fun v101 => (if ¬ x4 = (3 : Int32) then (f_Tp_cut_119 k11 x0 x5 x3 x5 v101) else (f_Tp_cut_119 k11 x0 x5 x3 (-1 : Int32) v101))
set_option maxRecDepth 100000 in
set_option maxHeartbeats 4000000 in
theorem t_Tp_cut_100 {X : Xt} {S : Sh} (hS : ShOK S) {d : Nat} (hd : 9 ≤ d + 1) {k11 : Nat → Int32 → Int32 → Int32 → Mm → Option (Mm)} (hk11 : ∀ (x0 : Nat) (x1 : Int32) (x2 : Int32) (x3 : Int32) (u4 : Value) (u5 : Value) (u6 : Value) (σ : Mm) (h_x0 : tgT x0 = 9), Rf X S emV (k11 x0 x1 x2 x3 σ) (d + 1) 104 11 [.ref x0, .int x1, .int x2, .int x3, u4, u5, u6] [] σ) (x0 : Nat) (x1 : Int32) (x3 : Int32) (x4 : Int32) (x5 : Int32) (y0 : Nat) (y1 : Int32) (u2 : Value) (u6 : Value) (σ : Mm) (h_x0 : tgT x0 = 9) (h_y0 : tgT y0 = 9) : Rf X S emV (f_Tp_cut_100 k11 x0 x1 x3 x4 x5 y0 y1 σ) (d + 1) 104 100 [.ref x0, .int x1, u2, .int x3, .int x4, .int x5, u6] [.int y1, .ref y0] σ := by
  unfold f_Tp_cut_100
  refine rf_ild (i := 1) (Or.inr ⟨1, rfl, rfl, rfl⟩) c_104_100 rfl ?_
  refine rf_callV (as := [.ref y0, .int y1, .int x1]) (kd := 1) c_104_101 rfl (by decide) rfl ml_9_116 (by decide) rfl (rcv_1 hS rfl rfl h_y0 (by decide)) (Nat.zero_le _) rfl rfl (t_Tp_putToken hS (by omega) y0 y1 x1 σ h_y0) (fun v101 => ?_)
  refine rf_ild (i := 5) (Or.inl ⟨rfl, rfl⟩) c_104_104 rfl ?_
  refine rf_ist (i := 1) (Or.inr ⟨1, rfl, rfl, rfl⟩) c_104_106 (Nat.le_of_ble_eq_true rfl) rfl ?_
  refine rf_ild (i := 4) (Or.inl ⟨rfl, rfl⟩) c_104_107 rfl ?_
  refine rf_iconst c_104_109 ki_3 ?_
  refine rf_ite (fun hc110 => ?_) (fun hc110 => ?_)
  · refine rf_b2t c_104_110 rfl (decide_eq_true hc110) ?_
    refine rf_ild (i := 5) (Or.inl ⟨rfl, rfl⟩) c_104_117 rfl ?_
    exact t_Tp_cut_119 hS hd hk11 x0 x5 x3 x5 (u2) (.int x4) (.int x5) (u6) v101 h_x0
  · refine rf_b2f c_104_110 rfl (decide_eq_false hc110) ?_
    refine rf_iconst c_104_113 ki_m1 ?_
    refine rf_goto c_104_114 rfl ?_
    exact t_Tp_cut_119 hS hd hk11 x0 x5 x3 (-1 : Int32) (u2) (.int x4) (.int x5) (u6) v101 h_x0
def f_Tp_cut_78 (k11 : Nat → Int32 → Int32 → Int32 → Mm → Option (Mm)) (x0 : Nat) (x1 : Int32) (x3 : Int32) (x4 : Int32) (x5 : Int32) (y0 : Int32) (σ : Mm) : Option Mm := (if y0 = 0 then ((f_Tp_tokenOf x0 x1 x5 x4 σ).bind fun v97 => f_Tp_cut_100 k11 x0 x1 x3 x4 x5 x0 v97.1 v97.2) else (f_Tp_cut_100 k11 x0 x1 x3 x4 x5 x0 (23 : Int32) σ))
set_option maxRecDepth 100000 in
set_option maxHeartbeats 4000000 in
theorem t_Tp_cut_78 {X : Xt} {S : Sh} (hS : ShOK S) {d : Nat} (hd : 9 ≤ d + 1) {k11 : Nat → Int32 → Int32 → Int32 → Mm → Option (Mm)} (hk11 : ∀ (x0 : Nat) (x1 : Int32) (x2 : Int32) (x3 : Int32) (u4 : Value) (u5 : Value) (u6 : Value) (σ : Mm) (h_x0 : tgT x0 = 9), Rf X S emV (k11 x0 x1 x2 x3 σ) (d + 1) 104 11 [.ref x0, .int x1, .int x2, .int x3, u4, u5, u6] [] σ) (x0 : Nat) (x1 : Int32) (x3 : Int32) (x4 : Int32) (x5 : Int32) (y0 : Int32) (u2 : Value) (u6 : Value) (σ : Mm) (h_x0 : tgT x0 = 9) : Rf X S emV (f_Tp_cut_78 k11 x0 x1 x3 x4 x5 y0 σ) (d + 1) 104 78 [.ref x0, .int x1, u2, .int x3, .int x4, .int x5, u6] [.int y0] σ := by
  unfold f_Tp_cut_78
  refine rf_ist (i := 6) (Or.inl ⟨rfl, rfl⟩) c_104_78 (Nat.le_of_ble_eq_true rfl) rfl ?_
  refine rf_ald (i := 0) (Or.inr ⟨0, rfl, rfl, rfl⟩) c_104_80 rfl ?_
  refine rf_ild (i := 6) (Or.inl ⟨rfl, rfl⟩) c_104_81 rfl ?_
  refine rf_ite (fun hc83 => ?_) (fun hc83 => ?_)
  · refine rf_b1t c_104_83 rfl (decide_eq_true hc83) ?_
    refine rf_ald (i := 0) (Or.inr ⟨0, rfl, rfl, rfl⟩) c_104_91 rfl ?_
    refine rf_ild (i := 1) (Or.inr ⟨1, rfl, rfl, rfl⟩) c_104_92 rfl ?_
    refine rf_ild (i := 5) (Or.inl ⟨rfl, rfl⟩) c_104_93 rfl ?_
    refine rf_ild (i := 4) (Or.inl ⟨rfl, rfl⟩) c_104_95 rfl ?_
    refine rf_callM (as := [.ref x0, .int x1, .int x5, .int x4]) (kd := 1) c_104_97 rfl (by decide) rfl ml_9_112 (by decide) rfl (rcv_1 hS rfl rfl h_x0 (by decide)) (by simp [Value.category]) rfl rfl (t_Tp_tokenOf hS (by omega) x0 x1 x5 x4 σ h_x0) (fun v97 => ?_)
    exact t_Tp_cut_100 hS hd hk11 x0 x1 x3 x4 x5 x0 v97.1 (u2) (.int y0) v97.2 h_x0 h_x0
  · refine rf_b1f c_104_83 rfl (decide_eq_false hc83) ?_
    refine rf_bipush c_104_86 kb_23 ?_
    refine rf_goto c_104_88 rfl ?_
    exact t_Tp_cut_100 hS hd hk11 x0 x1 x3 x4 x5 x0 (23 : Int32) (u2) (.int y0) σ h_x0 h_x0
def f_Tp_cut_77 (k11 : Nat → Int32 → Int32 → Int32 → Mm → Option (Mm)) (x0 : Nat) (x1 : Int32) (x3 : Int32) (x4 : Int32) (x5 : Int32) (σ : Mm) : Option Mm := f_Tp_cut_78 k11 x0 x1 x3 x4 x5 (0 : Int32) σ
set_option maxRecDepth 100000 in
set_option maxHeartbeats 4000000 in
theorem t_Tp_cut_77 {X : Xt} {S : Sh} (hS : ShOK S) {d : Nat} (hd : 9 ≤ d + 1) {k11 : Nat → Int32 → Int32 → Int32 → Mm → Option (Mm)} (hk11 : ∀ (x0 : Nat) (x1 : Int32) (x2 : Int32) (x3 : Int32) (u4 : Value) (u5 : Value) (u6 : Value) (σ : Mm) (h_x0 : tgT x0 = 9), Rf X S emV (k11 x0 x1 x2 x3 σ) (d + 1) 104 11 [.ref x0, .int x1, .int x2, .int x3, u4, u5, u6] [] σ) (x0 : Nat) (x1 : Int32) (x3 : Int32) (x4 : Int32) (x5 : Int32) (u2 : Value) (u6 : Value) (σ : Mm) (h_x0 : tgT x0 = 9) : Rf X S emV (f_Tp_cut_77 k11 x0 x1 x3 x4 x5 σ) (d + 1) 104 77 [.ref x0, .int x1, u2, .int x3, .int x4, .int x5, u6] [] σ := by
  unfold f_Tp_cut_77
  refine rf_iconst c_104_77 ki_0 ?_
  exact t_Tp_cut_78 hS hd hk11 x0 x1 x3 x4 x5 (0 : Int32) (u2) (u6) σ h_x0
def f_Tp_cut_126 (x0 : Nat) (σ : Mm) : Option Mm := if inbB (σ x0 6) 97 = true then nmM (up2 σ (rfT x0 1) (ix (σ x0 6)) (0 : Int32)) fun σ135 => if inbB (σ135 x0 6) 97 = true then nmM (up2 σ135 (rfT x0 2) (ix (σ135 x0 6)) (σ135 x0 5)) fun σ148 => some σ148 else none else none
set_option maxRecDepth 100000 in
set_option maxHeartbeats 4000000 in
theorem t_Tp_cut_126 {X : Xt} {S : Sh} (hS : ShOK S) {d : Nat} (hd : 9 ≤ d + 1) (x0 : Nat) (u1 : Value) (u2 : Value) (u3 : Value) (u4 : Value) (u5 : Value) (u6 : Value) (σ : Mm) (h_x0 : tgT x0 = 9) : Rf X S emV (f_Tp_cut_126 x0 σ) (d + 1) 104 126 [.ref x0, u1, u2, u3, u4, u5, u6] [] σ := by
  unfold f_Tp_cut_126
  refine rf_ald (i := 0) (Or.inr ⟨0, rfl, rfl, rfl⟩) c_104_126 rfl ?_
  refine rf_getr hS c_104_127 rfl fl_9_15 rfl h_x0 ?_
  refine rf_ald (i := 0) (Or.inr ⟨0, rfl, rfl, rfl⟩) c_104_130 rfl ?_
  refine rf_geti hS c_104_131 rfl fl_9_75 rfl h_x0 ?_
  refine rf_iconst c_104_134 ki_0 ?_
  refine rf_ite (fun hb135 => ?_) (fun _ => rf_none)
  refine rf_iast hS c_104_135 (tf_9_1 h_x0) (lf_9_1 h_x0) hb135 ?_
  refine rf_nm (fun σ135 => ?_)
  refine rf_ald (i := 0) (Or.inr ⟨0, rfl, rfl, rfl⟩) c_104_136 rfl ?_
  refine rf_getr hS c_104_137 rfl fl_9_19 rfl h_x0 ?_
  refine rf_ald (i := 0) (Or.inr ⟨0, rfl, rfl, rfl⟩) c_104_140 rfl ?_
  refine rf_geti hS c_104_141 rfl fl_9_75 rfl h_x0 ?_
  refine rf_ald (i := 0) (Or.inr ⟨0, rfl, rfl, rfl⟩) c_104_144 rfl ?_
  refine rf_geti hS c_104_145 rfl fl_9_32 rfl h_x0 ?_
  refine rf_ite (fun hb148 => ?_) (fun _ => rf_none)
  refine rf_iast hS c_104_148 (tf_9_2 h_x0) (lf_9_2 h_x0) hb148 ?_
  refine rf_nm (fun σ148 => ?_)
  exact rf_vret c_104_149 rfl rfl
def f_Tp_cut_11 : Nat → Nat → Int32 → Int32 → Int32 → Mm → Option Mm
  | 0, _, _, _, _, _ => none
  | n + 1, x0, x1, x2, x3, σ => (if (96 : Int32) ≤ x3 then (f_Tp_cut_126  x0 σ) else (if (σ x0 5) ≤ x1 then (f_Tp_cut_126  x0 σ) else (if inbB x1 96 = true then (if ¬ (σ (rfT x0 0) (ix x1)) = (32 : Int32) then (if inbB x1 96 = true then (f_Tp_sortOf σ (σ (rfT x0 0) (ix x1))).bind fun v48 => (f_Tp_endOf σ x0 x1 v48).bind fun v57 => (if v48 = (3 : Int32) then (f_Tp_cut_77 (f_Tp_cut_11  n) x0 x1 x3 v48 v57 σ) else (if ¬ x2 = x1 then (f_Tp_cut_77 (f_Tp_cut_11  n) x0 x1 x3 v48 v57 σ) else (f_Tp_cut_78 (f_Tp_cut_11  n) x0 x1 x3 v48 v57 (1 : Int32) σ))) else none) else (f_Tp_cut_120 (f_Tp_cut_11  n) x0 (x1 + (1 : Int32)) x2 x3 σ)) else none)))
set_option maxRecDepth 100000 in
set_option maxHeartbeats 4000000 in
theorem t_Tp_cut_11 {X : Xt} {S : Sh} (hS : ShOK S) {d : Nat} (hd : 9 ≤ d + 1) : ∀ (n : Nat) (x0 : Nat) (x1 : Int32) (x2 : Int32) (x3 : Int32) (u4 : Value) (u5 : Value) (u6 : Value) (σ : Mm) (h_x0 : tgT x0 = 9), Rf X S emV (f_Tp_cut_11 n x0 x1 x2 x3 σ) (d + 1) 104 11 [.ref x0, .int x1, .int x2, .int x3, u4, u5, u6] [] σ := by
  intro n
  induction n with
  | zero => intro x0 x1 x2 x3 u4 u5 u6 σ h_x0; exact rf_none
  | succ n ih =>
    intro x0 x1 x2 x3 u4 u5 u6 σ h_x0
    rw [f_Tp_cut_11]
    refine rf_ild (i := 3) (Or.inr ⟨3, rfl, rfl, rfl⟩) c_104_11 rfl ?_
    refine rf_bipush c_104_12 kb_96 ?_
    refine rf_ite (fun hc14 => ?_) (fun hc14 => ?_)
    · refine rf_b2t c_104_14 rfl (decide_eq_true hc14) ?_
      exact t_Tp_cut_126 hS hd  x0 (.int x1) (.int x2) (.int x3) (u4) (u5) (u6) σ h_x0
    · refine rf_b2f c_104_14 rfl (decide_eq_false hc14) ?_
      refine rf_ild (i := 1) (Or.inr ⟨1, rfl, rfl, rfl⟩) c_104_17 rfl ?_
      refine rf_ald (i := 0) (Or.inr ⟨0, rfl, rfl, rfl⟩) c_104_18 rfl ?_
      refine rf_geti hS c_104_19 rfl fl_9_32 rfl h_x0 ?_
      refine rf_ite (fun hc22 => ?_) (fun hc22 => ?_)
      · refine rf_b2t c_104_22 rfl (decide_eq_true hc22) ?_
        exact t_Tp_cut_126 hS hd  x0 (.int x1) (.int x2) (.int x3) (u4) (u5) (u6) σ h_x0
      · refine rf_b2f c_104_22 rfl (decide_eq_false hc22) ?_
        refine rf_ald (i := 0) (Or.inr ⟨0, rfl, rfl, rfl⟩) c_104_25 rfl ?_
        refine rf_getr hS c_104_26 rfl fl_9_9 rfl h_x0 ?_
        refine rf_ild (i := 1) (Or.inr ⟨1, rfl, rfl, rfl⟩) c_104_29 rfl ?_
        refine rf_ite (fun hb30 => ?_) (fun _ => rf_none)
        refine rf_bald hS c_104_30 (Or.inl (tf_9_0 h_x0)) (lf_9_0 h_x0) hb30 ?_
        refine rf_bipush c_104_31 kb_32 ?_
        refine rf_ite (fun hc33 => ?_) (fun hc33 => ?_)
        · refine rf_b2t c_104_33 rfl (decide_eq_true hc33) ?_
          refine rf_ald (i := 0) (Or.inr ⟨0, rfl, rfl, rfl⟩) c_104_42 rfl ?_
          refine rf_getr hS c_104_43 rfl fl_9_9 rfl h_x0 ?_
          refine rf_ild (i := 1) (Or.inr ⟨1, rfl, rfl, rfl⟩) c_104_46 rfl ?_
          refine rf_ite (fun hb47 => ?_) (fun _ => rf_none)
          refine rf_bald hS c_104_47 (Or.inl (tf_9_0 h_x0)) (lf_9_0 h_x0) hb47 ?_
          refine rf_callI (as := [.int (σ (rfT x0 0) (ix x1))]) (kd := 0) c_104_48 rfl (by decide) rfl ml_9_104 (by decide) rfl (rcv_0 rfl) (Nat.zero_le _) rfl rfl (t_Tp_sortOf hS (by omega) σ (σ (rfT x0 0) (ix x1))) (fun v48 => ?_)
          refine rf_ist (i := 4) (Or.inl ⟨rfl, rfl⟩) c_104_51 (Nat.le_of_ble_eq_true rfl) rfl ?_
          refine rf_ald (i := 0) (Or.inr ⟨0, rfl, rfl, rfl⟩) c_104_53 rfl ?_
          refine rf_ild (i := 1) (Or.inr ⟨1, rfl, rfl, rfl⟩) c_104_54 rfl ?_
          refine rf_ild (i := 4) (Or.inl ⟨rfl, rfl⟩) c_104_55 rfl ?_
          refine rf_callI (as := [.ref x0, .int x1, .int v48]) (kd := 1) c_104_57 rfl (by decide) rfl ml_9_108 (by decide) rfl (rcv_1 hS rfl rfl h_x0 (by decide)) (Nat.zero_le _) rfl rfl (t_Tp_endOf hS (by omega) σ x0 x1 v48 h_x0) (fun v57 => ?_)
          refine rf_ist (i := 5) (Or.inl ⟨rfl, rfl⟩) c_104_60 (Nat.le_of_ble_eq_true rfl) rfl ?_
          refine rf_ild (i := 4) (Or.inl ⟨rfl, rfl⟩) c_104_62 rfl ?_
          refine rf_iconst c_104_64 ki_3 ?_
          refine rf_ite (fun hc65 => ?_) (fun hc65 => ?_)
          · refine rf_b2t c_104_65 rfl (decide_eq_true hc65) ?_
            exact t_Tp_cut_77 hS hd ih x0 x1 x3 v48 v57 (.int x2) (u6) σ h_x0
          · refine rf_b2f c_104_65 rfl (decide_eq_false hc65) ?_
            refine rf_ild (i := 2) (Or.inr ⟨2, rfl, rfl, rfl⟩) c_104_68 rfl ?_
            refine rf_ild (i := 1) (Or.inr ⟨1, rfl, rfl, rfl⟩) c_104_69 rfl ?_
            refine rf_ite (fun hc70 => ?_) (fun hc70 => ?_)
            · refine rf_b2t c_104_70 rfl (decide_eq_true hc70) ?_
              exact t_Tp_cut_77 hS hd ih x0 x1 x3 v48 v57 (.int x2) (u6) σ h_x0
            · refine rf_b2f c_104_70 rfl (decide_eq_false hc70) ?_
              refine rf_iconst c_104_73 ki_1 ?_
              refine rf_goto c_104_74 rfl ?_
              exact t_Tp_cut_78 hS hd ih x0 x1 x3 v48 v57 (1 : Int32) (.int x2) (u6) σ h_x0
        · refine rf_b2f c_104_33 rfl (decide_eq_false hc33) ?_
          refine rf_iinc c_104_36 rfl ki_1 rfl ?_
          refine rf_goto c_104_39 rfl ?_
          exact t_Tp_cut_120 hS hd ih x0 (x1 + (1 : Int32)) x2 x3 (u4) (u5) (u6) σ h_x0
def f_Tp_cut (x0 : Nat) (σ : Mm) : Option Mm := nmM (up2 σ x0 6 (0 : Int32)) fun σ2 => f_Tp_cut_11  NN x0 (0 : Int32) (-1 : Int32) (0 : Int32) σ2
set_option maxRecDepth 100000 in
set_option maxHeartbeats 4000000 in
theorem t_Tp_cut_e {X : Xt} {S : Sh} (hS : ShOK S) {d : Nat} (hd : 9 ≤ d + 1) (x0 : Nat) (σ : Mm) (h_x0 : tgT x0 = 9) : Rf X S emV (f_Tp_cut x0 σ) (d + 1) 104 0 [.ref x0, unset0, unset0, unset0, unset0, unset0, unset0] [] σ := by
  unfold f_Tp_cut
  refine rf_ald (i := 0) (Or.inr ⟨0, rfl, rfl, rfl⟩) c_104_0 rfl ?_
  refine rf_iconst c_104_1 ki_0 ?_
  refine rf_puti hS c_104_2 rfl fl_9_75 rfl rfl rfl rfl h_x0 ?_
  refine rf_nm (fun σ2 => ?_)
  refine rf_iconst c_104_5 ki_0 ?_
  refine rf_ist (i := 1) (Or.inr ⟨1, rfl, rfl, rfl⟩) c_104_6 (Nat.le_of_ble_eq_true rfl) rfl ?_
  refine rf_iconst c_104_7 ki_m1 ?_
  refine rf_ist (i := 2) (Or.inr ⟨2, rfl, rfl, rfl⟩) c_104_8 (Nat.le_of_ble_eq_true rfl) rfl ?_
  refine rf_iconst c_104_9 ki_0 ?_
  refine rf_ist (i := 3) (Or.inr ⟨3, rfl, rfl, rfl⟩) c_104_10 (Nat.le_of_ble_eq_true rfl) rfl ?_
  exact t_Tp_cut_11 hS hd  NN x0 (0 : Int32) (-1 : Int32) (0 : Int32) (unset0) (unset0) (unset0) σ2 h_x0
theorem t_Tp_cut {X : Xt} {S : Sh} (hS : ShOK S) {d : Nat} (hd : 9 ≤ d) (x0 : Nat) (σ : Mm) (h_x0 : tgT x0 = 9) : Rf X S emV (f_Tp_cut x0 σ) d 104 0 [.ref x0, unset0, unset0, unset0, unset0, unset0, unset0] [] σ := by
  obtain ⟨d1, rfl⟩ : ∃ d1, d = d1 + 1 := ⟨d - 1, by omega⟩
  exact t_Tp_cut_e hS hd x0 σ h_x0
theorem c_96_0 : cd 96 0 = some (.aload_n 0, 1) := by decide +kernel
theorem c_96_1 : cd 96 1 = some (.invokevirtual 46, 3) := by decide +kernel
theorem c_96_4 : cd 96 4 = some (.aload_n 0, 1) := by decide +kernel
theorem c_96_5 : cd 96 5 = some (.getfield 28, 3) := by decide +kernel
theorem c_96_8 : cd 96 8 = some (.invokevirtual 49, 3) := by decide +kernel
theorem c_96_11 : cd 96 11 = some (.aload_n 0, 1) := by decide +kernel
theorem c_96_12 : cd 96 12 = some (.iconst (0), 1) := by decide +kernel
theorem c_96_13 : cd 96 13 = some (.putfield 52, 3) := by decide +kernel
theorem c_96_16 : cd 96 16 = some (.aload_n 0, 1) := by decide +kernel
theorem c_96_17 : cd 96 17 = some (.aload_n 0, 1) := by decide +kernel
theorem c_96_18 : cd 96 18 = some (.getfield 15, 3) := by decide +kernel
theorem c_96_21 : cd 96 21 = some (.iconst (0), 1) := by decide +kernel
theorem c_96_22 : cd 96 22 = some (.iaload, 1) := by decide +kernel
theorem c_96_23 : cd 96 23 = some (.putfield 55, 3) := by decide +kernel
theorem c_96_26 : cd 96 26 = some (.aload_n 0, 1) := by decide +kernel
theorem c_96_27 : cd 96 27 = some (.invokevirtual 58, 3) := by decide +kernel
theorem c_96_30 : cd 96 30 = some (.ifCond .ne (5), 3) := by decide +kernel
theorem c_96_33 : cd 96 33 = some (.iconst (0), 1) := by decide +kernel
theorem c_96_34 : cd 96 34 = some (.ireturn, 1) := by decide +kernel
theorem c_96_35 : cd 96 35 = some (.aload_n 0, 1) := by decide +kernel
theorem c_96_36 : cd 96 36 = some (.getfield 55, 3) := by decide +kernel
theorem c_96_39 : cd 96 39 = some (.bipush (6), 2) := by decide +kernel
theorem c_96_41 : cd 96 41 = some (.if_icmp .ne (18), 3) := by decide +kernel
theorem c_96_44 : cd 96 44 = some (.aload_n 0, 1) := by decide +kernel
theorem c_96_45 : cd 96 45 = some (.invokevirtual 62, 3) := by decide +kernel
theorem c_96_48 : cd 96 48 = some (.aload_n 0, 1) := by decide +kernel
theorem c_96_49 : cd 96 49 = some (.iconst (0), 1) := by decide +kernel
theorem c_96_50 : cd 96 50 = some (.iconst (0), 1) := by decide +kernel
theorem c_96_51 : cd 96 51 = some (.invokevirtual 65, 3) := by decide +kernel
theorem c_96_54 : cd 96 54 = some (.ifCond .ne (5), 3) := by decide +kernel
theorem c_96_57 : cd 96 57 = some (.iconst (0), 1) := by decide +kernel
theorem c_96_58 : cd 96 58 = some (.ireturn, 1) := by decide +kernel
theorem c_96_59 : cd 96 59 = some (.aload_n 0, 1) := by decide +kernel
theorem c_96_60 : cd 96 60 = some (.getfield 28, 3) := by decide +kernel
theorem c_96_63 : cd 96 63 = some (.aload_n 0, 1) := by decide +kernel
theorem c_96_64 : cd 96 64 = some (.getfield 28, 3) := by decide +kernel
theorem c_96_67 : cd 96 67 = some (.getfield 69, 3) := by decide +kernel
theorem c_96_70 : cd 96 70 = some (.putfield 72, 3) := by decide +kernel
theorem c_96_73 : cd 96 73 = some (.aload_n 0, 1) := by decide +kernel
theorem c_96_74 : cd 96 74 = some (.getfield 55, 3) := by decide +kernel
theorem c_96_77 : cd 96 77 = some (.bipush (7), 2) := by decide +kernel
theorem c_96_79 : cd 96 79 = some (.if_icmp .ne (18), 3) := by decide +kernel
theorem c_96_82 : cd 96 82 = some (.aload_n 0, 1) := by decide +kernel
theorem c_96_83 : cd 96 83 = some (.invokevirtual 62, 3) := by decide +kernel
theorem c_96_86 : cd 96 86 = some (.aload_n 0, 1) := by decide +kernel
theorem c_96_87 : cd 96 87 = some (.iconst (0), 1) := by decide +kernel
theorem c_96_88 : cd 96 88 = some (.iconst (0), 1) := by decide +kernel
theorem c_96_89 : cd 96 89 = some (.invokevirtual 65, 3) := by decide +kernel
theorem c_96_92 : cd 96 92 = some (.ifCond .ne (5), 3) := by decide +kernel
theorem c_96_95 : cd 96 95 = some (.iconst (0), 1) := by decide +kernel
theorem c_96_96 : cd 96 96 = some (.ireturn, 1) := by decide +kernel
theorem c_96_97 : cd 96 97 = some (.aload_n 0, 1) := by decide +kernel
theorem c_96_98 : cd 96 98 = some (.getfield 55, 3) := by decide +kernel
theorem c_96_101 : cd 96 101 = some (.ifCond .ne (7), 3) := by decide +kernel
theorem c_96_104 : cd 96 104 = some (.iconst (1), 1) := by decide +kernel
theorem c_96_105 : cd 96 105 = some (.goto (4), 3) := by decide +kernel
theorem c_96_108 : cd 96 108 = some (.iconst (0), 1) := by decide +kernel
theorem c_96_109 : cd 96 109 = some (.ireturn, 1) := by decide +kernel
def f_Tp_readRule_109 (y0 : Int32) (σ : Mm) : Option (Int32 × Mm) := if zB y0 = true then some (y0, σ) else none
set_option maxRecDepth 100000 in
set_option maxHeartbeats 4000000 in
theorem t_Tp_readRule_109 {X : Xt} {S : Sh} (hS : ShOK S) {d : Nat} (hd : 61 ≤ d + 1) (y0 : Int32) (u0 : Value) (σ : Mm) : Rf X S emM (f_Tp_readRule_109 y0 σ) (d + 1) 96 109 [u0] [.int y0] σ := by
  unfold f_Tp_readRule_109
  refine rf_ite (fun hq109 => ?_) (fun _ => rf_none)
  exact rf_ret c_96_109 rfl (zB_n hq109) rfl rfl
def f_Tp_readRule_97 (x0 : Nat) (σ : Mm) : Option (Int32 × Mm) := (if ¬ (σ x0 8) = 0 then (f_Tp_readRule_109  (0 : Int32) σ) else (f_Tp_readRule_109  (1 : Int32) σ))
set_option maxRecDepth 100000 in
set_option maxHeartbeats 4000000 in
theorem t_Tp_readRule_97 {X : Xt} {S : Sh} (hS : ShOK S) {d : Nat} (hd : 61 ≤ d + 1) (x0 : Nat) (σ : Mm) (h_x0 : tgT x0 = 9) : Rf X S emM (f_Tp_readRule_97 x0 σ) (d + 1) 96 97 [.ref x0] [] σ := by
  unfold f_Tp_readRule_97
  refine rf_ald (i := 0) (Or.inr ⟨0, rfl, rfl, rfl⟩) c_96_97 rfl ?_
  refine rf_geti hS c_96_98 rfl fl_9_55 rfl h_x0 ?_
  refine rf_ite (fun hc101 => ?_) (fun hc101 => ?_)
  · refine rf_b1t c_96_101 rfl (decide_eq_true hc101) ?_
    refine rf_iconst c_96_108 ki_0 ?_
    exact t_Tp_readRule_109 hS hd  (0 : Int32) (.ref x0) σ
  · refine rf_b1f c_96_101 rfl (decide_eq_false hc101) ?_
    refine rf_iconst c_96_104 ki_1 ?_
    refine rf_goto c_96_105 rfl ?_
    exact t_Tp_readRule_109 hS hd  (1 : Int32) (.ref x0) σ
def f_Tp_readRule_59 (x0 : Nat) (σ : Mm) : Option (Int32 × Mm) := nmM (up2 σ (rfT x0 4) 5 (σ (rfT x0 4) 6)) fun σ70 => (if ¬ (σ70 x0 8) = (7 : Int32) then (f_Tp_readRule_97  x0 σ70) else ((f_Tp_advance x0 σ70).bind fun v83 => (fz_Tp_readOr x0 (0 : Int32) (0 : Int32) v83).bind fun v89 => (if ¬ v89.1 = 0 then (f_Tp_readRule_97  x0 v89.2) else (some ((0 : Int32), v89.2)))))
set_option maxRecDepth 100000 in
set_option maxHeartbeats 4000000 in
theorem t_Tp_readRule_59 {X : Xt} {S : Sh} (hS : ShOK S) {d : Nat} (hd : 61 ≤ d + 1) (x0 : Nat) (σ : Mm) (h_x0 : tgT x0 = 9) : Rf X S emM (f_Tp_readRule_59 x0 σ) (d + 1) 96 59 [.ref x0] [] σ := by
  unfold f_Tp_readRule_59
  refine rf_ald (i := 0) (Or.inr ⟨0, rfl, rfl, rfl⟩) c_96_59 rfl ?_
  refine rf_getr hS c_96_60 rfl fl_9_28 rfl h_x0 ?_
  refine rf_ald (i := 0) (Or.inr ⟨0, rfl, rfl, rfl⟩) c_96_63 rfl ?_
  refine rf_getr hS c_96_64 rfl fl_9_28 rfl h_x0 ?_
  refine rf_geti hS c_96_67 rfl fl_9_69 rfl (tf_9_4 h_x0) ?_
  refine rf_puti hS c_96_70 rfl fl_9_72 rfl rfl rfl rfl (tf_9_4 h_x0) ?_
  refine rf_nm (fun σ70 => ?_)
  refine rf_ald (i := 0) (Or.inr ⟨0, rfl, rfl, rfl⟩) c_96_73 rfl ?_
  refine rf_geti hS c_96_74 rfl fl_9_55 rfl h_x0 ?_
  refine rf_bipush c_96_77 kb_7 ?_
  refine rf_ite (fun hc79 => ?_) (fun hc79 => ?_)
  · refine rf_b2t c_96_79 rfl (decide_eq_true hc79) ?_
    exact t_Tp_readRule_97 hS hd  x0 σ70 h_x0
  · refine rf_b2f c_96_79 rfl (decide_eq_false hc79) ?_
    refine rf_ald (i := 0) (Or.inr ⟨0, rfl, rfl, rfl⟩) c_96_82 rfl ?_
    refine rf_callV (as := [.ref x0]) (kd := 1) c_96_83 rfl (by decide) rfl ml_9_62 (by decide) rfl (rcv_1 hS rfl rfl h_x0 (by decide)) (Nat.zero_le _) rfl rfl (t_Tp_advance hS (by omega) x0 σ70 h_x0) (fun v83 => ?_)
    refine rf_ald (i := 0) (Or.inr ⟨0, rfl, rfl, rfl⟩) c_96_86 rfl ?_
    refine rf_iconst c_96_87 ki_0 ?_
    refine rf_iconst c_96_88 ki_0 ?_
    refine rf_callM (as := [.ref x0, .int (0 : Int32), .int (0 : Int32)]) (kd := 1) c_96_89 rfl (by decide) rfl ml_9_65 (by decide) rfl (rcv_1 hS rfl rfl h_x0 (by decide)) (Nat.zero_le _) rfl rfl (tz_Tp_readOr hS (by omega) x0 (0 : Int32) (0 : Int32) v83 h_x0) (fun v89 => ?_)
    refine rf_ite (fun hc92 => ?_) (fun hc92 => ?_)
    · refine rf_b1t c_96_92 rfl (decide_eq_true hc92) ?_
      exact t_Tp_readRule_97 hS hd  x0 v89.2 h_x0
    · refine rf_b1f c_96_92 rfl (decide_eq_false hc92) ?_
      refine rf_iconst c_96_95 ki_0 ?_
      exact rf_ret c_96_96 rfl (by decide) rfl rfl
def f_Tp_readRule (x0 : Nat) (σ : Mm) : Option (Int32 × Mm) := (f_Tp_cut x0 σ).bind fun v1 => (f_Ru_clear (rfT x0 4) v1).bind fun v8 => nmM (up2 v8 x0 7 (0 : Int32)) fun σ13 => nmM (up2 σ13 x0 8 (σ13 (rfT x0 1) (ix (0 : Int32)))) fun σ23 => (f_Tp_readHead x0 σ23).bind fun v27 => (if ¬ v27.1 = 0 then (if ¬ (v27.2 x0 8) = (6 : Int32) then (f_Tp_readRule_59  x0 v27.2) else ((f_Tp_advance x0 v27.2).bind fun v45 => (fz_Tp_readOr x0 (0 : Int32) (0 : Int32) v45).bind fun v51 => (if ¬ v51.1 = 0 then (f_Tp_readRule_59  x0 v51.2) else (some ((0 : Int32), v51.2))))) else (some ((0 : Int32), v27.2)))
set_option maxRecDepth 100000 in
set_option maxHeartbeats 4000000 in
theorem t_Tp_readRule_e {X : Xt} {S : Sh} (hS : ShOK S) {d : Nat} (hd : 61 ≤ d + 1) (x0 : Nat) (σ : Mm) (h_x0 : tgT x0 = 9) : Rf X S emM (f_Tp_readRule x0 σ) (d + 1) 96 0 [.ref x0] [] σ := by
  unfold f_Tp_readRule
  refine rf_ald (i := 0) (Or.inr ⟨0, rfl, rfl, rfl⟩) c_96_0 rfl ?_
  refine rf_callV (as := [.ref x0]) (kd := 1) c_96_1 rfl (by decide) rfl ml_9_46 (by decide) rfl (rcv_1 hS rfl rfl h_x0 (by decide)) (Nat.zero_le _) rfl rfl (t_Tp_cut hS (by omega) x0 σ h_x0) (fun v1 => ?_)
  refine rf_ald (i := 0) (Or.inr ⟨0, rfl, rfl, rfl⟩) c_96_4 rfl ?_
  refine rf_getr hS c_96_5 rfl fl_9_28 rfl h_x0 ?_
  refine rf_callV (as := [.ref (rfT x0 4)]) (kd := 1) c_96_8 rfl (by decide) rfl ml_9_49 (by decide) rfl (rcv_1 hS rfl rfl (tf_9_4 h_x0) (by decide)) (Nat.zero_le _) rfl rfl (t_Ru_clear hS (by omega) (rfT x0 4) v1 (tf_9_4 h_x0)) (fun v8 => ?_)
  refine rf_ald (i := 0) (Or.inr ⟨0, rfl, rfl, rfl⟩) c_96_11 rfl ?_
  refine rf_iconst c_96_12 ki_0 ?_
  refine rf_puti hS c_96_13 rfl fl_9_52 rfl rfl rfl rfl h_x0 ?_
  refine rf_nm (fun σ13 => ?_)
  refine rf_ald (i := 0) (Or.inr ⟨0, rfl, rfl, rfl⟩) c_96_16 rfl ?_
  refine rf_ald (i := 0) (Or.inr ⟨0, rfl, rfl, rfl⟩) c_96_17 rfl ?_
  refine rf_getr hS c_96_18 rfl fl_9_15 rfl h_x0 ?_
  refine rf_iconst c_96_21 ki_0 ?_
  refine rf_iald hS c_96_22 (tf_9_1 h_x0) (lf_9_1 h_x0) (by decide) ?_
  refine rf_puti hS c_96_23 rfl fl_9_55 rfl rfl rfl rfl h_x0 ?_
  refine rf_nm (fun σ23 => ?_)
  refine rf_ald (i := 0) (Or.inr ⟨0, rfl, rfl, rfl⟩) c_96_26 rfl ?_
  refine rf_callM (as := [.ref x0]) (kd := 1) c_96_27 rfl (by decide) rfl ml_9_58 (by decide) rfl (rcv_1 hS rfl rfl h_x0 (by decide)) (Nat.zero_le _) rfl rfl (t_Tp_readHead hS (by omega) x0 σ23 h_x0) (fun v27 => ?_)
  refine rf_ite (fun hc30 => ?_) (fun hc30 => ?_)
  · refine rf_b1t c_96_30 rfl (decide_eq_true hc30) ?_
    refine rf_ald (i := 0) (Or.inr ⟨0, rfl, rfl, rfl⟩) c_96_35 rfl ?_
    refine rf_geti hS c_96_36 rfl fl_9_55 rfl h_x0 ?_
    refine rf_bipush c_96_39 kb_6 ?_
    refine rf_ite (fun hc41 => ?_) (fun hc41 => ?_)
    · refine rf_b2t c_96_41 rfl (decide_eq_true hc41) ?_
      exact t_Tp_readRule_59 hS hd  x0 v27.2 h_x0
    · refine rf_b2f c_96_41 rfl (decide_eq_false hc41) ?_
      refine rf_ald (i := 0) (Or.inr ⟨0, rfl, rfl, rfl⟩) c_96_44 rfl ?_
      refine rf_callV (as := [.ref x0]) (kd := 1) c_96_45 rfl (by decide) rfl ml_9_62 (by decide) rfl (rcv_1 hS rfl rfl h_x0 (by decide)) (Nat.zero_le _) rfl rfl (t_Tp_advance hS (by omega) x0 v27.2 h_x0) (fun v45 => ?_)
      refine rf_ald (i := 0) (Or.inr ⟨0, rfl, rfl, rfl⟩) c_96_48 rfl ?_
      refine rf_iconst c_96_49 ki_0 ?_
      refine rf_iconst c_96_50 ki_0 ?_
      refine rf_callM (as := [.ref x0, .int (0 : Int32), .int (0 : Int32)]) (kd := 1) c_96_51 rfl (by decide) rfl ml_9_65 (by decide) rfl (rcv_1 hS rfl rfl h_x0 (by decide)) (Nat.zero_le _) rfl rfl (tz_Tp_readOr hS (by omega) x0 (0 : Int32) (0 : Int32) v45 h_x0) (fun v51 => ?_)
      refine rf_ite (fun hc54 => ?_) (fun hc54 => ?_)
      · refine rf_b1t c_96_54 rfl (decide_eq_true hc54) ?_
        exact t_Tp_readRule_59 hS hd  x0 v51.2 h_x0
      · refine rf_b1f c_96_54 rfl (decide_eq_false hc54) ?_
        refine rf_iconst c_96_57 ki_0 ?_
        exact rf_ret c_96_58 rfl (by decide) rfl rfl
  · refine rf_b1f c_96_30 rfl (decide_eq_false hc30) ?_
    refine rf_iconst c_96_33 ki_0 ?_
    exact rf_ret c_96_34 rfl (by decide) rfl rfl
theorem t_Tp_readRule {X : Xt} {S : Sh} (hS : ShOK S) {d : Nat} (hd : 61 ≤ d) (x0 : Nat) (σ : Mm) (h_x0 : tgT x0 = 9) : Rf X S emM (f_Tp_readRule x0 σ) d 96 0 [.ref x0] [] σ := by
  obtain ⟨d1, rfl⟩ : ∃ d1, d = d1 + 1 := ⟨d - 1, by omega⟩
  exact t_Tp_readRule_e hS hd x0 σ h_x0
theorem c_97_0 : cd 97 0 = some (.aload_n 0, 1) := by decide +kernel
theorem c_97_1 : cd 97 1 = some (.getfield 19, 3) := by decide +kernel
theorem c_97_4 : cd 97 4 = some (.aload_n 0, 1) := by decide +kernel
theorem c_97_5 : cd 97 5 = some (.getfield 52, 3) := by decide +kernel
theorem c_97_8 : cd 97 8 = some (.iaload, 1) := by decide +kernel
theorem c_97_9 : cd 97 9 = some (.ireturn, 1) := by decide +kernel
def f_Tp_placeOfFault (σ : Mm) (x0 : Nat) : Option Int32 := if inbB (σ x0 7) 97 = true then some (σ (rfT x0 2) (ix (σ x0 7))) else none
set_option maxRecDepth 100000 in
set_option maxHeartbeats 4000000 in
theorem t_Tp_placeOfFault {X : Xt} {S : Sh} (hS : ShOK S) {d : Nat} (hd : 0 ≤ d) (σ : Mm) (x0 : Nat) (h_x0 : tgT x0 = 9) : Rf X S (emI σ) (f_Tp_placeOfFault σ x0) d 97 0 [.ref x0] [] σ := by
  unfold f_Tp_placeOfFault
  refine rf_ald (i := 0) (Or.inr ⟨0, rfl, rfl, rfl⟩) c_97_0 rfl ?_
  refine rf_getr hS c_97_1 rfl fl_9_19 rfl h_x0 ?_
  refine rf_ald (i := 0) (Or.inr ⟨0, rfl, rfl, rfl⟩) c_97_4 rfl ?_
  refine rf_geti hS c_97_5 rfl fl_9_52 rfl h_x0 ?_
  refine rf_ite (fun hb8 => ?_) (fun _ => rf_none)
  refine rf_iald hS c_97_8 (tf_9_2 h_x0) (lf_9_2 h_x0) hb8 ?_
  exact rf_ret c_97_9 rfl rfl rfl rfl
theorem c_116_0 : cd 116 0 = some (.aload_n 0, 1) := by decide +kernel
theorem c_116_1 : cd 116 1 = some (.getfield 18, 3) := by decide +kernel
theorem c_116_4 : cd 116 4 = some (.ifCond .eq (27), 3) := by decide +kernel
theorem c_116_7 : cd 116 7 = some (.iload_n 1, 1) := by decide +kernel
theorem c_116_8 : cd 116 8 = some (.aload_n 0, 1) := by decide +kernel
theorem c_116_9 : cd 116 9 = some (.getfield 33, 3) := by decide +kernel
theorem c_116_12 : cd 116 12 = some (.if_icmp .lt (19), 3) := by decide +kernel
theorem c_116_15 : cd 116 15 = some (.iload_n 1, 1) := by decide +kernel
theorem c_116_16 : cd 116 16 = some (.aload_n 0, 1) := by decide +kernel
theorem c_116_17 : cd 116 17 = some (.getfield 33, 3) := by decide +kernel
theorem c_116_20 : cd 116 20 = some (.if_icmp .ne (15), 3) := by decide +kernel
theorem c_116_23 : cd 116 23 = some (.iload_n 2, 1) := by decide +kernel
theorem c_116_24 : cd 116 24 = some (.aload_n 0, 1) := by decide +kernel
theorem c_116_25 : cd 116 25 = some (.getfield 18, 3) := by decide +kernel
theorem c_116_28 : cd 116 28 = some (.if_icmp .ge (7), 3) := by decide +kernel
theorem c_116_31 : cd 116 31 = some (.iconst (1), 1) := by decide +kernel
theorem c_116_32 : cd 116 32 = some (.goto (4), 3) := by decide +kernel
theorem c_116_35 : cd 116 35 = some (.iconst (0), 1) := by decide +kernel
theorem c_116_36 : cd 116 36 = some (.istore_n 3, 1) := by decide +kernel
theorem c_116_37 : cd 116 37 = some (.iload_n 3, 1) := by decide +kernel
theorem c_116_38 : cd 116 38 = some (.ifCond .eq (27), 3) := by decide +kernel
theorem c_116_41 : cd 116 41 = some (.aload_n 0, 1) := by decide +kernel
theorem c_116_42 : cd 116 42 = some (.getfield 9, 3) := by decide +kernel
theorem c_116_45 : cd 116 45 = some (.iconst (0), 1) := by decide +kernel
theorem c_116_46 : cd 116 46 = some (.aload_n 0, 1) := by decide +kernel
theorem c_116_47 : cd 116 47 = some (.getfield 15, 3) := by decide +kernel
theorem c_116_50 : cd 116 50 = some (.iconst (0), 1) := by decide +kernel
theorem c_116_51 : cd 116 51 = some (.iload_n 2, 1) := by decide +kernel
theorem c_116_52 : cd 116 52 = some (.invokestatic 53, 3) := by decide +kernel
theorem c_116_55 : cd 116 55 = some (.aload_n 0, 1) := by decide +kernel
theorem c_116_56 : cd 116 56 = some (.iload_n 2, 1) := by decide +kernel
theorem c_116_57 : cd 116 57 = some (.putfield 18, 3) := by decide +kernel
theorem c_116_60 : cd 116 60 = some (.aload_n 0, 1) := by decide +kernel
theorem c_116_61 : cd 116 61 = some (.iload_n 1, 1) := by decide +kernel
theorem c_116_62 : cd 116 62 = some (.putfield 33, 3) := by decide +kernel
theorem c_116_65 : cd 116 65 = some (.return_, 1) := by decide +kernel
def f_Wf_rememberIfBetter_65 (σ : Mm) : Option Mm := some σ
set_option maxRecDepth 100000 in
set_option maxHeartbeats 4000000 in
theorem t_Wf_rememberIfBetter_65 {X : Xt} {S : Sh} (hS : ShOK S) {d : Nat} (hd : 6 ≤ d) (u0 : Value) (u1 : Value) (u2 : Value) (u3 : Value) (σ : Mm) : Rf X S emV (f_Wf_rememberIfBetter_65 σ) d 116 65 [u0, u1, u2, u3] [] σ := by
  unfold f_Wf_rememberIfBetter_65
  exact rf_vret c_116_65 rfl rfl
def f_Wf_rememberIfBetter_36 (x0 : Nat) (x1 : Int32) (x2 : Int32) (y0 : Int32) (σ : Mm) : Option Mm := (if y0 = 0 then (f_Wf_rememberIfBetter_65  σ) else (if cpB (0 : Int32) (0 : Int32) x2 6 6 = true then nmM (cp2 σ (rfT x0 0) (ix (0 : Int32)) (rfT x0 1) (ix (0 : Int32)) (ix x2)) fun σ52 => nmM (up2 σ52 x0 2 x2) fun σ57 => nmM (up2 σ57 x0 3 x1) fun σ62 => f_Wf_rememberIfBetter_65  σ62 else none))
set_option maxRecDepth 100000 in
set_option maxHeartbeats 4000000 in
theorem t_Wf_rememberIfBetter_36 {X : Xt} {S : Sh} (hS : ShOK S) {d : Nat} (hd : 6 ≤ d) (x0 : Nat) (x1 : Int32) (x2 : Int32) (y0 : Int32) (u3 : Value) (σ : Mm) (h_x0 : tgT x0 = 10) : Rf X S emV (f_Wf_rememberIfBetter_36 x0 x1 x2 y0 σ) d 116 36 [.ref x0, .int x1, .int x2, u3] [.int y0] σ := by
  unfold f_Wf_rememberIfBetter_36
  refine rf_ist (i := 3) (Or.inr ⟨3, rfl, rfl, rfl⟩) c_116_36 (Nat.le_of_ble_eq_true rfl) rfl ?_
  refine rf_ild (i := 3) (Or.inr ⟨3, rfl, rfl, rfl⟩) c_116_37 rfl ?_
  refine rf_ite (fun hc38 => ?_) (fun hc38 => ?_)
  · refine rf_b1t c_116_38 rfl (decide_eq_true hc38) ?_
    exact t_Wf_rememberIfBetter_65 hS hd  (.ref x0) (.int x1) (.int x2) (.int y0) σ
  · refine rf_b1f c_116_38 rfl (decide_eq_false hc38) ?_
    refine rf_ald (i := 0) (Or.inr ⟨0, rfl, rfl, rfl⟩) c_116_41 rfl ?_
    refine rf_getr hS c_116_42 rfl fl_10_9 rfl h_x0 ?_
    refine rf_iconst c_116_45 ki_0 ?_
    refine rf_ald (i := 0) (Or.inr ⟨0, rfl, rfl, rfl⟩) c_116_46 rfl ?_
    refine rf_getr hS c_116_47 rfl fl_10_15 rfl h_x0 ?_
    refine rf_iconst c_116_50 ki_0 ?_
    refine rf_ild (i := 2) (Or.inr ⟨2, rfl, rfl, rfl⟩) c_116_51 rfl ?_
    refine rf_ite (fun hp52 => ?_) (fun _ => rf_none)
    refine rf_copy hS c_116_52 rfl ml_10_53 (by omega) (Nat.zero_le _) (tf_10_0 h_x0) (tf_10_1 h_x0) (lf_10_0 h_x0) (lf_10_1 h_x0) hp52 ?_
    refine rf_nm (fun σ52 => ?_)
    refine rf_ald (i := 0) (Or.inr ⟨0, rfl, rfl, rfl⟩) c_116_55 rfl ?_
    refine rf_ild (i := 2) (Or.inr ⟨2, rfl, rfl, rfl⟩) c_116_56 rfl ?_
    refine rf_puti hS c_116_57 rfl fl_10_18 rfl rfl rfl rfl h_x0 ?_
    refine rf_nm (fun σ57 => ?_)
    refine rf_ald (i := 0) (Or.inr ⟨0, rfl, rfl, rfl⟩) c_116_60 rfl ?_
    refine rf_ild (i := 1) (Or.inr ⟨1, rfl, rfl, rfl⟩) c_116_61 rfl ?_
    refine rf_puti hS c_116_62 rfl fl_10_33 rfl rfl rfl rfl h_x0 ?_
    refine rf_nm (fun σ62 => ?_)
    exact t_Wf_rememberIfBetter_65 hS hd  (.ref x0) (.int x1) (.int x2) (.int y0) σ62
def f_Wf_rememberIfBetter_31 (x0 : Nat) (x1 : Int32) (x2 : Int32) (σ : Mm) : Option Mm := f_Wf_rememberIfBetter_36  x0 x1 x2 (1 : Int32) σ
set_option maxRecDepth 100000 in
set_option maxHeartbeats 4000000 in
theorem t_Wf_rememberIfBetter_31 {X : Xt} {S : Sh} (hS : ShOK S) {d : Nat} (hd : 6 ≤ d) (x0 : Nat) (x1 : Int32) (x2 : Int32) (u3 : Value) (σ : Mm) (h_x0 : tgT x0 = 10) : Rf X S emV (f_Wf_rememberIfBetter_31 x0 x1 x2 σ) d 116 31 [.ref x0, .int x1, .int x2, u3] [] σ := by
  unfold f_Wf_rememberIfBetter_31
  refine rf_iconst c_116_31 ki_1 ?_
  refine rf_goto c_116_32 rfl ?_
  exact t_Wf_rememberIfBetter_36 hS hd  x0 x1 x2 (1 : Int32) (u3) σ h_x0
def f_Wf_rememberIfBetter_35 (x0 : Nat) (x1 : Int32) (x2 : Int32) (σ : Mm) : Option Mm := f_Wf_rememberIfBetter_36  x0 x1 x2 (0 : Int32) σ
set_option maxRecDepth 100000 in
set_option maxHeartbeats 4000000 in
theorem t_Wf_rememberIfBetter_35 {X : Xt} {S : Sh} (hS : ShOK S) {d : Nat} (hd : 6 ≤ d) (x0 : Nat) (x1 : Int32) (x2 : Int32) (u3 : Value) (σ : Mm) (h_x0 : tgT x0 = 10) : Rf X S emV (f_Wf_rememberIfBetter_35 x0 x1 x2 σ) d 116 35 [.ref x0, .int x1, .int x2, u3] [] σ := by
  unfold f_Wf_rememberIfBetter_35
  refine rf_iconst c_116_35 ki_0 ?_
  exact t_Wf_rememberIfBetter_36 hS hd  x0 x1 x2 (0 : Int32) (u3) σ h_x0
def f_Wf_rememberIfBetter (x0 : Nat) (x1 : Int32) (x2 : Int32) (σ : Mm) : Option Mm := (if (σ x0 2) = 0 then (f_Wf_rememberIfBetter_31  x0 x1 x2 σ) else (if x1 < (σ x0 3) then (f_Wf_rememberIfBetter_31  x0 x1 x2 σ) else (if ¬ x1 = (σ x0 3) then (f_Wf_rememberIfBetter_35  x0 x1 x2 σ) else (if (σ x0 2) ≤ x2 then (f_Wf_rememberIfBetter_35  x0 x1 x2 σ) else (f_Wf_rememberIfBetter_31  x0 x1 x2 σ)))))
set_option maxRecDepth 100000 in
set_option maxHeartbeats 4000000 in
theorem t_Wf_rememberIfBetter {X : Xt} {S : Sh} (hS : ShOK S) {d : Nat} (hd : 6 ≤ d) (x0 : Nat) (x1 : Int32) (x2 : Int32) (σ : Mm) (h_x0 : tgT x0 = 10) : Rf X S emV (f_Wf_rememberIfBetter x0 x1 x2 σ) d 116 0 [.ref x0, .int x1, .int x2, unset0] [] σ := by
  unfold f_Wf_rememberIfBetter
  refine rf_ald (i := 0) (Or.inr ⟨0, rfl, rfl, rfl⟩) c_116_0 rfl ?_
  refine rf_geti hS c_116_1 rfl fl_10_18 rfl h_x0 ?_
  refine rf_ite (fun hc4 => ?_) (fun hc4 => ?_)
  · refine rf_b1t c_116_4 rfl (decide_eq_true hc4) ?_
    exact t_Wf_rememberIfBetter_31 hS hd  x0 x1 x2 (unset0) σ h_x0
  · refine rf_b1f c_116_4 rfl (decide_eq_false hc4) ?_
    refine rf_ild (i := 1) (Or.inr ⟨1, rfl, rfl, rfl⟩) c_116_7 rfl ?_
    refine rf_ald (i := 0) (Or.inr ⟨0, rfl, rfl, rfl⟩) c_116_8 rfl ?_
    refine rf_geti hS c_116_9 rfl fl_10_33 rfl h_x0 ?_
    refine rf_ite (fun hc12 => ?_) (fun hc12 => ?_)
    · refine rf_b2t c_116_12 rfl (decide_eq_true hc12) ?_
      exact t_Wf_rememberIfBetter_31 hS hd  x0 x1 x2 (unset0) σ h_x0
    · refine rf_b2f c_116_12 rfl (decide_eq_false hc12) ?_
      refine rf_ild (i := 1) (Or.inr ⟨1, rfl, rfl, rfl⟩) c_116_15 rfl ?_
      refine rf_ald (i := 0) (Or.inr ⟨0, rfl, rfl, rfl⟩) c_116_16 rfl ?_
      refine rf_geti hS c_116_17 rfl fl_10_33 rfl h_x0 ?_
      refine rf_ite (fun hc20 => ?_) (fun hc20 => ?_)
      · refine rf_b2t c_116_20 rfl (decide_eq_true hc20) ?_
        exact t_Wf_rememberIfBetter_35 hS hd  x0 x1 x2 (unset0) σ h_x0
      · refine rf_b2f c_116_20 rfl (decide_eq_false hc20) ?_
        refine rf_ild (i := 2) (Or.inr ⟨2, rfl, rfl, rfl⟩) c_116_23 rfl ?_
        refine rf_ald (i := 0) (Or.inr ⟨0, rfl, rfl, rfl⟩) c_116_24 rfl ?_
        refine rf_geti hS c_116_25 rfl fl_10_18 rfl h_x0 ?_
        refine rf_ite (fun hc28 => ?_) (fun hc28 => ?_)
        · refine rf_b2t c_116_28 rfl (decide_eq_true hc28) ?_
          exact t_Wf_rememberIfBetter_35 hS hd  x0 x1 x2 (unset0) σ h_x0
        · refine rf_b2f c_116_28 rfl (decide_eq_false hc28) ?_
          exact t_Wf_rememberIfBetter_31 hS hd  x0 x1 x2 (unset0) σ h_x0
theorem c_115_0 : cd 115 0 = some (.iload 4, 2) := by decide +kernel
theorem c_115_2 : cd 115 2 = some (.bipush (6), 2) := by decide +kernel
theorem c_115_4 : cd 115 4 = some (.if_icmp .lt (4), 3) := by decide +kernel
theorem c_115_7 : cd 115 7 = some (.return_, 1) := by decide +kernel
theorem c_115_8 : cd 115 8 = some (.aload_n 0, 1) := by decide +kernel
theorem c_115_9 : cd 115 9 = some (.getfield 9, 3) := by decide +kernel
theorem c_115_12 : cd 115 12 = some (.iload 4, 2) := by decide +kernel
theorem c_115_14 : cd 115 14 = some (.iload_n 2, 1) := by decide +kernel
theorem c_115_15 : cd 115 15 = some (.iastore, 1) := by decide +kernel
theorem c_115_16 : cd 115 16 = some (.iload_n 2, 1) := by decide +kernel
theorem c_115_17 : cd 115 17 = some (.aload_n 0, 1) := by decide +kernel
theorem c_115_18 : cd 115 18 = some (.getfield 22, 3) := by decide +kernel
theorem c_115_21 : cd 115 21 = some (.if_icmp .ne (13), 3) := by decide +kernel
theorem c_115_24 : cd 115 24 = some (.aload_n 0, 1) := by decide +kernel
theorem c_115_25 : cd 115 25 = some (.iload_n 3, 1) := by decide +kernel
theorem c_115_26 : cd 115 26 = some (.iload 4, 2) := by decide +kernel
theorem c_115_28 : cd 115 28 = some (.iconst (1), 1) := by decide +kernel
theorem c_115_29 : cd 115 29 = some (.iadd, 1) := by decide +kernel
theorem c_115_30 : cd 115 30 = some (.invokevirtual 36, 3) := by decide +kernel
theorem c_115_33 : cd 115 33 = some (.return_, 1) := by decide +kernel
theorem c_115_34 : cd 115 34 = some (.iload 5, 2) := by decide +kernel
theorem c_115_36 : cd 115 36 = some (.iconst (1), 1) := by decide +kernel
theorem c_115_37 : cd 115 37 = some (.iload_n 2, 1) := by decide +kernel
theorem c_115_38 : cd 115 38 = some (.ishl, 1) := by decide +kernel
theorem c_115_39 : cd 115 39 = some (.ior, 1) := by decide +kernel
theorem c_115_40 : cd 115 40 = some (.istore 6, 2) := by decide +kernel
theorem c_115_42 : cd 115 42 = some (.iconst (0), 1) := by decide +kernel
theorem c_115_43 : cd 115 43 = some (.istore 7, 2) := by decide +kernel
theorem c_115_45 : cd 115 45 = some (.iload 7, 2) := by decide +kernel
theorem c_115_47 : cd 115 47 = some (.aload_n 1, 1) := by decide +kernel
theorem c_115_48 : cd 115 48 = some (.getfield 40, 3) := by decide +kernel
theorem c_115_51 : cd 115 51 = some (.if_icmp .ge (54), 3) := by decide +kernel
theorem c_115_54 : cd 115 54 = some (.iload 6, 2) := by decide +kernel
theorem c_115_56 : cd 115 56 = some (.iload 7, 2) := by decide +kernel
theorem c_115_58 : cd 115 58 = some (.ishr, 1) := by decide +kernel
theorem c_115_59 : cd 115 59 = some (.iconst (1), 1) := by decide +kernel
theorem c_115_60 : cd 115 60 = some (.iand, 1) := by decide +kernel
theorem c_115_61 : cd 115 61 = some (.ifCond .ne (38), 3) := by decide +kernel
theorem c_115_64 : cd 115 64 = some (.aload_n 1, 1) := by decide +kernel
theorem c_115_65 : cd 115 65 = some (.iload_n 2, 1) := by decide +kernel
theorem c_115_66 : cd 115 66 = some (.iload 7, 2) := by decide +kernel
theorem c_115_68 : cd 115 68 = some (.invokevirtual 45, 3) := by decide +kernel
theorem c_115_71 : cd 115 71 = some (.ifCond .eq (28), 3) := by decide +kernel
theorem c_115_74 : cd 115 74 = some (.aload_n 0, 1) := by decide +kernel
theorem c_115_75 : cd 115 75 = some (.aload_n 1, 1) := by decide +kernel
theorem c_115_76 : cd 115 76 = some (.iload 7, 2) := by decide +kernel
theorem c_115_78 : cd 115 78 = some (.aload_n 1, 1) := by decide +kernel
theorem c_115_79 : cd 115 79 = some (.iload 7, 2) := by decide +kernel
theorem c_115_81 : cd 115 81 = some (.iload_n 3, 1) := by decide +kernel
theorem c_115_82 : cd 115 82 = some (.aload_n 0, 1) := by decide +kernel
theorem c_115_83 : cd 115 83 = some (.getfield 25, 3) := by decide +kernel
theorem c_115_86 : cd 115 86 = some (.iadd, 1) := by decide +kernel
theorem c_115_87 : cd 115 87 = some (.invokevirtual 49, 3) := by decide +kernel
theorem c_115_90 : cd 115 90 = some (.iload 4, 2) := by decide +kernel
theorem c_115_92 : cd 115 92 = some (.iconst (1), 1) := by decide +kernel
theorem c_115_93 : cd 115 93 = some (.iadd, 1) := by decide +kernel
theorem c_115_94 : cd 115 94 = some (.iload 6, 2) := by decide +kernel
theorem c_115_96 : cd 115 96 = some (.invokevirtual 28, 3) := by decide +kernel
theorem c_115_99 : cd 115 99 = some (.iinc 7 (1), 3) := by decide +kernel
theorem c_115_102 : cd 115 102 = some (.goto (-57), 3) := by decide +kernel
theorem c_115_105 : cd 115 105 = some (.return_, 1) := by decide +kernel
def f_Wf_stepTo_99 (r115 : Nat → Nat → Int32 → Int32 → Int32 → Int32 → Mm → Option (Mm)) (k45 : Nat → Nat → Int32 → Int32 → Int32 → Int32 → Int32 → Mm → Option (Mm)) (x0 : Nat) (x1 : Nat) (x2 : Int32) (x3 : Int32) (x4 : Int32) (x6 : Int32) (x7 : Int32) (σ : Mm) : Option Mm := k45 x0 x1 x2 x3 x4 x6 (x7 + (1 : Int32)) σ
set_option maxRecDepth 100000 in
set_option maxHeartbeats 4000000 in
theorem t_Wf_stepTo_99 {X : Xt} {S : Sh} (hS : ShOK S) {d : Nat} (hd : 7 ≤ d + 1) {r115 : Nat → Nat → Int32 → Int32 → Int32 → Int32 → Mm → Option (Mm)} (hr115 : ∀ (x0 : Nat) (x1 : Nat) (x2 : Int32) (x3 : Int32) (x4 : Int32) (x5 : Int32) (σ : Mm) (h_x0 : tgT x0 = 10) (h_x1 : tgT x1 = 8), Rf X S emV (r115 x0 x1 x2 x3 x4 x5 σ) d 115 0 [.ref x0, .ref x1, .int x2, .int x3, .int x4, .int x5, unset0, unset0] [] σ) {k45 : Nat → Nat → Int32 → Int32 → Int32 → Int32 → Int32 → Mm → Option (Mm)} (hk45 : ∀ (x0 : Nat) (x1 : Nat) (x2 : Int32) (x3 : Int32) (x4 : Int32) (x6 : Int32) (x7 : Int32) (u5 : Value) (σ : Mm) (h_x0 : tgT x0 = 10) (h_x1 : tgT x1 = 8), Rf X S emV (k45 x0 x1 x2 x3 x4 x6 x7 σ) (d + 1) 115 45 [.ref x0, .ref x1, .int x2, .int x3, .int x4, u5, .int x6, .int x7] [] σ) (x0 : Nat) (x1 : Nat) (x2 : Int32) (x3 : Int32) (x4 : Int32) (x6 : Int32) (x7 : Int32) (u5 : Value) (σ : Mm) (h_x0 : tgT x0 = 10) (h_x1 : tgT x1 = 8) : Rf X S emV (f_Wf_stepTo_99 r115 k45 x0 x1 x2 x3 x4 x6 x7 σ) (d + 1) 115 99 [.ref x0, .ref x1, .int x2, .int x3, .int x4, u5, .int x6, .int x7] [] σ := by
  unfold f_Wf_stepTo_99
  refine rf_iinc c_115_99 rfl ki_1 rfl ?_
  refine rf_goto c_115_102 rfl ?_
  exact hk45 x0 x1 x2 x3 x4 x6 (x7 + (1 : Int32)) (u5) σ h_x0 h_x1
def f_Wf_stepTo_45 (r115 : Nat → Nat → Int32 → Int32 → Int32 → Int32 → Mm → Option (Mm)) : Nat → Nat → Nat → Int32 → Int32 → Int32 → Int32 → Int32 → Mm → Option Mm
  | 0, _, _, _, _, _, _, _, _ => none
  | n + 1, x0, x1, x2, x3, x4, x6, x7, σ => (if (σ x1 4) ≤ x7 then (some σ) else (if ¬ ((x6 >>> (x7 &&& 31)) &&& (1 : Int32)) = 0 then (f_Wf_stepTo_99 r115 (f_Wf_stepTo_45 r115 n) x0 x1 x2 x3 x4 x6 x7 σ) else ((f_Tb_mayPass σ x1 x2 x7).bind fun v68 => (if v68 = 0 then (f_Wf_stepTo_99 r115 (f_Wf_stepTo_45 r115 n) x0 x1 x2 x3 x4 x6 x7 σ) else ((f_Tb_firstSitting σ x1 x7 (x3 + (σ x0 5))).bind fun v87 => (r115 x0 x1 x7 v87 (x4 + (1 : Int32)) x6 σ).bind fun v96 => f_Wf_stepTo_99 r115 (f_Wf_stepTo_45 r115 n) x0 x1 x2 x3 x4 x6 x7 v96)))))
set_option maxRecDepth 100000 in
set_option maxHeartbeats 4000000 in
theorem t_Wf_stepTo_45 {X : Xt} {S : Sh} (hS : ShOK S) {d : Nat} (hd : 7 ≤ d + 1) {r115 : Nat → Nat → Int32 → Int32 → Int32 → Int32 → Mm → Option (Mm)} (hr115 : ∀ (x0 : Nat) (x1 : Nat) (x2 : Int32) (x3 : Int32) (x4 : Int32) (x5 : Int32) (σ : Mm) (h_x0 : tgT x0 = 10) (h_x1 : tgT x1 = 8), Rf X S emV (r115 x0 x1 x2 x3 x4 x5 σ) d 115 0 [.ref x0, .ref x1, .int x2, .int x3, .int x4, .int x5, unset0, unset0] [] σ) : ∀ (n : Nat) (x0 : Nat) (x1 : Nat) (x2 : Int32) (x3 : Int32) (x4 : Int32) (x6 : Int32) (x7 : Int32) (u5 : Value) (σ : Mm) (h_x0 : tgT x0 = 10) (h_x1 : tgT x1 = 8), Rf X S emV (f_Wf_stepTo_45 r115 n x0 x1 x2 x3 x4 x6 x7 σ) (d + 1) 115 45 [.ref x0, .ref x1, .int x2, .int x3, .int x4, u5, .int x6, .int x7] [] σ := by
  intro n
  induction n with
  | zero => intro x0 x1 x2 x3 x4 x6 x7 u5 σ h_x0 h_x1; exact rf_none
  | succ n ih =>
    intro x0 x1 x2 x3 x4 x6 x7 u5 σ h_x0 h_x1
    rw [f_Wf_stepTo_45]
    refine rf_ild (i := 7) (Or.inl ⟨rfl, rfl⟩) c_115_45 rfl ?_
    refine rf_ald (i := 1) (Or.inr ⟨1, rfl, rfl, rfl⟩) c_115_47 rfl ?_
    refine rf_geti hS c_115_48 rfl fl_10_40 rfl h_x1 ?_
    refine rf_ite (fun hc51 => ?_) (fun hc51 => ?_)
    · refine rf_b2t c_115_51 rfl (decide_eq_true hc51) ?_
      exact rf_vret c_115_105 rfl rfl
    · refine rf_b2f c_115_51 rfl (decide_eq_false hc51) ?_
      refine rf_ild (i := 6) (Or.inl ⟨rfl, rfl⟩) c_115_54 rfl ?_
      refine rf_ild (i := 7) (Or.inl ⟨rfl, rfl⟩) c_115_56 rfl ?_
      refine rf_ishr c_115_58 ?_
      refine rf_iconst c_115_59 ki_1 ?_
      refine rf_iand c_115_60 ?_
      refine rf_ite (fun hc61 => ?_) (fun hc61 => ?_)
      · refine rf_b1t c_115_61 rfl (decide_eq_true hc61) ?_
        exact t_Wf_stepTo_99 hS hd hr115 ih x0 x1 x2 x3 x4 x6 x7 (u5) σ h_x0 h_x1
      · refine rf_b1f c_115_61 rfl (decide_eq_false hc61) ?_
        refine rf_ald (i := 1) (Or.inr ⟨1, rfl, rfl, rfl⟩) c_115_64 rfl ?_
        refine rf_ild (i := 2) (Or.inr ⟨2, rfl, rfl, rfl⟩) c_115_65 rfl ?_
        refine rf_ild (i := 7) (Or.inl ⟨rfl, rfl⟩) c_115_66 rfl ?_
        refine rf_callI (as := [.ref x1, .int x2, .int x7]) (kd := 1) c_115_68 rfl (by decide) rfl ml_10_45 (by decide) rfl (rcv_1 hS rfl rfl h_x1 (by decide)) (Nat.zero_le _) rfl rfl (t_Tb_mayPass hS (by omega) σ x1 x2 x7 h_x1) (fun v68 => ?_)
        refine rf_ite (fun hc71 => ?_) (fun hc71 => ?_)
        · refine rf_b1t c_115_71 rfl (decide_eq_true hc71) ?_
          exact t_Wf_stepTo_99 hS hd hr115 ih x0 x1 x2 x3 x4 x6 x7 (u5) σ h_x0 h_x1
        · refine rf_b1f c_115_71 rfl (decide_eq_false hc71) ?_
          refine rf_ald (i := 0) (Or.inr ⟨0, rfl, rfl, rfl⟩) c_115_74 rfl ?_
          refine rf_ald (i := 1) (Or.inr ⟨1, rfl, rfl, rfl⟩) c_115_75 rfl ?_
          refine rf_ild (i := 7) (Or.inl ⟨rfl, rfl⟩) c_115_76 rfl ?_
          refine rf_ald (i := 1) (Or.inr ⟨1, rfl, rfl, rfl⟩) c_115_78 rfl ?_
          refine rf_ild (i := 7) (Or.inl ⟨rfl, rfl⟩) c_115_79 rfl ?_
          refine rf_ild (i := 3) (Or.inr ⟨3, rfl, rfl, rfl⟩) c_115_81 rfl ?_
          refine rf_ald (i := 0) (Or.inr ⟨0, rfl, rfl, rfl⟩) c_115_82 rfl ?_
          refine rf_geti hS c_115_83 rfl fl_10_25 rfl h_x0 ?_
          refine rf_iadd c_115_86 ?_
          refine rf_callI (as := [.ref x1, .int x7, .int (x3 + (σ x0 5))]) (kd := 1) c_115_87 rfl (by decide) rfl ml_10_49 (by decide) rfl (rcv_1 hS rfl rfl h_x1 (by decide)) (by simp [Value.category]) rfl rfl (t_Tb_firstSitting hS (by omega) σ x1 x7 (x3 + (σ x0 5)) h_x1) (fun v87 => ?_)
          refine rf_ild (i := 4) (Or.inl ⟨rfl, rfl⟩) c_115_90 rfl ?_
          refine rf_iconst c_115_92 ki_1 ?_
          refine rf_iadd c_115_93 ?_
          refine rf_ild (i := 6) (Or.inl ⟨rfl, rfl⟩) c_115_94 rfl ?_
          refine rf_callV (as := [.ref x0, .ref x1, .int x7, .int v87, .int (x4 + (1 : Int32)), .int x6]) (kd := 1) c_115_96 rfl (by decide) rfl ml_10_28 (by decide) rfl (rcv_1 hS rfl rfl h_x0 (by decide)) (Nat.zero_le _) rfl rfl (hr115 x0 x1 x7 v87 (x4 + (1 : Int32)) x6 σ h_x0 h_x1) (fun v96 => ?_)
          exact t_Wf_stepTo_99 hS hd hr115 ih x0 x1 x2 x3 x4 x6 x7 (u5) v96 h_x0 h_x1
def f_Wf_stepTo (r115 : Nat → Nat → Int32 → Int32 → Int32 → Int32 → Mm → Option (Mm)) (x0 : Nat) (x1 : Nat) (x2 : Int32) (x3 : Int32) (x4 : Int32) (x5 : Int32) (σ : Mm) : Option Mm := (if x4 < (6 : Int32) then (if inbB x4 6 = true then nmM (up2 σ (rfT x0 0) (ix x4) x2) fun σ15 => (if ¬ x2 = (σ15 x0 4) then (f_Wf_stepTo_45 r115 NN x0 x1 x2 x3 x4 (x5 ||| ((1 : Int32) <<< (x2 &&& 31))) (0 : Int32) σ15) else ((f_Wf_rememberIfBetter x0 x3 (x4 + (1 : Int32)) σ15).bind fun v30 => some v30)) else none) else (some σ))
set_option maxRecDepth 100000 in
set_option maxHeartbeats 4000000 in
theorem t_Wf_stepTo_e {X : Xt} {S : Sh} (hS : ShOK S) {d : Nat} (hd : 7 ≤ d + 1) {r115 : Nat → Nat → Int32 → Int32 → Int32 → Int32 → Mm → Option (Mm)} (hr115 : ∀ (x0 : Nat) (x1 : Nat) (x2 : Int32) (x3 : Int32) (x4 : Int32) (x5 : Int32) (σ : Mm) (h_x0 : tgT x0 = 10) (h_x1 : tgT x1 = 8), Rf X S emV (r115 x0 x1 x2 x3 x4 x5 σ) d 115 0 [.ref x0, .ref x1, .int x2, .int x3, .int x4, .int x5, unset0, unset0] [] σ) (x0 : Nat) (x1 : Nat) (x2 : Int32) (x3 : Int32) (x4 : Int32) (x5 : Int32) (σ : Mm) (h_x0 : tgT x0 = 10) (h_x1 : tgT x1 = 8) : Rf X S emV (f_Wf_stepTo r115 x0 x1 x2 x3 x4 x5 σ) (d + 1) 115 0 [.ref x0, .ref x1, .int x2, .int x3, .int x4, .int x5, unset0, unset0] [] σ := by
  unfold f_Wf_stepTo
  refine rf_ild (i := 4) (Or.inl ⟨rfl, rfl⟩) c_115_0 rfl ?_
  refine rf_bipush c_115_2 kb_6 ?_
  refine rf_ite (fun hc4 => ?_) (fun hc4 => ?_)
  · refine rf_b2t c_115_4 rfl (decide_eq_true hc4) ?_
    refine rf_ald (i := 0) (Or.inr ⟨0, rfl, rfl, rfl⟩) c_115_8 rfl ?_
    refine rf_getr hS c_115_9 rfl fl_10_9 rfl h_x0 ?_
    refine rf_ild (i := 4) (Or.inl ⟨rfl, rfl⟩) c_115_12 rfl ?_
    refine rf_ild (i := 2) (Or.inr ⟨2, rfl, rfl, rfl⟩) c_115_14 rfl ?_
    refine rf_ite (fun hb15 => ?_) (fun _ => rf_none)
    refine rf_iast hS c_115_15 (tf_10_0 h_x0) (lf_10_0 h_x0) hb15 ?_
    refine rf_nm (fun σ15 => ?_)
    refine rf_ild (i := 2) (Or.inr ⟨2, rfl, rfl, rfl⟩) c_115_16 rfl ?_
    refine rf_ald (i := 0) (Or.inr ⟨0, rfl, rfl, rfl⟩) c_115_17 rfl ?_
    refine rf_geti hS c_115_18 rfl fl_10_22 rfl h_x0 ?_
    refine rf_ite (fun hc21 => ?_) (fun hc21 => ?_)
    · refine rf_b2t c_115_21 rfl (decide_eq_true hc21) ?_
      refine rf_ild (i := 5) (Or.inl ⟨rfl, rfl⟩) c_115_34 rfl ?_
      refine rf_iconst c_115_36 ki_1 ?_
      refine rf_ild (i := 2) (Or.inr ⟨2, rfl, rfl, rfl⟩) c_115_37 rfl ?_
      refine rf_ishl c_115_38 ?_
      refine rf_ior c_115_39 ?_
      refine rf_ist (i := 6) (Or.inl ⟨rfl, rfl⟩) c_115_40 (Nat.le_of_ble_eq_true rfl) rfl ?_
      refine rf_iconst c_115_42 ki_0 ?_
      refine rf_ist (i := 7) (Or.inl ⟨rfl, rfl⟩) c_115_43 (Nat.le_of_ble_eq_true rfl) rfl ?_
      exact t_Wf_stepTo_45 hS hd hr115  NN x0 x1 x2 x3 x4 (x5 ||| ((1 : Int32) <<< (x2 &&& 31))) (0 : Int32) (.int x5) σ15 h_x0 h_x1
    · refine rf_b2f c_115_21 rfl (decide_eq_false hc21) ?_
      refine rf_ald (i := 0) (Or.inr ⟨0, rfl, rfl, rfl⟩) c_115_24 rfl ?_
      refine rf_ild (i := 3) (Or.inr ⟨3, rfl, rfl, rfl⟩) c_115_25 rfl ?_
      refine rf_ild (i := 4) (Or.inl ⟨rfl, rfl⟩) c_115_26 rfl ?_
      refine rf_iconst c_115_28 ki_1 ?_
      refine rf_iadd c_115_29 ?_
      refine rf_callV (as := [.ref x0, .int x3, .int (x4 + (1 : Int32))]) (kd := 1) c_115_30 rfl (by decide) rfl ml_10_36 (by decide) rfl (rcv_1 hS rfl rfl h_x0 (by decide)) (Nat.zero_le _) rfl rfl (t_Wf_rememberIfBetter hS (by omega) x0 x3 (x4 + (1 : Int32)) σ15 h_x0) (fun v30 => ?_)
      exact rf_vret c_115_33 rfl rfl
  · refine rf_b2f c_115_4 rfl (decide_eq_false hc4) ?_
    exact rf_vret c_115_7 rfl rfl
def fzn_Wf_stepTo : Nat → Nat → Nat → Int32 → Int32 → Int32 → Int32 → Mm → Option Mm
  | 0, _, _, _, _, _, _, _ => none
  | k + 1, x0, x1, x2, x3, x4, x5, σ => f_Wf_stepTo (fzn_Wf_stepTo k) x0 x1 x2 x3 x4 x5 σ
theorem tzn_Wf_stepTo {X : Xt} {S : Sh} (hS : ShOK S) : ∀ (k d : Nat) (hd : k + 7 ≤ d) (x0 x1 : Nat) (x2 x3 x4 x5 : Int32) (σ : Mm) (h_x0 : tgT x0 = 10) (h_x1 : tgT x1 = 8), Rf X S emV (fzn_Wf_stepTo k x0 x1 x2 x3 x4 x5 σ) d 115 0 [.ref x0, .ref x1, .int x2, .int x3, .int x4, .int x5, unset0, unset0] [] σ := by
  intro k
  induction k with
  | zero => intro d hd x0 x1 x2 x3 x4 x5 σ h_x0 h_x1; exact rf_none
  | succ k ih =>
    intro d hd x0 x1 x2 x3 x4 x5 σ h_x0 h_x1
    obtain ⟨d1, rfl⟩ : ∃ d1, d = d1 + 1 := ⟨d - 1, by omega⟩
    rw [fzn_Wf_stepTo]
    exact t_Wf_stepTo_e (d := d1) hS (by omega) (fun x0 x1 x2 x3 x4 x5 σ h h1 => ih d1 (by omega) x0 x1 x2 x3 x4 x5 σ h h1) x0 x1 x2 x3 x4 x5 σ h_x0 h_x1
def fz_Wf_stepTo (x0 x1 : Nat) (x2 x3 x4 x5 : Int32) (σ : Mm) : Option Mm := fzn_Wf_stepTo 8 x0 x1 x2 x3 x4 x5 σ
theorem tz_Wf_stepTo {X : Xt} {S : Sh} (hS : ShOK S) {d : Nat} (hd : 16 ≤ d) (x0 x1 : Nat) (x2 x3 x4 x5 : Int32) (σ : Mm) (h_x0 : tgT x0 = 10) (h_x1 : tgT x1 = 8) : Rf X S emV (fz_Wf_stepTo x0 x1 x2 x3 x4 x5 σ) d 115 0 [.ref x0, .ref x1, .int x2, .int x3, .int x4, .int x5, unset0, unset0] [] σ := tzn_Wf_stepTo hS 8 d (by omega) x0 x1 x2 x3 x4 x5 σ h_x0 h_x1
theorem c_113_0 : cd 113 0 = some (.aload_n 0, 1) := by decide +kernel
theorem c_113_1 : cd 113 1 = some (.iconst (0), 1) := by decide +kernel
theorem c_113_2 : cd 113 2 = some (.putfield 18, 3) := by decide +kernel
theorem c_113_5 : cd 113 5 = some (.aload_n 0, 1) := by decide +kernel
theorem c_113_6 : cd 113 6 = some (.iload_n 3, 1) := by decide +kernel
theorem c_113_7 : cd 113 7 = some (.putfield 22, 3) := by decide +kernel
theorem c_113_10 : cd 113 10 = some (.aload_n 0, 1) := by decide +kernel
theorem c_113_11 : cd 113 11 = some (.iload 5, 2) := by decide +kernel
theorem c_113_13 : cd 113 13 = some (.putfield 25, 3) := by decide +kernel
theorem c_113_16 : cd 113 16 = some (.aload_n 0, 1) := by decide +kernel
theorem c_113_17 : cd 113 17 = some (.aload_n 1, 1) := by decide +kernel
theorem c_113_18 : cd 113 18 = some (.iload_n 2, 1) := by decide +kernel
theorem c_113_19 : cd 113 19 = some (.iload 4, 2) := by decide +kernel
theorem c_113_21 : cd 113 21 = some (.iconst (0), 1) := by decide +kernel
theorem c_113_22 : cd 113 22 = some (.iconst (0), 1) := by decide +kernel
theorem c_113_23 : cd 113 23 = some (.invokevirtual 28, 3) := by decide +kernel
theorem c_113_26 : cd 113 26 = some (.return_, 1) := by decide +kernel
def f_Wf_seek (x0 : Nat) (x1 : Nat) (x2 : Int32) (x3 : Int32) (x4 : Int32) (x5 : Int32) (σ : Mm) : Option Mm := nmM (up2 σ x0 2 (0 : Int32)) fun σ2 => nmM (up2 σ2 x0 4 x3) fun σ7 => nmM (up2 σ7 x0 5 x5) fun σ13 => (fz_Wf_stepTo x0 x1 x2 x4 (0 : Int32) (0 : Int32) σ13).bind fun v23 => some v23
set_option maxRecDepth 100000 in
set_option maxHeartbeats 4000000 in
theorem t_Wf_seek_e {X : Xt} {S : Sh} (hS : ShOK S) {d : Nat} (hd : 17 ≤ d + 1) (x0 : Nat) (x1 : Nat) (x2 : Int32) (x3 : Int32) (x4 : Int32) (x5 : Int32) (σ : Mm) (h_x0 : tgT x0 = 10) (h_x1 : tgT x1 = 8) : Rf X S emV (f_Wf_seek x0 x1 x2 x3 x4 x5 σ) (d + 1) 113 0 [.ref x0, .ref x1, .int x2, .int x3, .int x4, .int x5] [] σ := by
  unfold f_Wf_seek
  refine rf_ald (i := 0) (Or.inr ⟨0, rfl, rfl, rfl⟩) c_113_0 rfl ?_
  refine rf_iconst c_113_1 ki_0 ?_
  refine rf_puti hS c_113_2 rfl fl_10_18 rfl rfl rfl rfl h_x0 ?_
  refine rf_nm (fun σ2 => ?_)
  refine rf_ald (i := 0) (Or.inr ⟨0, rfl, rfl, rfl⟩) c_113_5 rfl ?_
  refine rf_ild (i := 3) (Or.inr ⟨3, rfl, rfl, rfl⟩) c_113_6 rfl ?_
  refine rf_puti hS c_113_7 rfl fl_10_22 rfl rfl rfl rfl h_x0 ?_
  refine rf_nm (fun σ7 => ?_)
  refine rf_ald (i := 0) (Or.inr ⟨0, rfl, rfl, rfl⟩) c_113_10 rfl ?_
  refine rf_ild (i := 5) (Or.inl ⟨rfl, rfl⟩) c_113_11 rfl ?_
  refine rf_puti hS c_113_13 rfl fl_10_25 rfl rfl rfl rfl h_x0 ?_
  refine rf_nm (fun σ13 => ?_)
  refine rf_ald (i := 0) (Or.inr ⟨0, rfl, rfl, rfl⟩) c_113_16 rfl ?_
  refine rf_ald (i := 1) (Or.inr ⟨1, rfl, rfl, rfl⟩) c_113_17 rfl ?_
  refine rf_ild (i := 2) (Or.inr ⟨2, rfl, rfl, rfl⟩) c_113_18 rfl ?_
  refine rf_ild (i := 4) (Or.inl ⟨rfl, rfl⟩) c_113_19 rfl ?_
  refine rf_iconst c_113_21 ki_0 ?_
  refine rf_iconst c_113_22 ki_0 ?_
  refine rf_callV (as := [.ref x0, .ref x1, .int x2, .int x4, .int (0 : Int32), .int (0 : Int32)]) (kd := 1) c_113_23 rfl (by decide) rfl ml_10_28 (by decide) rfl (rcv_1 hS rfl rfl h_x0 (by decide)) (Nat.zero_le _) rfl rfl (tz_Wf_stepTo hS (by omega) x0 x1 x2 x4 (0 : Int32) (0 : Int32) σ13 h_x0 h_x1) (fun v23 => ?_)
  exact rf_vret c_113_26 rfl rfl
theorem t_Wf_seek {X : Xt} {S : Sh} (hS : ShOK S) {d : Nat} (hd : 17 ≤ d) (x0 : Nat) (x1 : Nat) (x2 : Int32) (x3 : Int32) (x4 : Int32) (x5 : Int32) (σ : Mm) (h_x0 : tgT x0 = 10) (h_x1 : tgT x1 = 8) : Rf X S emV (f_Wf_seek x0 x1 x2 x3 x4 x5 σ) d 113 0 [.ref x0, .ref x1, .int x2, .int x3, .int x4, .int x5] [] σ := by
  obtain ⟨d1, rfl⟩ : ∃ d1, d = d1 + 1 := ⟨d - 1, by omega⟩
  exact t_Wf_seek_e hS hd x0 x1 x2 x3 x4 x5 σ h_x0 h_x1
theorem c_114_0 : cd 114 0 = some (.aload_n 0, 1) := by decide +kernel
theorem c_114_1 : cd 114 1 = some (.getfield 18, 3) := by decide +kernel
theorem c_114_4 : cd 114 4 = some (.ifCond .ne (6), 3) := by decide +kernel
theorem c_114_7 : cd 114 7 = some (.ldc 32, 2) := by decide +kernel
theorem c_114_9 : cd 114 9 = some (.ireturn, 1) := by decide +kernel
theorem c_114_10 : cd 114 10 = some (.iload_n 1, 1) := by decide +kernel
theorem c_114_11 : cd 114 11 = some (.ifCond .ne (8), 3) := by decide +kernel
theorem c_114_14 : cd 114 14 = some (.aload_n 0, 1) := by decide +kernel
theorem c_114_15 : cd 114 15 = some (.getfield 33, 3) := by decide +kernel
theorem c_114_18 : cd 114 18 = some (.ireturn, 1) := by decide +kernel
theorem c_114_19 : cd 114 19 = some (.iload_n 1, 1) := by decide +kernel
theorem c_114_20 : cd 114 20 = some (.iconst (1), 1) := by decide +kernel
theorem c_114_21 : cd 114 21 = some (.if_icmp .ne (8), 3) := by decide +kernel
theorem c_114_24 : cd 114 24 = some (.aload_n 0, 1) := by decide +kernel
theorem c_114_25 : cd 114 25 = some (.getfield 18, 3) := by decide +kernel
theorem c_114_28 : cd 114 28 = some (.ireturn, 1) := by decide +kernel
theorem c_114_29 : cd 114 29 = some (.iload_n 1, 1) := by decide +kernel
theorem c_114_30 : cd 114 30 = some (.iconst (2), 1) := by decide +kernel
theorem c_114_31 : cd 114 31 = some (.isub, 1) := by decide +kernel
theorem c_114_32 : cd 114 32 = some (.aload_n 0, 1) := by decide +kernel
theorem c_114_33 : cd 114 33 = some (.getfield 18, 3) := by decide +kernel
theorem c_114_36 : cd 114 36 = some (.if_icmp .ge (14), 3) := by decide +kernel
theorem c_114_39 : cd 114 39 = some (.aload_n 0, 1) := by decide +kernel
theorem c_114_40 : cd 114 40 = some (.getfield 15, 3) := by decide +kernel
theorem c_114_43 : cd 114 43 = some (.iload_n 1, 1) := by decide +kernel
theorem c_114_44 : cd 114 44 = some (.iconst (2), 1) := by decide +kernel
theorem c_114_45 : cd 114 45 = some (.isub, 1) := by decide +kernel
theorem c_114_46 : cd 114 46 = some (.iaload, 1) := by decide +kernel
theorem c_114_47 : cd 114 47 = some (.goto (5), 3) := by decide +kernel
theorem c_114_50 : cd 114 50 = some (.ldc 32, 2) := by decide +kernel
theorem c_114_52 : cd 114 52 = some (.ireturn, 1) := by decide +kernel
def f_Wf_answer_52 (σ : Mm) (y0 : Int32) : Option Int32 := some y0
set_option maxRecDepth 100000 in
set_option maxHeartbeats 4000000 in
theorem t_Wf_answer_52 {X : Xt} {S : Sh} (hS : ShOK S) {d : Nat} (hd : 0 ≤ d) (σ : Mm) (y0 : Int32) (u0 : Value) (u1 : Value) : Rf X S (emI σ) (f_Wf_answer_52 σ y0) d 114 52 [u0, u1] [.int y0] σ := by
  unfold f_Wf_answer_52
  exact rf_ret c_114_52 rfl rfl rfl rfl
def f_Wf_answer (σ : Mm) (x0 : Nat) (x1 : Int32) : Option Int32 := (if ¬ (σ x0 2) = 0 then (if ¬ x1 = 0 then (if ¬ x1 = (1 : Int32) then (if (σ x0 2) ≤ (x1 - (2 : Int32)) then (f_Wf_answer_52 σ (-1000000005 : Int32)) else (if inbB (x1 - (2 : Int32)) 6 = true then f_Wf_answer_52 σ (σ (rfT x0 1) (ix (x1 - (2 : Int32)))) else none)) else (some (σ x0 2))) else (some (σ x0 3))) else (some (-1000000005 : Int32)))
set_option maxRecDepth 100000 in
set_option maxHeartbeats 4000000 in
theorem t_Wf_answer {X : Xt} {S : Sh} (hS : ShOK S) {d : Nat} (hd : 0 ≤ d) (σ : Mm) (x0 : Nat) (x1 : Int32) (h_x0 : tgT x0 = 10) : Rf X S (emI σ) (f_Wf_answer σ x0 x1) d 114 0 [.ref x0, .int x1] [] σ := by
  unfold f_Wf_answer
  refine rf_ald (i := 0) (Or.inr ⟨0, rfl, rfl, rfl⟩) c_114_0 rfl ?_
  refine rf_geti hS c_114_1 rfl fl_10_18 rfl h_x0 ?_
  refine rf_ite (fun hc4 => ?_) (fun hc4 => ?_)
  · refine rf_b1t c_114_4 rfl (decide_eq_true hc4) ?_
    refine rf_ild (i := 1) (Or.inr ⟨1, rfl, rfl, rfl⟩) c_114_10 rfl ?_
    refine rf_ite (fun hc11 => ?_) (fun hc11 => ?_)
    · refine rf_b1t c_114_11 rfl (decide_eq_true hc11) ?_
      refine rf_ild (i := 1) (Or.inr ⟨1, rfl, rfl, rfl⟩) c_114_19 rfl ?_
      refine rf_iconst c_114_20 ki_1 ?_
      refine rf_ite (fun hc21 => ?_) (fun hc21 => ?_)
      · refine rf_b2t c_114_21 rfl (decide_eq_true hc21) ?_
        refine rf_ild (i := 1) (Or.inr ⟨1, rfl, rfl, rfl⟩) c_114_29 rfl ?_
        refine rf_iconst c_114_30 ki_2 ?_
        refine rf_isub c_114_31 ?_
        refine rf_ald (i := 0) (Or.inr ⟨0, rfl, rfl, rfl⟩) c_114_32 rfl ?_
        refine rf_geti hS c_114_33 rfl fl_10_18 rfl h_x0 ?_
        refine rf_ite (fun hc36 => ?_) (fun hc36 => ?_)
        · refine rf_b2t c_114_36 rfl (decide_eq_true hc36) ?_
          refine rf_ldc (Or.inl ⟨rfl, rfl⟩) c_114_50 rfl kl_10_32 ?_
          exact t_Wf_answer_52 hS hd σ  (-1000000005 : Int32) (.ref x0) (.int x1)
        · refine rf_b2f c_114_36 rfl (decide_eq_false hc36) ?_
          refine rf_ald (i := 0) (Or.inr ⟨0, rfl, rfl, rfl⟩) c_114_39 rfl ?_
          refine rf_getr hS c_114_40 rfl fl_10_15 rfl h_x0 ?_
          refine rf_ild (i := 1) (Or.inr ⟨1, rfl, rfl, rfl⟩) c_114_43 rfl ?_
          refine rf_iconst c_114_44 ki_2 ?_
          refine rf_isub c_114_45 ?_
          refine rf_ite (fun hb46 => ?_) (fun _ => rf_none)
          refine rf_iald hS c_114_46 (tf_10_1 h_x0) (lf_10_1 h_x0) hb46 ?_
          refine rf_goto c_114_47 rfl ?_
          exact t_Wf_answer_52 hS hd σ  (σ (rfT x0 1) (ix (x1 - (2 : Int32)))) (.ref x0) (.int x1)
      · refine rf_b2f c_114_21 rfl (decide_eq_false hc21) ?_
        refine rf_ald (i := 0) (Or.inr ⟨0, rfl, rfl, rfl⟩) c_114_24 rfl ?_
        refine rf_geti hS c_114_25 rfl fl_10_18 rfl h_x0 ?_
        exact rf_ret c_114_28 rfl rfl rfl rfl
    · refine rf_b1f c_114_11 rfl (decide_eq_false hc11) ?_
      refine rf_ald (i := 0) (Or.inr ⟨0, rfl, rfl, rfl⟩) c_114_14 rfl ?_
      refine rf_geti hS c_114_15 rfl fl_10_33 rfl h_x0 ?_
      exact rf_ret c_114_18 rfl rfl rfl rfl
  · refine rf_b1f c_114_4 rfl (decide_eq_false hc4) ?_
    refine rf_ldc (Or.inl ⟨rfl, rfl⟩) c_114_7 rfl kl_10_32 ?_
    exact rf_ret c_114_9 rfl rfl rfl rfl
theorem c_118_0 : cd 118 0 = some (.aload_n 0, 1) := by decide +kernel
theorem c_118_1 : cd 118 1 = some (.getfield 10, 3) := by decide +kernel
theorem c_118_4 : cd 118 4 = some (.getfield 54, 3) := by decide +kernel
theorem c_118_7 : cd 118 7 = some (.invokevirtual 58, 3) := by decide +kernel
theorem c_118_10 : cd 118 10 = some (.ireturn, 1) := by decide +kernel
def f_Ct_office (x0 : Nat) (σ : Mm) : Option (Int32 × Mm) := (f_Ho_addOffice (rfT (rfT x0 0) 0) σ).bind fun v7 => some (v7.1, v7.2)
set_option maxRecDepth 100000 in
set_option maxHeartbeats 4000000 in
theorem t_Ct_office_e {X : Xt} {S : Sh} (hS : ShOK S) {d : Nat} (hd : 1 ≤ d + 1) (x0 : Nat) (σ : Mm) (h_x0 : tgT x0 = 11) : Rf X S emM (f_Ct_office x0 σ) (d + 1) 118 0 [.ref x0] [] σ := by
  unfold f_Ct_office
  refine rf_ald (i := 0) (Or.inr ⟨0, rfl, rfl, rfl⟩) c_118_0 rfl ?_
  refine rf_getr hS c_118_1 rfl fl_11_10 rfl h_x0 ?_
  refine rf_getr hS c_118_4 rfl fl_11_54 rfl (tf_11_0 h_x0) ?_
  refine rf_callM (as := [.ref (rfT (rfT x0 0) 0)]) (kd := 1) c_118_7 rfl (by decide) rfl ml_11_58 (by decide) rfl (rcv_1 hS rfl rfl (tf_7_0 (tf_11_0 h_x0)) (by decide)) (Nat.zero_le _) rfl rfl (t_Ho_addOffice hS (by omega) (rfT (rfT x0 0) 0) σ (tf_7_0 (tf_11_0 h_x0))) (fun v7 => ?_)
  exact rf_ret c_118_10 rfl rfl rfl rfl
theorem t_Ct_office {X : Xt} {S : Sh} (hS : ShOK S) {d : Nat} (hd : 1 ≤ d) (x0 : Nat) (σ : Mm) (h_x0 : tgT x0 = 11) : Rf X S emM (f_Ct_office x0 σ) d 118 0 [.ref x0] [] σ := by
  obtain ⟨d1, rfl⟩ : ∃ d1, d = d1 + 1 := ⟨d - 1, by omega⟩
  exact t_Ct_office_e hS hd x0 σ h_x0
theorem c_176_0 : cd 176 0 = some (.iload_n 0, 1) := by decide +kernel
theorem c_176_1 : cd 176 1 = some (.ldc 248, 2) := by decide +kernel
theorem c_176_3 : cd 176 3 = some (.if_icmp .eq (12), 3) := by decide +kernel
theorem c_176_6 : cd 176 6 = some (.iload_n 0, 1) := by decide +kernel
theorem c_176_7 : cd 176 7 = some (.iconst (0), 1) := by decide +kernel
theorem c_176_8 : cd 176 8 = some (.iload_n 1, 1) := by decide +kernel
theorem c_176_9 : cd 176 9 = some (.invokestatic 92, 3) := by decide +kernel
theorem c_176_12 : cd 176 12 = some (.ifCond .eq (7), 3) := by decide +kernel
theorem c_176_15 : cd 176 15 = some (.iconst (1), 1) := by decide +kernel
theorem c_176_16 : cd 176 16 = some (.goto (4), 3) := by decide +kernel
theorem c_176_19 : cd 176 19 = some (.iconst (0), 1) := by decide +kernel
theorem c_176_20 : cd 176 20 = some (.ireturn, 1) := by decide +kernel
def f_Ct_isNoneOrWithin_20 (σ : Mm) (y0 : Int32) : Option Int32 := if zB y0 = true then some y0 else none
set_option maxRecDepth 100000 in
set_option maxHeartbeats 4000000 in
theorem t_Ct_isNoneOrWithin_20 {X : Xt} {S : Sh} (hS : ShOK S) {d : Nat} (hd : 1 ≤ d + 1) (σ : Mm) (y0 : Int32) (u0 : Value) (u1 : Value) : Rf X S (emI σ) (f_Ct_isNoneOrWithin_20 σ y0) (d + 1) 176 20 [u0, u1] [.int y0] σ := by
  unfold f_Ct_isNoneOrWithin_20
  refine rf_ite (fun hq20 => ?_) (fun _ => rf_none)
  exact rf_ret c_176_20 rfl (zB_n hq20) rfl rfl
def f_Ct_isNoneOrWithin_15 (σ : Mm) : Option Int32 := f_Ct_isNoneOrWithin_20 σ (1 : Int32)
set_option maxRecDepth 100000 in
set_option maxHeartbeats 4000000 in
theorem t_Ct_isNoneOrWithin_15 {X : Xt} {S : Sh} (hS : ShOK S) {d : Nat} (hd : 1 ≤ d + 1) (σ : Mm) (u0 : Value) (u1 : Value) : Rf X S (emI σ) (f_Ct_isNoneOrWithin_15 σ) (d + 1) 176 15 [u0, u1] [] σ := by
  unfold f_Ct_isNoneOrWithin_15
  refine rf_iconst c_176_15 ki_1 ?_
  refine rf_goto c_176_16 rfl ?_
  exact t_Ct_isNoneOrWithin_20 hS hd σ  (1 : Int32) (u0) (u1)
def f_Ct_isNoneOrWithin (σ : Mm) (x0 : Int32) (x1 : Int32) : Option Int32 := (if x0 = (-1000000005 : Int32) then (f_Ct_isNoneOrWithin_15 σ ) else ((f_Ct_isWithin σ x0 (0 : Int32) x1).bind fun v9 => (if v9 = 0 then (f_Ct_isNoneOrWithin_20 σ (0 : Int32)) else (f_Ct_isNoneOrWithin_15 σ ))))
set_option maxRecDepth 100000 in
set_option maxHeartbeats 4000000 in
theorem t_Ct_isNoneOrWithin_e {X : Xt} {S : Sh} (hS : ShOK S) {d : Nat} (hd : 1 ≤ d + 1) (σ : Mm) (x0 : Int32) (x1 : Int32) : Rf X S (emI σ) (f_Ct_isNoneOrWithin σ x0 x1) (d + 1) 176 0 [.int x0, .int x1] [] σ := by
  unfold f_Ct_isNoneOrWithin
  refine rf_ild (i := 0) (Or.inr ⟨0, rfl, rfl, rfl⟩) c_176_0 rfl ?_
  refine rf_ldc (Or.inl ⟨rfl, rfl⟩) c_176_1 rfl kl_11_248 ?_
  refine rf_ite (fun hc3 => ?_) (fun hc3 => ?_)
  · refine rf_b2t c_176_3 rfl (decide_eq_true hc3) ?_
    exact t_Ct_isNoneOrWithin_15 hS hd σ  (.int x0) (.int x1)
  · refine rf_b2f c_176_3 rfl (decide_eq_false hc3) ?_
    refine rf_ild (i := 0) (Or.inr ⟨0, rfl, rfl, rfl⟩) c_176_6 rfl ?_
    refine rf_iconst c_176_7 ki_0 ?_
    refine rf_ild (i := 1) (Or.inr ⟨1, rfl, rfl, rfl⟩) c_176_8 rfl ?_
    refine rf_callI (as := [.int x0, .int (0 : Int32), .int x1]) (kd := 0) c_176_9 rfl (by decide) rfl ml_11_92 (by decide) rfl (rcv_0 rfl) (Nat.zero_le _) rfl rfl (t_Ct_isWithin hS (by omega) σ x0 (0 : Int32) x1) (fun v9 => ?_)
    refine rf_ite (fun hc12 => ?_) (fun hc12 => ?_)
    · refine rf_b1t c_176_12 rfl (decide_eq_true hc12) ?_
      refine rf_iconst c_176_19 ki_0 ?_
      exact t_Ct_isNoneOrWithin_20 hS hd σ  (0 : Int32) (.int x0) (.int x1)
    · refine rf_b1f c_176_12 rfl (decide_eq_false hc12) ?_
      exact t_Ct_isNoneOrWithin_15 hS hd σ  (.int x0) (.int x1)
theorem t_Ct_isNoneOrWithin {X : Xt} {S : Sh} (hS : ShOK S) {d : Nat} (hd : 1 ≤ d) (σ : Mm) (x0 : Int32) (x1 : Int32) : Rf X S (emI σ) (f_Ct_isNoneOrWithin σ x0 x1) d 176 0 [.int x0, .int x1] [] σ := by
  obtain ⟨d1, rfl⟩ : ∃ d1, d = d1 + 1 := ⟨d - 1, by omega⟩
  exact t_Ct_isNoneOrWithin_e hS hd σ x0 x1
