/-! methods: Mo_copyRow Mo_isOffice Mo_isTable Mo_isPaper Mo_isRule Mo_isDecision Mo_isDay Mo_isThing Mo_isSetOf Mo_office Mo_heldOn Mo_hold Mo_held Mo_govern Mo_table Mo_seats Mo_sitsOn Mo_sits Mo_pass Mo_judgeWay Mo_isOnWay Mo_findWay Mo_way Mo_isUnder Mo_reach Mo_shuts Mo_weighs Mo_paperOf Mo_set Mo_paper -/
theorem c_193_0 : cd 193 0 = some (.iconst (0), 1) := by decide +kernel
theorem c_193_1 : cd 193 1 = some (.istore_n 3, 1) := by decide +kernel
theorem c_193_2 : cd 193 2 = some (.iload_n 3, 1) := by decide +kernel
theorem c_193_3 : cd 193 3 = some (.sipush (5528), 3) := by decide +kernel
theorem c_193_6 : cd 193 6 = some (.if_icmp .ge (15), 3) := by decide +kernel
theorem c_193_9 : cd 193 9 = some (.aload_n 2, 1) := by decide +kernel
theorem c_193_10 : cd 193 10 = some (.iload_n 3, 1) := by decide +kernel
theorem c_193_11 : cd 193 11 = some (.aload_n 1, 1) := by decide +kernel
theorem c_193_12 : cd 193 12 = some (.iload_n 3, 1) := by decide +kernel
theorem c_193_13 : cd 193 13 = some (.iaload, 1) := by decide +kernel
theorem c_193_14 : cd 193 14 = some (.iastore, 1) := by decide +kernel
theorem c_193_15 : cd 193 15 = some (.iinc 3 (1), 3) := by decide +kernel
theorem c_193_18 : cd 193 18 = some (.goto (-16), 3) := by decide +kernel
theorem c_193_21 : cd 193 21 = some (.return_, 1) := by decide +kernel
def f_Mo_copyRow_2 : Nat → Nat → Nat → Int32 → Mm → Option Mm
  | 0, _, _, _, _ => none
  | n + 1, x1, x2, x3, σ => (if (5528 : Int32) ≤ x3 then (some σ) else (if inbB x3 5528 = true then if inbB x3 5528 = true then nmM (up2 σ x2 (ix x3) (σ x1 (ix x3))) fun σ14 => f_Mo_copyRow_2  n x1 x2 (x3 + (1 : Int32)) σ14 else none else none))
set_option maxRecDepth 100000 in
set_option maxHeartbeats 4000000 in
theorem t_Mo_copyRow_2 {X : Xt} {S : Sh} (hS : ShOK S) {d : Nat} (hd : 0 ≤ d) : ∀ (n : Nat) (x1 : Nat) (x2 : Nat) (x3 : Int32) (u0 : Value) (σ : Mm) (h_x1 : tgT x1 = 20) (l_x1 : lnT x1 = 5528) (h_x2 : tgT x2 = 20) (l_x2 : lnT x2 = 5528), Rf X S emV (f_Mo_copyRow_2 n x1 x2 x3 σ) d 193 2 [u0, .ref x1, .ref x2, .int x3] [] σ := by
  intro n
  induction n with
  | zero => intro x1 x2 x3 u0 σ h_x1 l_x1 h_x2 l_x2; exact rf_none
  | succ n ih =>
    intro x1 x2 x3 u0 σ h_x1 l_x1 h_x2 l_x2
    rw [f_Mo_copyRow_2]
    refine rf_ild (i := 3) (Or.inr ⟨3, rfl, rfl, rfl⟩) c_193_2 rfl ?_
    refine rf_sipush c_193_3 ks_5528 ?_
    refine rf_ite (fun hc6 => ?_) (fun hc6 => ?_)
    · refine rf_b2t c_193_6 rfl (decide_eq_true hc6) ?_
      exact rf_vret c_193_21 rfl rfl
    · refine rf_b2f c_193_6 rfl (decide_eq_false hc6) ?_
      refine rf_ald (i := 2) (Or.inr ⟨2, rfl, rfl, rfl⟩) c_193_9 rfl ?_
      refine rf_ild (i := 3) (Or.inr ⟨3, rfl, rfl, rfl⟩) c_193_10 rfl ?_
      refine rf_ald (i := 1) (Or.inr ⟨1, rfl, rfl, rfl⟩) c_193_11 rfl ?_
      refine rf_ild (i := 3) (Or.inr ⟨3, rfl, rfl, rfl⟩) c_193_12 rfl ?_
      refine rf_ite (fun hb13 => ?_) (fun _ => rf_none)
      refine rf_iald hS c_193_13 h_x1 l_x1 hb13 ?_
      refine rf_ite (fun hb14 => ?_) (fun _ => rf_none)
      refine rf_iast hS c_193_14 h_x2 l_x2 hb14 ?_
      refine rf_nm (fun σ14 => ?_)
      refine rf_iinc c_193_15 rfl ki_1 rfl ?_
      refine rf_goto c_193_18 rfl ?_
      exact ih x1 x2 (x3 + (1 : Int32)) (u0) σ14 h_x1 l_x1 h_x2 l_x2
def f_Mo_copyRow (x0 : Nat) (x1 : Nat) (x2 : Nat) (σ : Mm) : Option Mm := f_Mo_copyRow_2  NN x1 x2 (0 : Int32) σ
set_option maxRecDepth 100000 in
set_option maxHeartbeats 4000000 in
theorem t_Mo_copyRow {X : Xt} {S : Sh} (hS : ShOK S) {d : Nat} (hd : 0 ≤ d) (x0 : Nat) (x1 : Nat) (x2 : Nat) (σ : Mm) (h_x0 : tgT x0 = 12) (h_x1 : tgT x1 = 20) (l_x1 : lnT x1 = 5528) (h_x2 : tgT x2 = 20) (l_x2 : lnT x2 = 5528) : Rf X S emV (f_Mo_copyRow x0 x1 x2 σ) d 193 0 [.ref x0, .ref x1, .ref x2, unset0] [] σ := by
  unfold f_Mo_copyRow
  refine rf_iconst c_193_0 ki_0 ?_
  refine rf_ist (i := 3) (Or.inr ⟨3, rfl, rfl, rfl⟩) c_193_1 (Nat.le_of_ble_eq_true rfl) rfl ?_
  exact t_Mo_copyRow_2 hS hd  NN x1 x2 (0 : Int32) (.ref x0) σ h_x1 l_x1 h_x2 l_x2
theorem c_194_0 : cd 194 0 = some (.iload_n 1, 1) := by decide +kernel
theorem c_194_1 : cd 194 1 = some (.iconst (0), 1) := by decide +kernel
theorem c_194_2 : cd 194 2 = some (.aload_n 0, 1) := by decide +kernel
theorem c_194_3 : cd 194 3 = some (.getfield 9, 3) := by decide +kernel
theorem c_194_6 : cd 194 6 = some (.iconst (2), 1) := by decide +kernel
theorem c_194_7 : cd 194 7 = some (.iaload, 1) := by decide +kernel
theorem c_194_8 : cd 194 8 = some (.iconst (1), 1) := by decide +kernel
theorem c_194_9 : cd 194 9 = some (.isub, 1) := by decide +kernel
theorem c_194_10 : cd 194 10 = some (.invokestatic 82, 3) := by decide +kernel
theorem c_194_13 : cd 194 13 = some (.ireturn, 1) := by decide +kernel
def f_Mo_isOffice (σ : Mm) (x0 : Nat) (x1 : Int32) : Option Int32 := (f_Mo_in σ x1 (0 : Int32) ((σ (rfT x0 0) (ix (2 : Int32))) - (1 : Int32))).bind fun v10 => if zB v10 = true then some v10 else none
set_option maxRecDepth 100000 in
set_option maxHeartbeats 4000000 in
theorem t_Mo_isOffice_e {X : Xt} {S : Sh} (hS : ShOK S) {d : Nat} (hd : 1 ≤ d + 1) (σ : Mm) (x0 : Nat) (x1 : Int32) (h_x0 : tgT x0 = 12) : Rf X S (emI σ) (f_Mo_isOffice σ x0 x1) (d + 1) 194 0 [.ref x0, .int x1] [] σ := by
  unfold f_Mo_isOffice
  refine rf_ild (i := 1) (Or.inr ⟨1, rfl, rfl, rfl⟩) c_194_0 rfl ?_
  refine rf_iconst c_194_1 ki_0 ?_
  refine rf_ald (i := 0) (Or.inr ⟨0, rfl, rfl, rfl⟩) c_194_2 rfl ?_
  refine rf_getr hS c_194_3 rfl fl_12_9 rfl h_x0 ?_
  refine rf_iconst c_194_6 ki_2 ?_
  refine rf_iald hS c_194_7 (tf_12_0 h_x0) (lf_12_0 h_x0) (by decide) ?_
  refine rf_iconst c_194_8 ki_1 ?_
  refine rf_isub c_194_9 ?_
  refine rf_callI (as := [.int x1, .int (0 : Int32), .int ((σ (rfT x0 0) (ix (2 : Int32))) - (1 : Int32))]) (kd := 0) c_194_10 rfl (by decide) rfl ml_12_82 (by decide) rfl (rcv_0 rfl) (Nat.zero_le _) rfl rfl (t_Mo_in hS (by omega) σ x1 (0 : Int32) ((σ (rfT x0 0) (ix (2 : Int32))) - (1 : Int32))) (fun v10 => ?_)
  refine rf_ite (fun hq13 => ?_) (fun _ => rf_none)
  exact rf_ret c_194_13 rfl (zB_n hq13) rfl rfl
theorem t_Mo_isOffice {X : Xt} {S : Sh} (hS : ShOK S) {d : Nat} (hd : 1 ≤ d) (σ : Mm) (x0 : Nat) (x1 : Int32) (h_x0 : tgT x0 = 12) : Rf X S (emI σ) (f_Mo_isOffice σ x0 x1) d 194 0 [.ref x0, .int x1] [] σ := by
  obtain ⟨d1, rfl⟩ : ∃ d1, d = d1 + 1 := ⟨d - 1, by omega⟩
  exact t_Mo_isOffice_e hS hd σ x0 x1 h_x0
theorem c_195_0 : cd 195 0 = some (.iload_n 1, 1) := by decide +kernel
theorem c_195_1 : cd 195 1 = some (.iconst (0), 1) := by decide +kernel
theorem c_195_2 : cd 195 2 = some (.aload_n 0, 1) := by decide +kernel
theorem c_195_3 : cd 195 3 = some (.getfield 9, 3) := by decide +kernel
theorem c_195_6 : cd 195 6 = some (.iconst (3), 1) := by decide +kernel
theorem c_195_7 : cd 195 7 = some (.iaload, 1) := by decide +kernel
theorem c_195_8 : cd 195 8 = some (.iconst (1), 1) := by decide +kernel
theorem c_195_9 : cd 195 9 = some (.isub, 1) := by decide +kernel
theorem c_195_10 : cd 195 10 = some (.invokestatic 82, 3) := by decide +kernel
theorem c_195_13 : cd 195 13 = some (.ireturn, 1) := by decide +kernel
def f_Mo_isTable (σ : Mm) (x0 : Nat) (x1 : Int32) : Option Int32 := (f_Mo_in σ x1 (0 : Int32) ((σ (rfT x0 0) (ix (3 : Int32))) - (1 : Int32))).bind fun v10 => if zB v10 = true then some v10 else none
set_option maxRecDepth 100000 in
set_option maxHeartbeats 4000000 in
theorem t_Mo_isTable_e {X : Xt} {S : Sh} (hS : ShOK S) {d : Nat} (hd : 1 ≤ d + 1) (σ : Mm) (x0 : Nat) (x1 : Int32) (h_x0 : tgT x0 = 12) : Rf X S (emI σ) (f_Mo_isTable σ x0 x1) (d + 1) 195 0 [.ref x0, .int x1] [] σ := by
  unfold f_Mo_isTable
  refine rf_ild (i := 1) (Or.inr ⟨1, rfl, rfl, rfl⟩) c_195_0 rfl ?_
  refine rf_iconst c_195_1 ki_0 ?_
  refine rf_ald (i := 0) (Or.inr ⟨0, rfl, rfl, rfl⟩) c_195_2 rfl ?_
  refine rf_getr hS c_195_3 rfl fl_12_9 rfl h_x0 ?_
  refine rf_iconst c_195_6 ki_3 ?_
  refine rf_iald hS c_195_7 (tf_12_0 h_x0) (lf_12_0 h_x0) (by decide) ?_
  refine rf_iconst c_195_8 ki_1 ?_
  refine rf_isub c_195_9 ?_
  refine rf_callI (as := [.int x1, .int (0 : Int32), .int ((σ (rfT x0 0) (ix (3 : Int32))) - (1 : Int32))]) (kd := 0) c_195_10 rfl (by decide) rfl ml_12_82 (by decide) rfl (rcv_0 rfl) (Nat.zero_le _) rfl rfl (t_Mo_in hS (by omega) σ x1 (0 : Int32) ((σ (rfT x0 0) (ix (3 : Int32))) - (1 : Int32))) (fun v10 => ?_)
  refine rf_ite (fun hq13 => ?_) (fun _ => rf_none)
  exact rf_ret c_195_13 rfl (zB_n hq13) rfl rfl
theorem t_Mo_isTable {X : Xt} {S : Sh} (hS : ShOK S) {d : Nat} (hd : 1 ≤ d) (σ : Mm) (x0 : Nat) (x1 : Int32) (h_x0 : tgT x0 = 12) : Rf X S (emI σ) (f_Mo_isTable σ x0 x1) d 195 0 [.ref x0, .int x1] [] σ := by
  obtain ⟨d1, rfl⟩ : ∃ d1, d = d1 + 1 := ⟨d - 1, by omega⟩
  exact t_Mo_isTable_e hS hd σ x0 x1 h_x0
theorem c_196_0 : cd 196 0 = some (.iload_n 1, 1) := by decide +kernel
theorem c_196_1 : cd 196 1 = some (.iconst (0), 1) := by decide +kernel
theorem c_196_2 : cd 196 2 = some (.aload_n 0, 1) := by decide +kernel
theorem c_196_3 : cd 196 3 = some (.getfield 9, 3) := by decide +kernel
theorem c_196_6 : cd 196 6 = some (.iconst (4), 1) := by decide +kernel
theorem c_196_7 : cd 196 7 = some (.iaload, 1) := by decide +kernel
theorem c_196_8 : cd 196 8 = some (.iconst (1), 1) := by decide +kernel
theorem c_196_9 : cd 196 9 = some (.isub, 1) := by decide +kernel
theorem c_196_10 : cd 196 10 = some (.invokestatic 82, 3) := by decide +kernel
theorem c_196_13 : cd 196 13 = some (.ireturn, 1) := by decide +kernel
def f_Mo_isPaper (σ : Mm) (x0 : Nat) (x1 : Int32) : Option Int32 := (f_Mo_in σ x1 (0 : Int32) ((σ (rfT x0 0) (ix (4 : Int32))) - (1 : Int32))).bind fun v10 => if zB v10 = true then some v10 else none
set_option maxRecDepth 100000 in
set_option maxHeartbeats 4000000 in
theorem t_Mo_isPaper_e {X : Xt} {S : Sh} (hS : ShOK S) {d : Nat} (hd : 1 ≤ d + 1) (σ : Mm) (x0 : Nat) (x1 : Int32) (h_x0 : tgT x0 = 12) : Rf X S (emI σ) (f_Mo_isPaper σ x0 x1) (d + 1) 196 0 [.ref x0, .int x1] [] σ := by
  unfold f_Mo_isPaper
  refine rf_ild (i := 1) (Or.inr ⟨1, rfl, rfl, rfl⟩) c_196_0 rfl ?_
  refine rf_iconst c_196_1 ki_0 ?_
  refine rf_ald (i := 0) (Or.inr ⟨0, rfl, rfl, rfl⟩) c_196_2 rfl ?_
  refine rf_getr hS c_196_3 rfl fl_12_9 rfl h_x0 ?_
  refine rf_iconst c_196_6 ki_4 ?_
  refine rf_iald hS c_196_7 (tf_12_0 h_x0) (lf_12_0 h_x0) (by decide) ?_
  refine rf_iconst c_196_8 ki_1 ?_
  refine rf_isub c_196_9 ?_
  refine rf_callI (as := [.int x1, .int (0 : Int32), .int ((σ (rfT x0 0) (ix (4 : Int32))) - (1 : Int32))]) (kd := 0) c_196_10 rfl (by decide) rfl ml_12_82 (by decide) rfl (rcv_0 rfl) (Nat.zero_le _) rfl rfl (t_Mo_in hS (by omega) σ x1 (0 : Int32) ((σ (rfT x0 0) (ix (4 : Int32))) - (1 : Int32))) (fun v10 => ?_)
  refine rf_ite (fun hq13 => ?_) (fun _ => rf_none)
  exact rf_ret c_196_13 rfl (zB_n hq13) rfl rfl
theorem t_Mo_isPaper {X : Xt} {S : Sh} (hS : ShOK S) {d : Nat} (hd : 1 ≤ d) (σ : Mm) (x0 : Nat) (x1 : Int32) (h_x0 : tgT x0 = 12) : Rf X S (emI σ) (f_Mo_isPaper σ x0 x1) d 196 0 [.ref x0, .int x1] [] σ := by
  obtain ⟨d1, rfl⟩ : ∃ d1, d = d1 + 1 := ⟨d - 1, by omega⟩
  exact t_Mo_isPaper_e hS hd σ x0 x1 h_x0
theorem c_197_0 : cd 197 0 = some (.iload_n 1, 1) := by decide +kernel
theorem c_197_1 : cd 197 1 = some (.iconst (0), 1) := by decide +kernel
theorem c_197_2 : cd 197 2 = some (.aload_n 0, 1) := by decide +kernel
theorem c_197_3 : cd 197 3 = some (.getfield 9, 3) := by decide +kernel
theorem c_197_6 : cd 197 6 = some (.iconst (5), 1) := by decide +kernel
theorem c_197_7 : cd 197 7 = some (.iaload, 1) := by decide +kernel
theorem c_197_8 : cd 197 8 = some (.iconst (1), 1) := by decide +kernel
theorem c_197_9 : cd 197 9 = some (.isub, 1) := by decide +kernel
theorem c_197_10 : cd 197 10 = some (.invokestatic 82, 3) := by decide +kernel
theorem c_197_13 : cd 197 13 = some (.ireturn, 1) := by decide +kernel
def f_Mo_isRule (σ : Mm) (x0 : Nat) (x1 : Int32) : Option Int32 := (f_Mo_in σ x1 (0 : Int32) ((σ (rfT x0 0) (ix (5 : Int32))) - (1 : Int32))).bind fun v10 => if zB v10 = true then some v10 else none
set_option maxRecDepth 100000 in
set_option maxHeartbeats 4000000 in
theorem t_Mo_isRule_e {X : Xt} {S : Sh} (hS : ShOK S) {d : Nat} (hd : 1 ≤ d + 1) (σ : Mm) (x0 : Nat) (x1 : Int32) (h_x0 : tgT x0 = 12) : Rf X S (emI σ) (f_Mo_isRule σ x0 x1) (d + 1) 197 0 [.ref x0, .int x1] [] σ := by
  unfold f_Mo_isRule
  refine rf_ild (i := 1) (Or.inr ⟨1, rfl, rfl, rfl⟩) c_197_0 rfl ?_
  refine rf_iconst c_197_1 ki_0 ?_
  refine rf_ald (i := 0) (Or.inr ⟨0, rfl, rfl, rfl⟩) c_197_2 rfl ?_
  refine rf_getr hS c_197_3 rfl fl_12_9 rfl h_x0 ?_
  refine rf_iconst c_197_6 ki_5 ?_
  refine rf_iald hS c_197_7 (tf_12_0 h_x0) (lf_12_0 h_x0) (by decide) ?_
  refine rf_iconst c_197_8 ki_1 ?_
  refine rf_isub c_197_9 ?_
  refine rf_callI (as := [.int x1, .int (0 : Int32), .int ((σ (rfT x0 0) (ix (5 : Int32))) - (1 : Int32))]) (kd := 0) c_197_10 rfl (by decide) rfl ml_12_82 (by decide) rfl (rcv_0 rfl) (Nat.zero_le _) rfl rfl (t_Mo_in hS (by omega) σ x1 (0 : Int32) ((σ (rfT x0 0) (ix (5 : Int32))) - (1 : Int32))) (fun v10 => ?_)
  refine rf_ite (fun hq13 => ?_) (fun _ => rf_none)
  exact rf_ret c_197_13 rfl (zB_n hq13) rfl rfl
theorem t_Mo_isRule {X : Xt} {S : Sh} (hS : ShOK S) {d : Nat} (hd : 1 ≤ d) (σ : Mm) (x0 : Nat) (x1 : Int32) (h_x0 : tgT x0 = 12) : Rf X S (emI σ) (f_Mo_isRule σ x0 x1) d 197 0 [.ref x0, .int x1] [] σ := by
  obtain ⟨d1, rfl⟩ : ∃ d1, d = d1 + 1 := ⟨d - 1, by omega⟩
  exact t_Mo_isRule_e hS hd σ x0 x1 h_x0
theorem c_198_0 : cd 198 0 = some (.iload_n 1, 1) := by decide +kernel
theorem c_198_1 : cd 198 1 = some (.iconst (0), 1) := by decide +kernel
theorem c_198_2 : cd 198 2 = some (.aload_n 0, 1) := by decide +kernel
theorem c_198_3 : cd 198 3 = some (.getfield 9, 3) := by decide +kernel
theorem c_198_6 : cd 198 6 = some (.bipush (6), 2) := by decide +kernel
theorem c_198_8 : cd 198 8 = some (.iaload, 1) := by decide +kernel
theorem c_198_9 : cd 198 9 = some (.iconst (1), 1) := by decide +kernel
theorem c_198_10 : cd 198 10 = some (.isub, 1) := by decide +kernel
theorem c_198_11 : cd 198 11 = some (.invokestatic 82, 3) := by decide +kernel
theorem c_198_14 : cd 198 14 = some (.ireturn, 1) := by decide +kernel
def f_Mo_isDecision (σ : Mm) (x0 : Nat) (x1 : Int32) : Option Int32 := (f_Mo_in σ x1 (0 : Int32) ((σ (rfT x0 0) (ix (6 : Int32))) - (1 : Int32))).bind fun v11 => if zB v11 = true then some v11 else none
set_option maxRecDepth 100000 in
set_option maxHeartbeats 4000000 in
theorem t_Mo_isDecision_e {X : Xt} {S : Sh} (hS : ShOK S) {d : Nat} (hd : 1 ≤ d + 1) (σ : Mm) (x0 : Nat) (x1 : Int32) (h_x0 : tgT x0 = 12) : Rf X S (emI σ) (f_Mo_isDecision σ x0 x1) (d + 1) 198 0 [.ref x0, .int x1] [] σ := by
  unfold f_Mo_isDecision
  refine rf_ild (i := 1) (Or.inr ⟨1, rfl, rfl, rfl⟩) c_198_0 rfl ?_
  refine rf_iconst c_198_1 ki_0 ?_
  refine rf_ald (i := 0) (Or.inr ⟨0, rfl, rfl, rfl⟩) c_198_2 rfl ?_
  refine rf_getr hS c_198_3 rfl fl_12_9 rfl h_x0 ?_
  refine rf_bipush c_198_6 kb_6 ?_
  refine rf_iald hS c_198_8 (tf_12_0 h_x0) (lf_12_0 h_x0) (by decide) ?_
  refine rf_iconst c_198_9 ki_1 ?_
  refine rf_isub c_198_10 ?_
  refine rf_callI (as := [.int x1, .int (0 : Int32), .int ((σ (rfT x0 0) (ix (6 : Int32))) - (1 : Int32))]) (kd := 0) c_198_11 rfl (by decide) rfl ml_12_82 (by decide) rfl (rcv_0 rfl) (Nat.zero_le _) rfl rfl (t_Mo_in hS (by omega) σ x1 (0 : Int32) ((σ (rfT x0 0) (ix (6 : Int32))) - (1 : Int32))) (fun v11 => ?_)
  refine rf_ite (fun hq14 => ?_) (fun _ => rf_none)
  exact rf_ret c_198_14 rfl (zB_n hq14) rfl rfl
theorem t_Mo_isDecision {X : Xt} {S : Sh} (hS : ShOK S) {d : Nat} (hd : 1 ≤ d) (σ : Mm) (x0 : Nat) (x1 : Int32) (h_x0 : tgT x0 = 12) : Rf X S (emI σ) (f_Mo_isDecision σ x0 x1) d 198 0 [.ref x0, .int x1] [] σ := by
  obtain ⟨d1, rfl⟩ : ∃ d1, d = d1 + 1 := ⟨d - 1, by omega⟩
  exact t_Mo_isDecision_e hS hd σ x0 x1 h_x0
theorem c_199_0 : cd 199 0 = some (.iload_n 0, 1) := by decide +kernel
theorem c_199_1 : cd 199 1 = some (.iconst (0), 1) := by decide +kernel
theorem c_199_2 : cd 199 2 = some (.sipush (999), 3) := by decide +kernel
theorem c_199_5 : cd 199 5 = some (.invokestatic 82, 3) := by decide +kernel
theorem c_199_8 : cd 199 8 = some (.ireturn, 1) := by decide +kernel
def f_Mo_isDay (σ : Mm) (x0 : Int32) : Option Int32 := (f_Mo_in σ x0 (0 : Int32) (999 : Int32)).bind fun v5 => if zB v5 = true then some v5 else none
set_option maxRecDepth 100000 in
set_option maxHeartbeats 4000000 in
theorem t_Mo_isDay_e {X : Xt} {S : Sh} (hS : ShOK S) {d : Nat} (hd : 1 ≤ d + 1) (σ : Mm) (x0 : Int32) : Rf X S (emI σ) (f_Mo_isDay σ x0) (d + 1) 199 0 [.int x0] [] σ := by
  unfold f_Mo_isDay
  refine rf_ild (i := 0) (Or.inr ⟨0, rfl, rfl, rfl⟩) c_199_0 rfl ?_
  refine rf_iconst c_199_1 ki_0 ?_
  refine rf_sipush c_199_2 ks_999 ?_
  refine rf_callI (as := [.int x0, .int (0 : Int32), .int (999 : Int32)]) (kd := 0) c_199_5 rfl (by decide) rfl ml_12_82 (by decide) rfl (rcv_0 rfl) (Nat.zero_le _) rfl rfl (t_Mo_in hS (by omega) σ x0 (0 : Int32) (999 : Int32)) (fun v5 => ?_)
  refine rf_ite (fun hq8 => ?_) (fun _ => rf_none)
  exact rf_ret c_199_8 rfl (zB_n hq8) rfl rfl
theorem t_Mo_isDay {X : Xt} {S : Sh} (hS : ShOK S) {d : Nat} (hd : 1 ≤ d) (σ : Mm) (x0 : Int32) : Rf X S (emI σ) (f_Mo_isDay σ x0) d 199 0 [.int x0] [] σ := by
  obtain ⟨d1, rfl⟩ : ∃ d1, d = d1 + 1 := ⟨d - 1, by omega⟩
  exact t_Mo_isDay_e hS hd σ x0
theorem c_200_0 : cd 200 0 = some (.iload_n 0, 1) := by decide +kernel
theorem c_200_1 : cd 200 1 = some (.iconst (0), 1) := by decide +kernel
theorem c_200_2 : cd 200 2 = some (.bipush (9), 2) := by decide +kernel
theorem c_200_4 : cd 200 4 = some (.invokestatic 82, 3) := by decide +kernel
theorem c_200_7 : cd 200 7 = some (.ireturn, 1) := by decide +kernel
def f_Mo_isThing (σ : Mm) (x0 : Int32) : Option Int32 := (f_Mo_in σ x0 (0 : Int32) (9 : Int32)).bind fun v4 => if zB v4 = true then some v4 else none
set_option maxRecDepth 100000 in
set_option maxHeartbeats 4000000 in
theorem t_Mo_isThing_e {X : Xt} {S : Sh} (hS : ShOK S) {d : Nat} (hd : 1 ≤ d + 1) (σ : Mm) (x0 : Int32) : Rf X S (emI σ) (f_Mo_isThing σ x0) (d + 1) 200 0 [.int x0] [] σ := by
  unfold f_Mo_isThing
  refine rf_ild (i := 0) (Or.inr ⟨0, rfl, rfl, rfl⟩) c_200_0 rfl ?_
  refine rf_iconst c_200_1 ki_0 ?_
  refine rf_bipush c_200_2 kb_9 ?_
  refine rf_callI (as := [.int x0, .int (0 : Int32), .int (9 : Int32)]) (kd := 0) c_200_4 rfl (by decide) rfl ml_12_82 (by decide) rfl (rcv_0 rfl) (Nat.zero_le _) rfl rfl (t_Mo_in hS (by omega) σ x0 (0 : Int32) (9 : Int32)) (fun v4 => ?_)
  refine rf_ite (fun hq7 => ?_) (fun _ => rf_none)
  exact rf_ret c_200_7 rfl (zB_n hq7) rfl rfl
theorem t_Mo_isThing {X : Xt} {S : Sh} (hS : ShOK S) {d : Nat} (hd : 1 ≤ d) (σ : Mm) (x0 : Int32) : Rf X S (emI σ) (f_Mo_isThing σ x0) d 200 0 [.int x0] [] σ := by
  obtain ⟨d1, rfl⟩ : ∃ d1, d = d1 + 1 := ⟨d - 1, by omega⟩
  exact t_Mo_isThing_e hS hd σ x0
theorem c_201_0 : cd 201 0 = some (.iload_n 1, 1) := by decide +kernel
theorem c_201_1 : cd 201 1 = some (.ifCond .lt (13), 3) := by decide +kernel
theorem c_201_4 : cd 201 4 = some (.iload_n 1, 1) := by decide +kernel
theorem c_201_5 : cd 201 5 = some (.iload_n 2, 1) := by decide +kernel
theorem c_201_6 : cd 201 6 = some (.ishr, 1) := by decide +kernel
theorem c_201_7 : cd 201 7 = some (.ifCond .ne (7), 3) := by decide +kernel
theorem c_201_10 : cd 201 10 = some (.iconst (1), 1) := by decide +kernel
theorem c_201_11 : cd 201 11 = some (.goto (4), 3) := by decide +kernel
theorem c_201_14 : cd 201 14 = some (.iconst (0), 1) := by decide +kernel
theorem c_201_15 : cd 201 15 = some (.ireturn, 1) := by decide +kernel
def f_Mo_isSetOf_15 (σ : Mm) (y0 : Int32) : Option Int32 := if zB y0 = true then some y0 else none
set_option maxRecDepth 100000 in
set_option maxHeartbeats 4000000 in
theorem t_Mo_isSetOf_15 {X : Xt} {S : Sh} (hS : ShOK S) {d : Nat} (hd : 0 ≤ d) (σ : Mm) (y0 : Int32) (u0 : Value) (u1 : Value) (u2 : Value) : Rf X S (emI σ) (f_Mo_isSetOf_15 σ y0) d 201 15 [u0, u1, u2] [.int y0] σ := by
  unfold f_Mo_isSetOf_15
  refine rf_ite (fun hq15 => ?_) (fun _ => rf_none)
  exact rf_ret c_201_15 rfl (zB_n hq15) rfl rfl
def f_Mo_isSetOf_14 (σ : Mm) : Option Int32 := f_Mo_isSetOf_15 σ (0 : Int32)
set_option maxRecDepth 100000 in
set_option maxHeartbeats 4000000 in
theorem t_Mo_isSetOf_14 {X : Xt} {S : Sh} (hS : ShOK S) {d : Nat} (hd : 0 ≤ d) (σ : Mm) (u0 : Value) (u1 : Value) (u2 : Value) : Rf X S (emI σ) (f_Mo_isSetOf_14 σ) d 201 14 [u0, u1, u2] [] σ := by
  unfold f_Mo_isSetOf_14
  refine rf_iconst c_201_14 ki_0 ?_
  exact t_Mo_isSetOf_15 hS hd σ  (0 : Int32) (u0) (u1) (u2)
def f_Mo_isSetOf (σ : Mm) (x0 : Nat) (x1 : Int32) (x2 : Int32) : Option Int32 := (if x1 < 0 then (f_Mo_isSetOf_14 σ ) else (if ¬ (x1 >>> (x2 &&& 31)) = 0 then (f_Mo_isSetOf_14 σ ) else (f_Mo_isSetOf_15 σ (1 : Int32))))
set_option maxRecDepth 100000 in
set_option maxHeartbeats 4000000 in
theorem t_Mo_isSetOf {X : Xt} {S : Sh} (hS : ShOK S) {d : Nat} (hd : 0 ≤ d) (σ : Mm) (x0 : Nat) (x1 : Int32) (x2 : Int32) (h_x0 : tgT x0 = 12) : Rf X S (emI σ) (f_Mo_isSetOf σ x0 x1 x2) d 201 0 [.ref x0, .int x1, .int x2] [] σ := by
  unfold f_Mo_isSetOf
  refine rf_ild (i := 1) (Or.inr ⟨1, rfl, rfl, rfl⟩) c_201_0 rfl ?_
  refine rf_ite (fun hc1 => ?_) (fun hc1 => ?_)
  · refine rf_b1t c_201_1 rfl (decide_eq_true hc1) ?_
    exact t_Mo_isSetOf_14 hS hd σ  (.ref x0) (.int x1) (.int x2)
  · refine rf_b1f c_201_1 rfl (decide_eq_false hc1) ?_
    refine rf_ild (i := 1) (Or.inr ⟨1, rfl, rfl, rfl⟩) c_201_4 rfl ?_
    refine rf_ild (i := 2) (Or.inr ⟨2, rfl, rfl, rfl⟩) c_201_5 rfl ?_
    refine rf_ishr c_201_6 ?_
    refine rf_ite (fun hc7 => ?_) (fun hc7 => ?_)
    · refine rf_b1t c_201_7 rfl (decide_eq_true hc7) ?_
      exact t_Mo_isSetOf_14 hS hd σ  (.ref x0) (.int x1) (.int x2)
    · refine rf_b1f c_201_7 rfl (decide_eq_false hc7) ?_
      refine rf_iconst c_201_10 ki_1 ?_
      refine rf_goto c_201_11 rfl ?_
      exact t_Mo_isSetOf_15 hS hd σ  (1 : Int32) (.ref x0) (.int x1) (.int x2)
theorem c_202_0 : cd 202 0 = some (.aload_n 0, 1) := by decide +kernel
theorem c_202_1 : cd 202 1 = some (.getfield 9, 3) := by decide +kernel
theorem c_202_4 : cd 202 4 = some (.iconst (2), 1) := by decide +kernel
theorem c_202_5 : cd 202 5 = some (.iaload, 1) := by decide +kernel
theorem c_202_6 : cd 202 6 = some (.bipush (8), 2) := by decide +kernel
theorem c_202_8 : cd 202 8 = some (.if_icmp .ne (6), 3) := by decide +kernel
theorem c_202_11 : cd 202 11 = some (.ldc 86, 2) := by decide +kernel
theorem c_202_13 : cd 202 13 = some (.ireturn, 1) := by decide +kernel
theorem c_202_14 : cd 202 14 = some (.aload_n 0, 1) := by decide +kernel
theorem c_202_15 : cd 202 15 = some (.getfield 9, 3) := by decide +kernel
theorem c_202_18 : cd 202 18 = some (.iconst (2), 1) := by decide +kernel
theorem c_202_19 : cd 202 19 = some (.dup2, 1) := by decide +kernel
theorem c_202_20 : cd 202 20 = some (.iaload, 1) := by decide +kernel
theorem c_202_21 : cd 202 21 = some (.iconst (1), 1) := by decide +kernel
theorem c_202_22 : cd 202 22 = some (.iadd, 1) := by decide +kernel
theorem c_202_23 : cd 202 23 = some (.iastore, 1) := by decide +kernel
theorem c_202_24 : cd 202 24 = some (.aload_n 0, 1) := by decide +kernel
theorem c_202_25 : cd 202 25 = some (.getfield 9, 3) := by decide +kernel
theorem c_202_28 : cd 202 28 = some (.iconst (2), 1) := by decide +kernel
theorem c_202_29 : cd 202 29 = some (.iaload, 1) := by decide +kernel
theorem c_202_30 : cd 202 30 = some (.iconst (1), 1) := by decide +kernel
theorem c_202_31 : cd 202 31 = some (.isub, 1) := by decide +kernel
theorem c_202_32 : cd 202 32 = some (.ireturn, 1) := by decide +kernel
def f_Mo_office (x0 : Nat) (σ : Mm) : Option (Int32 × Mm) := (if ¬ (σ (rfT x0 0) (ix (2 : Int32))) = (8 : Int32) then (nmM (up2 σ (rfT x0 0) (ix (2 : Int32)) ((σ (rfT x0 0) (ix (2 : Int32))) + (1 : Int32))) fun σ23 => some (((σ23 (rfT x0 0) (ix (2 : Int32))) - (1 : Int32)), σ23)) else (some ((-1000000003 : Int32), σ)))
set_option maxRecDepth 100000 in
set_option maxHeartbeats 4000000 in
theorem t_Mo_office {X : Xt} {S : Sh} (hS : ShOK S) {d : Nat} (hd : 0 ≤ d) (x0 : Nat) (σ : Mm) (h_x0 : tgT x0 = 12) : Rf X S emM (f_Mo_office x0 σ) d 202 0 [.ref x0] [] σ := by
  unfold f_Mo_office
  refine rf_ald (i := 0) (Or.inr ⟨0, rfl, rfl, rfl⟩) c_202_0 rfl ?_
  refine rf_getr hS c_202_1 rfl fl_12_9 rfl h_x0 ?_
  refine rf_iconst c_202_4 ki_2 ?_
  refine rf_iald hS c_202_5 (tf_12_0 h_x0) (lf_12_0 h_x0) (by decide) ?_
  refine rf_bipush c_202_6 kb_8 ?_
  refine rf_ite (fun hc8 => ?_) (fun hc8 => ?_)
  · refine rf_b2t c_202_8 rfl (decide_eq_true hc8) ?_
    refine rf_ald (i := 0) (Or.inr ⟨0, rfl, rfl, rfl⟩) c_202_14 rfl ?_
    refine rf_getr hS c_202_15 rfl fl_12_9 rfl h_x0 ?_
    refine rf_iconst c_202_18 ki_2 ?_
    refine rf_dup2 c_202_19 rfl rfl ?_
    refine rf_iald hS c_202_20 (tf_12_0 h_x0) (lf_12_0 h_x0) (by decide) ?_
    refine rf_iconst c_202_21 ki_1 ?_
    refine rf_iadd c_202_22 ?_
    refine rf_iast hS c_202_23 (tf_12_0 h_x0) (lf_12_0 h_x0) (by decide) ?_
    refine rf_nm (fun σ23 => ?_)
    refine rf_ald (i := 0) (Or.inr ⟨0, rfl, rfl, rfl⟩) c_202_24 rfl ?_
    refine rf_getr hS c_202_25 rfl fl_12_9 rfl h_x0 ?_
    refine rf_iconst c_202_28 ki_2 ?_
    refine rf_iald hS c_202_29 (tf_12_0 h_x0) (lf_12_0 h_x0) (by decide) ?_
    refine rf_iconst c_202_30 ki_1 ?_
    refine rf_isub c_202_31 ?_
    exact rf_ret c_202_32 rfl rfl rfl rfl
  · refine rf_b2f c_202_8 rfl (decide_eq_false hc8) ?_
    refine rf_ldc (Or.inl ⟨rfl, rfl⟩) c_202_11 rfl kl_12_86 ?_
    exact rf_ret c_202_13 rfl rfl rfl rfl
theorem c_203_0 : cd 203 0 = some (.iconst (-1), 1) := by decide +kernel
theorem c_203_1 : cd 203 1 = some (.istore_n 3, 1) := by decide +kernel
theorem c_203_2 : cd 203 2 = some (.iconst (0), 1) := by decide +kernel
theorem c_203_3 : cd 203 3 = some (.istore 4, 2) := by decide +kernel
theorem c_203_5 : cd 203 5 = some (.iload 4, 2) := by decide +kernel
theorem c_203_7 : cd 203 7 = some (.aload_n 0, 1) := by decide +kernel
theorem c_203_8 : cd 203 8 = some (.getfield 9, 3) := by decide +kernel
theorem c_203_11 : cd 203 11 = some (.bipush (9), 2) := by decide +kernel
theorem c_203_13 : cd 203 13 = some (.iaload, 1) := by decide +kernel
theorem c_203_14 : cd 203 14 = some (.if_icmp .ge (56), 3) := by decide +kernel
theorem c_203_17 : cd 203 17 = some (.bipush (12), 2) := by decide +kernel
theorem c_203_19 : cd 203 19 = some (.iconst (3), 1) := by decide +kernel
theorem c_203_20 : cd 203 20 = some (.iload 4, 2) := by decide +kernel
theorem c_203_22 : cd 203 22 = some (.imul, 1) := by decide +kernel
theorem c_203_23 : cd 203 23 = some (.iadd, 1) := by decide +kernel
theorem c_203_24 : cd 203 24 = some (.istore 5, 2) := by decide +kernel
theorem c_203_26 : cd 203 26 = some (.aload_n 0, 1) := by decide +kernel
theorem c_203_27 : cd 203 27 = some (.getfield 9, 3) := by decide +kernel
theorem c_203_30 : cd 203 30 = some (.iload 5, 2) := by decide +kernel
theorem c_203_32 : cd 203 32 = some (.iaload, 1) := by decide +kernel
theorem c_203_33 : cd 203 33 = some (.iload_n 1, 1) := by decide +kernel
theorem c_203_34 : cd 203 34 = some (.if_icmp .ne (28), 3) := by decide +kernel
theorem c_203_37 : cd 203 37 = some (.aload_n 0, 1) := by decide +kernel
theorem c_203_38 : cd 203 38 = some (.getfield 9, 3) := by decide +kernel
theorem c_203_41 : cd 203 41 = some (.iload 5, 2) := by decide +kernel
theorem c_203_43 : cd 203 43 = some (.iconst (2), 1) := by decide +kernel
theorem c_203_44 : cd 203 44 = some (.iadd, 1) := by decide +kernel
theorem c_203_45 : cd 203 45 = some (.iaload, 1) := by decide +kernel
theorem c_203_46 : cd 203 46 = some (.iload_n 2, 1) := by decide +kernel
theorem c_203_47 : cd 203 47 = some (.if_icmp .gt (15), 3) := by decide +kernel
theorem c_203_50 : cd 203 50 = some (.aload_n 0, 1) := by decide +kernel
theorem c_203_51 : cd 203 51 = some (.getfield 9, 3) := by decide +kernel
theorem c_203_54 : cd 203 54 = some (.iload 5, 2) := by decide +kernel
theorem c_203_56 : cd 203 56 = some (.iconst (1), 1) := by decide +kernel
theorem c_203_57 : cd 203 57 = some (.iadd, 1) := by decide +kernel
theorem c_203_58 : cd 203 58 = some (.iaload, 1) := by decide +kernel
theorem c_203_59 : cd 203 59 = some (.goto (4), 3) := by decide +kernel
theorem c_203_62 : cd 203 62 = some (.iload_n 3, 1) := by decide +kernel
theorem c_203_63 : cd 203 63 = some (.istore_n 3, 1) := by decide +kernel
theorem c_203_64 : cd 203 64 = some (.iinc 4 (1), 3) := by decide +kernel
theorem c_203_67 : cd 203 67 = some (.goto (-62), 3) := by decide +kernel
theorem c_203_70 : cd 203 70 = some (.iload_n 3, 1) := by decide +kernel
theorem c_203_71 : cd 203 71 = some (.ireturn, 1) := by decide +kernel
def f_Mo_heldOn_63 (σ : Mm) (k5 : Nat → Int32 → Int32 → Int32 → Int32 → Option (Int32)) (x0 : Nat) (x1 : Int32) (x2 : Int32) (x4 : Int32) (y0 : Int32) : Option Int32 := k5 x0 x1 x2 y0 (x4 + (1 : Int32))
set_option maxRecDepth 100000 in
set_option maxHeartbeats 4000000 in
theorem t_Mo_heldOn_63 {X : Xt} {S : Sh} (hS : ShOK S) {d : Nat} (hd : 0 ≤ d) (σ : Mm) {k5 : Nat → Int32 → Int32 → Int32 → Int32 → Option (Int32)} (hk5 : ∀ (x0 : Nat) (x1 : Int32) (x2 : Int32) (x3 : Int32) (x4 : Int32) (u5 : Value) (h_x0 : tgT x0 = 12), Rf X S (emI σ) (k5 x0 x1 x2 x3 x4) d 203 5 [.ref x0, .int x1, .int x2, .int x3, .int x4, u5] [] σ) (x0 : Nat) (x1 : Int32) (x2 : Int32) (x4 : Int32) (y0 : Int32) (u3 : Value) (u5 : Value) (h_x0 : tgT x0 = 12) : Rf X S (emI σ) (f_Mo_heldOn_63 σ k5 x0 x1 x2 x4 y0) d 203 63 [.ref x0, .int x1, .int x2, u3, .int x4, u5] [.int y0] σ := by
  unfold f_Mo_heldOn_63
  refine rf_ist (i := 3) (Or.inr ⟨3, rfl, rfl, rfl⟩) c_203_63 (Nat.le_of_ble_eq_true rfl) rfl ?_
  refine rf_iinc c_203_64 rfl ki_1 rfl ?_
  refine rf_goto c_203_67 rfl ?_
  exact hk5 x0 x1 x2 y0 (x4 + (1 : Int32)) (u5) h_x0
def f_Mo_heldOn_62 (σ : Mm) (k5 : Nat → Int32 → Int32 → Int32 → Int32 → Option (Int32)) (x0 : Nat) (x1 : Int32) (x2 : Int32) (x3 : Int32) (x4 : Int32) : Option Int32 := f_Mo_heldOn_63 σ k5 x0 x1 x2 x4 x3
set_option maxRecDepth 100000 in
set_option maxHeartbeats 4000000 in
theorem t_Mo_heldOn_62 {X : Xt} {S : Sh} (hS : ShOK S) {d : Nat} (hd : 0 ≤ d) (σ : Mm) {k5 : Nat → Int32 → Int32 → Int32 → Int32 → Option (Int32)} (hk5 : ∀ (x0 : Nat) (x1 : Int32) (x2 : Int32) (x3 : Int32) (x4 : Int32) (u5 : Value) (h_x0 : tgT x0 = 12), Rf X S (emI σ) (k5 x0 x1 x2 x3 x4) d 203 5 [.ref x0, .int x1, .int x2, .int x3, .int x4, u5] [] σ) (x0 : Nat) (x1 : Int32) (x2 : Int32) (x3 : Int32) (x4 : Int32) (u5 : Value) (h_x0 : tgT x0 = 12) : Rf X S (emI σ) (f_Mo_heldOn_62 σ k5 x0 x1 x2 x3 x4) d 203 62 [.ref x0, .int x1, .int x2, .int x3, .int x4, u5] [] σ := by
  unfold f_Mo_heldOn_62
  refine rf_ild (i := 3) (Or.inr ⟨3, rfl, rfl, rfl⟩) c_203_62 rfl ?_
  exact t_Mo_heldOn_63 hS hd σ hk5 x0 x1 x2 x4 x3 (.int x3) (u5) h_x0
def f_Mo_heldOn_5 (σ : Mm) : Nat → Nat → Int32 → Int32 → Int32 → Int32 → Option Int32
  | 0, _, _, _, _, _ => none
  | n + 1, x0, x1, x2, x3, x4 => (if (σ (rfT x0 0) (ix (9 : Int32))) ≤ x4 then (some x3) else (if inbB ((12 : Int32) + ((3 : Int32) * x4)) 5528 = true then (if ¬ (σ (rfT x0 0) (ix ((12 : Int32) + ((3 : Int32) * x4)))) = x1 then (f_Mo_heldOn_62 σ (f_Mo_heldOn_5 σ n) x0 x1 x2 x3 x4) else (if inbB (((12 : Int32) + ((3 : Int32) * x4)) + (2 : Int32)) 5528 = true then (if x2 < (σ (rfT x0 0) (ix (((12 : Int32) + ((3 : Int32) * x4)) + (2 : Int32)))) then (f_Mo_heldOn_62 σ (f_Mo_heldOn_5 σ n) x0 x1 x2 x3 x4) else (if inbB (((12 : Int32) + ((3 : Int32) * x4)) + (1 : Int32)) 5528 = true then f_Mo_heldOn_63 σ (f_Mo_heldOn_5 σ n) x0 x1 x2 x4 (σ (rfT x0 0) (ix (((12 : Int32) + ((3 : Int32) * x4)) + (1 : Int32)))) else none)) else none)) else none))
set_option maxRecDepth 100000 in
set_option maxHeartbeats 4000000 in
theorem t_Mo_heldOn_5 {X : Xt} {S : Sh} (hS : ShOK S) {d : Nat} (hd : 0 ≤ d) (σ : Mm) : ∀ (n : Nat) (x0 : Nat) (x1 : Int32) (x2 : Int32) (x3 : Int32) (x4 : Int32) (u5 : Value) (h_x0 : tgT x0 = 12), Rf X S (emI σ) (f_Mo_heldOn_5 σ n x0 x1 x2 x3 x4) d 203 5 [.ref x0, .int x1, .int x2, .int x3, .int x4, u5] [] σ := by
  intro n
  induction n with
  | zero => intro x0 x1 x2 x3 x4 u5 h_x0; exact rf_none
  | succ n ih =>
    intro x0 x1 x2 x3 x4 u5 h_x0
    rw [f_Mo_heldOn_5]
    refine rf_ild (i := 4) (Or.inl ⟨rfl, rfl⟩) c_203_5 rfl ?_
    refine rf_ald (i := 0) (Or.inr ⟨0, rfl, rfl, rfl⟩) c_203_7 rfl ?_
    refine rf_getr hS c_203_8 rfl fl_12_9 rfl h_x0 ?_
    refine rf_bipush c_203_11 kb_9 ?_
    refine rf_iald hS c_203_13 (tf_12_0 h_x0) (lf_12_0 h_x0) (by decide) ?_
    refine rf_ite (fun hc14 => ?_) (fun hc14 => ?_)
    · refine rf_b2t c_203_14 rfl (decide_eq_true hc14) ?_
      refine rf_ild (i := 3) (Or.inr ⟨3, rfl, rfl, rfl⟩) c_203_70 rfl ?_
      exact rf_ret c_203_71 rfl rfl rfl rfl
    · refine rf_b2f c_203_14 rfl (decide_eq_false hc14) ?_
      refine rf_bipush c_203_17 kb_12 ?_
      refine rf_iconst c_203_19 ki_3 ?_
      refine rf_ild (i := 4) (Or.inl ⟨rfl, rfl⟩) c_203_20 rfl ?_
      refine rf_imul c_203_22 ?_
      refine rf_iadd c_203_23 ?_
      refine rf_ist (i := 5) (Or.inl ⟨rfl, rfl⟩) c_203_24 (Nat.le_of_ble_eq_true rfl) rfl ?_
      refine rf_ald (i := 0) (Or.inr ⟨0, rfl, rfl, rfl⟩) c_203_26 rfl ?_
      refine rf_getr hS c_203_27 rfl fl_12_9 rfl h_x0 ?_
      refine rf_ild (i := 5) (Or.inl ⟨rfl, rfl⟩) c_203_30 rfl ?_
      refine rf_ite (fun hb32 => ?_) (fun _ => rf_none)
      refine rf_iald hS c_203_32 (tf_12_0 h_x0) (lf_12_0 h_x0) hb32 ?_
      refine rf_ild (i := 1) (Or.inr ⟨1, rfl, rfl, rfl⟩) c_203_33 rfl ?_
      refine rf_ite (fun hc34 => ?_) (fun hc34 => ?_)
      · refine rf_b2t c_203_34 rfl (decide_eq_true hc34) ?_
        exact t_Mo_heldOn_62 hS hd σ ih x0 x1 x2 x3 x4 (.int ((12 : Int32) + ((3 : Int32) * x4))) h_x0
      · refine rf_b2f c_203_34 rfl (decide_eq_false hc34) ?_
        refine rf_ald (i := 0) (Or.inr ⟨0, rfl, rfl, rfl⟩) c_203_37 rfl ?_
        refine rf_getr hS c_203_38 rfl fl_12_9 rfl h_x0 ?_
        refine rf_ild (i := 5) (Or.inl ⟨rfl, rfl⟩) c_203_41 rfl ?_
        refine rf_iconst c_203_43 ki_2 ?_
        refine rf_iadd c_203_44 ?_
        refine rf_ite (fun hb45 => ?_) (fun _ => rf_none)
        refine rf_iald hS c_203_45 (tf_12_0 h_x0) (lf_12_0 h_x0) hb45 ?_
        refine rf_ild (i := 2) (Or.inr ⟨2, rfl, rfl, rfl⟩) c_203_46 rfl ?_
        refine rf_ite (fun hc47 => ?_) (fun hc47 => ?_)
        · refine rf_b2t c_203_47 rfl (decide_eq_true hc47) ?_
          exact t_Mo_heldOn_62 hS hd σ ih x0 x1 x2 x3 x4 (.int ((12 : Int32) + ((3 : Int32) * x4))) h_x0
        · refine rf_b2f c_203_47 rfl (decide_eq_false hc47) ?_
          refine rf_ald (i := 0) (Or.inr ⟨0, rfl, rfl, rfl⟩) c_203_50 rfl ?_
          refine rf_getr hS c_203_51 rfl fl_12_9 rfl h_x0 ?_
          refine rf_ild (i := 5) (Or.inl ⟨rfl, rfl⟩) c_203_54 rfl ?_
          refine rf_iconst c_203_56 ki_1 ?_
          refine rf_iadd c_203_57 ?_
          refine rf_ite (fun hb58 => ?_) (fun _ => rf_none)
          refine rf_iald hS c_203_58 (tf_12_0 h_x0) (lf_12_0 h_x0) hb58 ?_
          refine rf_goto c_203_59 rfl ?_
          exact t_Mo_heldOn_63 hS hd σ ih x0 x1 x2 x4 (σ (rfT x0 0) (ix (((12 : Int32) + ((3 : Int32) * x4)) + (1 : Int32)))) (.int x3) (.int ((12 : Int32) + ((3 : Int32) * x4))) h_x0
def f_Mo_heldOn (σ : Mm) (x0 : Nat) (x1 : Int32) (x2 : Int32) : Option Int32 := f_Mo_heldOn_5 σ NN x0 x1 x2 (-1 : Int32) (0 : Int32)
set_option maxRecDepth 100000 in
set_option maxHeartbeats 4000000 in
theorem t_Mo_heldOn {X : Xt} {S : Sh} (hS : ShOK S) {d : Nat} (hd : 0 ≤ d) (σ : Mm) (x0 : Nat) (x1 : Int32) (x2 : Int32) (h_x0 : tgT x0 = 12) : Rf X S (emI σ) (f_Mo_heldOn σ x0 x1 x2) d 203 0 [.ref x0, .int x1, .int x2, unset0, unset0, unset0] [] σ := by
  unfold f_Mo_heldOn
  refine rf_iconst c_203_0 ki_m1 ?_
  refine rf_ist (i := 3) (Or.inr ⟨3, rfl, rfl, rfl⟩) c_203_1 (Nat.le_of_ble_eq_true rfl) rfl ?_
  refine rf_iconst c_203_2 ki_0 ?_
  refine rf_ist (i := 4) (Or.inl ⟨rfl, rfl⟩) c_203_3 (Nat.le_of_ble_eq_true rfl) rfl ?_
  exact t_Mo_heldOn_5 hS hd σ  NN x0 x1 x2 (-1 : Int32) (0 : Int32) (unset0) h_x0
theorem c_204_0 : cd 204 0 = some (.aload_n 0, 1) := by decide +kernel
theorem c_204_1 : cd 204 1 = some (.iload_n 1, 1) := by decide +kernel
theorem c_204_2 : cd 204 2 = some (.invokevirtual 87, 3) := by decide +kernel
theorem c_204_5 : cd 204 5 = some (.ifCond .eq (19), 3) := by decide +kernel
theorem c_204_8 : cd 204 8 = some (.iload_n 2, 1) := by decide +kernel
theorem c_204_9 : cd 204 9 = some (.ldc 81, 2) := by decide +kernel
theorem c_204_11 : cd 204 11 = some (.if_icmp .eq (16), 3) := by decide +kernel
theorem c_204_14 : cd 204 14 = some (.iload_n 2, 1) := by decide +kernel
theorem c_204_15 : cd 204 15 = some (.iconst (0), 1) := by decide +kernel
theorem c_204_16 : cd 204 16 = some (.bipush (99), 2) := by decide +kernel
theorem c_204_18 : cd 204 18 = some (.invokestatic 82, 3) := by decide +kernel
theorem c_204_21 : cd 204 21 = some (.ifCond .ne (6), 3) := by decide +kernel
theorem c_204_24 : cd 204 24 = some (.ldc 91, 2) := by decide +kernel
theorem c_204_26 : cd 204 26 = some (.ireturn, 1) := by decide +kernel
theorem c_204_27 : cd 204 27 = some (.aload_n 0, 1) := by decide +kernel
theorem c_204_28 : cd 204 28 = some (.getfield 9, 3) := by decide +kernel
theorem c_204_31 : cd 204 31 = some (.bipush (9), 2) := by decide +kernel
theorem c_204_33 : cd 204 33 = some (.iaload, 1) := by decide +kernel
theorem c_204_34 : cd 204 34 = some (.bipush (40), 2) := by decide +kernel
theorem c_204_36 : cd 204 36 = some (.if_icmp .ne (6), 3) := by decide +kernel
theorem c_204_39 : cd 204 39 = some (.ldc 86, 2) := by decide +kernel
theorem c_204_41 : cd 204 41 = some (.ireturn, 1) := by decide +kernel
theorem c_204_42 : cd 204 42 = some (.aload_n 0, 1) := by decide +kernel
theorem c_204_43 : cd 204 43 = some (.iload_n 1, 1) := by decide +kernel
theorem c_204_44 : cd 204 44 = some (.aload_n 0, 1) := by decide +kernel
theorem c_204_45 : cd 204 45 = some (.getfield 9, 3) := by decide +kernel
theorem c_204_48 : cd 204 48 = some (.iconst (0), 1) := by decide +kernel
theorem c_204_49 : cd 204 49 = some (.iaload, 1) := by decide +kernel
theorem c_204_50 : cd 204 50 = some (.invokevirtual 92, 3) := by decide +kernel
theorem c_204_53 : cd 204 53 = some (.istore_n 3, 1) := by decide +kernel
theorem c_204_54 : cd 204 54 = some (.bipush (12), 2) := by decide +kernel
theorem c_204_56 : cd 204 56 = some (.iconst (3), 1) := by decide +kernel
theorem c_204_57 : cd 204 57 = some (.aload_n 0, 1) := by decide +kernel
theorem c_204_58 : cd 204 58 = some (.getfield 9, 3) := by decide +kernel
theorem c_204_61 : cd 204 61 = some (.bipush (9), 2) := by decide +kernel
theorem c_204_63 : cd 204 63 = some (.iaload, 1) := by decide +kernel
theorem c_204_64 : cd 204 64 = some (.imul, 1) := by decide +kernel
theorem c_204_65 : cd 204 65 = some (.iadd, 1) := by decide +kernel
theorem c_204_66 : cd 204 66 = some (.istore 4, 2) := by decide +kernel
theorem c_204_68 : cd 204 68 = some (.aload_n 0, 1) := by decide +kernel
theorem c_204_69 : cd 204 69 = some (.getfield 9, 3) := by decide +kernel
theorem c_204_72 : cd 204 72 = some (.iload 4, 2) := by decide +kernel
theorem c_204_74 : cd 204 74 = some (.iload_n 1, 1) := by decide +kernel
theorem c_204_75 : cd 204 75 = some (.iastore, 1) := by decide +kernel
theorem c_204_76 : cd 204 76 = some (.aload_n 0, 1) := by decide +kernel
theorem c_204_77 : cd 204 77 = some (.getfield 9, 3) := by decide +kernel
theorem c_204_80 : cd 204 80 = some (.iload 4, 2) := by decide +kernel
theorem c_204_82 : cd 204 82 = some (.iconst (1), 1) := by decide +kernel
theorem c_204_83 : cd 204 83 = some (.iadd, 1) := by decide +kernel
theorem c_204_84 : cd 204 84 = some (.iload_n 2, 1) := by decide +kernel
theorem c_204_85 : cd 204 85 = some (.ldc 81, 2) := by decide +kernel
theorem c_204_87 : cd 204 87 = some (.if_icmp .ne (7), 3) := by decide +kernel
theorem c_204_90 : cd 204 90 = some (.iconst (-1), 1) := by decide +kernel
theorem c_204_91 : cd 204 91 = some (.goto (4), 3) := by decide +kernel
theorem c_204_94 : cd 204 94 = some (.iload_n 2, 1) := by decide +kernel
theorem c_204_95 : cd 204 95 = some (.iastore, 1) := by decide +kernel
theorem c_204_96 : cd 204 96 = some (.aload_n 0, 1) := by decide +kernel
theorem c_204_97 : cd 204 97 = some (.getfield 9, 3) := by decide +kernel
theorem c_204_100 : cd 204 100 = some (.iload 4, 2) := by decide +kernel
theorem c_204_102 : cd 204 102 = some (.iconst (2), 1) := by decide +kernel
theorem c_204_103 : cd 204 103 = some (.iadd, 1) := by decide +kernel
theorem c_204_104 : cd 204 104 = some (.aload_n 0, 1) := by decide +kernel
theorem c_204_105 : cd 204 105 = some (.getfield 9, 3) := by decide +kernel
theorem c_204_108 : cd 204 108 = some (.iconst (0), 1) := by decide +kernel
theorem c_204_109 : cd 204 109 = some (.iaload, 1) := by decide +kernel
theorem c_204_110 : cd 204 110 = some (.iastore, 1) := by decide +kernel
theorem c_204_111 : cd 204 111 = some (.aload_n 0, 1) := by decide +kernel
theorem c_204_112 : cd 204 112 = some (.getfield 9, 3) := by decide +kernel
theorem c_204_115 : cd 204 115 = some (.bipush (9), 2) := by decide +kernel
theorem c_204_117 : cd 204 117 = some (.dup2, 1) := by decide +kernel
theorem c_204_118 : cd 204 118 = some (.iaload, 1) := by decide +kernel
theorem c_204_119 : cd 204 119 = some (.iconst (1), 1) := by decide +kernel
theorem c_204_120 : cd 204 120 = some (.iadd, 1) := by decide +kernel
theorem c_204_121 : cd 204 121 = some (.iastore, 1) := by decide +kernel
theorem c_204_122 : cd 204 122 = some (.iload_n 3, 1) := by decide +kernel
theorem c_204_123 : cd 204 123 = some (.invokestatic 96, 3) := by decide +kernel
theorem c_204_126 : cd 204 126 = some (.ireturn, 1) := by decide +kernel
def f_Mo_hold_24 (σ : Mm) : Option (Int32 × Mm) := some ((-1000000001 : Int32), σ)
set_option maxRecDepth 100000 in
set_option maxHeartbeats 4000000 in
theorem t_Mo_hold_24 {X : Xt} {S : Sh} (hS : ShOK S) {d : Nat} (hd : 2 ≤ d + 1) (u0 : Value) (u1 : Value) (u2 : Value) (u3 : Value) (u4 : Value) (σ : Mm) : Rf X S emM (f_Mo_hold_24 σ) (d + 1) 204 24 [u0, u1, u2, u3, u4] [] σ := by
  unfold f_Mo_hold_24
  refine rf_ldc (Or.inl ⟨rfl, rfl⟩) c_204_24 rfl kl_12_91 ?_
  exact rf_ret c_204_26 rfl rfl rfl rfl
def f_Mo_hold_95 (x0 : Nat) (x3 : Int32) (x4 : Int32) (y0 : Nat) (y1 : Int32) (y2 : Int32) (σ : Mm) : Option (Int32 × Mm) := if inbB y1 5528 = true then nmM (up2 σ y0 (ix y1) y2) fun σ95 => if inbB (x4 + (2 : Int32)) 5528 = true then nmM (up2 σ95 (rfT x0 0) (ix (x4 + (2 : Int32))) (σ95 (rfT x0 0) (ix (0 : Int32)))) fun σ110 => nmM (up2 σ110 (rfT x0 0) (ix (9 : Int32)) ((σ110 (rfT x0 0) (ix (9 : Int32))) + (1 : Int32))) fun σ121 => (f_Mo_orNone σ121 x3).bind fun v123 => some (v123, σ121) else none else none
set_option maxRecDepth 100000 in
set_option maxHeartbeats 4000000 in
theorem t_Mo_hold_95 {X : Xt} {S : Sh} (hS : ShOK S) {d : Nat} (hd : 2 ≤ d + 1) (x0 : Nat) (x3 : Int32) (x4 : Int32) (y0 : Nat) (y1 : Int32) (y2 : Int32) (u1 : Value) (u2 : Value) (σ : Mm) (h_x0 : tgT x0 = 12) (h_y0 : tgT y0 = 20) (l_y0 : lnT y0 = 5528) : Rf X S emM (f_Mo_hold_95 x0 x3 x4 y0 y1 y2 σ) (d + 1) 204 95 [.ref x0, u1, u2, .int x3, .int x4] [.int y2, .int y1, .ref y0] σ := by
  unfold f_Mo_hold_95
  refine rf_ite (fun hb95 => ?_) (fun _ => rf_none)
  refine rf_iast hS c_204_95 h_y0 l_y0 hb95 ?_
  refine rf_nm (fun σ95 => ?_)
  refine rf_ald (i := 0) (Or.inr ⟨0, rfl, rfl, rfl⟩) c_204_96 rfl ?_
  refine rf_getr hS c_204_97 rfl fl_12_9 rfl h_x0 ?_
  refine rf_ild (i := 4) (Or.inl ⟨rfl, rfl⟩) c_204_100 rfl ?_
  refine rf_iconst c_204_102 ki_2 ?_
  refine rf_iadd c_204_103 ?_
  refine rf_ald (i := 0) (Or.inr ⟨0, rfl, rfl, rfl⟩) c_204_104 rfl ?_
  refine rf_getr hS c_204_105 rfl fl_12_9 rfl h_x0 ?_
  refine rf_iconst c_204_108 ki_0 ?_
  refine rf_iald hS c_204_109 (tf_12_0 h_x0) (lf_12_0 h_x0) (by decide) ?_
  refine rf_ite (fun hb110 => ?_) (fun _ => rf_none)
  refine rf_iast hS c_204_110 (tf_12_0 h_x0) (lf_12_0 h_x0) hb110 ?_
  refine rf_nm (fun σ110 => ?_)
  refine rf_ald (i := 0) (Or.inr ⟨0, rfl, rfl, rfl⟩) c_204_111 rfl ?_
  refine rf_getr hS c_204_112 rfl fl_12_9 rfl h_x0 ?_
  refine rf_bipush c_204_115 kb_9 ?_
  refine rf_dup2 c_204_117 rfl rfl ?_
  refine rf_iald hS c_204_118 (tf_12_0 h_x0) (lf_12_0 h_x0) (by decide) ?_
  refine rf_iconst c_204_119 ki_1 ?_
  refine rf_iadd c_204_120 ?_
  refine rf_iast hS c_204_121 (tf_12_0 h_x0) (lf_12_0 h_x0) (by decide) ?_
  refine rf_nm (fun σ121 => ?_)
  refine rf_ild (i := 3) (Or.inr ⟨3, rfl, rfl, rfl⟩) c_204_122 rfl ?_
  refine rf_callI (as := [.int x3]) (kd := 0) c_204_123 rfl (by decide) rfl ml_12_96 (by decide) rfl (rcv_0 rfl) (Nat.zero_le _) rfl rfl (t_Mo_orNone hS (by omega) σ121 x3) (fun v123 => ?_)
  exact rf_ret c_204_126 rfl rfl rfl rfl
def f_Mo_hold_27 (x0 : Nat) (x1 : Int32) (x2 : Int32) (σ : Mm) : Option (Int32 × Mm) := (if ¬ (σ (rfT x0 0) (ix (9 : Int32))) = (40 : Int32) then ((f_Mo_heldOn σ x0 x1 (σ (rfT x0 0) (ix (0 : Int32)))).bind fun v50 => if inbB ((12 : Int32) + ((3 : Int32) * (σ (rfT x0 0) (ix (9 : Int32))))) 5528 = true then nmM (up2 σ (rfT x0 0) (ix ((12 : Int32) + ((3 : Int32) * (σ (rfT x0 0) (ix (9 : Int32)))))) x1) fun σ75 => (if ¬ x2 = (-1000000005 : Int32) then (f_Mo_hold_95  x0 v50 ((12 : Int32) + ((3 : Int32) * (σ (rfT x0 0) (ix (9 : Int32))))) (rfT x0 0) (((12 : Int32) + ((3 : Int32) * (σ (rfT x0 0) (ix (9 : Int32))))) + (1 : Int32)) x2 σ75) else (f_Mo_hold_95  x0 v50 ((12 : Int32) + ((3 : Int32) * (σ (rfT x0 0) (ix (9 : Int32))))) (rfT x0 0) (((12 : Int32) + ((3 : Int32) * (σ (rfT x0 0) (ix (9 : Int32))))) + (1 : Int32)) (-1 : Int32) σ75)) else none) else (some ((-1000000003 : Int32), σ)))
set_option maxRecDepth 100000 in
set_option maxHeartbeats 4000000 in
theorem t_Mo_hold_27 {X : Xt} {S : Sh} (hS : ShOK S) {d : Nat} (hd : 2 ≤ d + 1) (x0 : Nat) (x1 : Int32) (x2 : Int32) (u3 : Value) (u4 : Value) (σ : Mm) (h_x0 : tgT x0 = 12) : Rf X S emM (f_Mo_hold_27 x0 x1 x2 σ) (d + 1) 204 27 [.ref x0, .int x1, .int x2, u3, u4] [] σ := by
  unfold f_Mo_hold_27
  refine rf_ald (i := 0) (Or.inr ⟨0, rfl, rfl, rfl⟩) c_204_27 rfl ?_
  refine rf_getr hS c_204_28 rfl fl_12_9 rfl h_x0 ?_
  refine rf_bipush c_204_31 kb_9 ?_
  refine rf_iald hS c_204_33 (tf_12_0 h_x0) (lf_12_0 h_x0) (by decide) ?_
  refine rf_bipush c_204_34 kb_40 ?_
  refine rf_ite (fun hc36 => ?_) (fun hc36 => ?_)
  · refine rf_b2t c_204_36 rfl (decide_eq_true hc36) ?_
    refine rf_ald (i := 0) (Or.inr ⟨0, rfl, rfl, rfl⟩) c_204_42 rfl ?_
    refine rf_ild (i := 1) (Or.inr ⟨1, rfl, rfl, rfl⟩) c_204_43 rfl ?_
    refine rf_ald (i := 0) (Or.inr ⟨0, rfl, rfl, rfl⟩) c_204_44 rfl ?_
    refine rf_getr hS c_204_45 rfl fl_12_9 rfl h_x0 ?_
    refine rf_iconst c_204_48 ki_0 ?_
    refine rf_iald hS c_204_49 (tf_12_0 h_x0) (lf_12_0 h_x0) (by decide) ?_
    refine rf_callI (as := [.ref x0, .int x1, .int (σ (rfT x0 0) (ix (0 : Int32)))]) (kd := 1) c_204_50 rfl (by decide) rfl ml_12_92 (by decide) rfl (rcv_1 hS rfl rfl h_x0 (by decide)) (Nat.zero_le _) rfl rfl (t_Mo_heldOn hS (by omega) σ x0 x1 (σ (rfT x0 0) (ix (0 : Int32))) h_x0) (fun v50 => ?_)
    refine rf_ist (i := 3) (Or.inr ⟨3, rfl, rfl, rfl⟩) c_204_53 (Nat.le_of_ble_eq_true rfl) rfl ?_
    refine rf_bipush c_204_54 kb_12 ?_
    refine rf_iconst c_204_56 ki_3 ?_
    refine rf_ald (i := 0) (Or.inr ⟨0, rfl, rfl, rfl⟩) c_204_57 rfl ?_
    refine rf_getr hS c_204_58 rfl fl_12_9 rfl h_x0 ?_
    refine rf_bipush c_204_61 kb_9 ?_
    refine rf_iald hS c_204_63 (tf_12_0 h_x0) (lf_12_0 h_x0) (by decide) ?_
    refine rf_imul c_204_64 ?_
    refine rf_iadd c_204_65 ?_
    refine rf_ist (i := 4) (Or.inl ⟨rfl, rfl⟩) c_204_66 (Nat.le_of_ble_eq_true rfl) rfl ?_
    refine rf_ald (i := 0) (Or.inr ⟨0, rfl, rfl, rfl⟩) c_204_68 rfl ?_
    refine rf_getr hS c_204_69 rfl fl_12_9 rfl h_x0 ?_
    refine rf_ild (i := 4) (Or.inl ⟨rfl, rfl⟩) c_204_72 rfl ?_
    refine rf_ild (i := 1) (Or.inr ⟨1, rfl, rfl, rfl⟩) c_204_74 rfl ?_
    refine rf_ite (fun hb75 => ?_) (fun _ => rf_none)
    refine rf_iast hS c_204_75 (tf_12_0 h_x0) (lf_12_0 h_x0) hb75 ?_
    refine rf_nm (fun σ75 => ?_)
    refine rf_ald (i := 0) (Or.inr ⟨0, rfl, rfl, rfl⟩) c_204_76 rfl ?_
    refine rf_getr hS c_204_77 rfl fl_12_9 rfl h_x0 ?_
    refine rf_ild (i := 4) (Or.inl ⟨rfl, rfl⟩) c_204_80 rfl ?_
    refine rf_iconst c_204_82 ki_1 ?_
    refine rf_iadd c_204_83 ?_
    refine rf_ild (i := 2) (Or.inr ⟨2, rfl, rfl, rfl⟩) c_204_84 rfl ?_
    refine rf_ldc (Or.inl ⟨rfl, rfl⟩) c_204_85 rfl kl_12_81 ?_
    refine rf_ite (fun hc87 => ?_) (fun hc87 => ?_)
    · refine rf_b2t c_204_87 rfl (decide_eq_true hc87) ?_
      refine rf_ild (i := 2) (Or.inr ⟨2, rfl, rfl, rfl⟩) c_204_94 rfl ?_
      exact t_Mo_hold_95 hS hd  x0 v50 ((12 : Int32) + ((3 : Int32) * (σ (rfT x0 0) (ix (9 : Int32))))) (rfT x0 0) (((12 : Int32) + ((3 : Int32) * (σ (rfT x0 0) (ix (9 : Int32))))) + (1 : Int32)) x2 (.int x1) (.int x2) σ75 h_x0 (tf_12_0 h_x0) (lf_12_0 h_x0)
    · refine rf_b2f c_204_87 rfl (decide_eq_false hc87) ?_
      refine rf_iconst c_204_90 ki_m1 ?_
      refine rf_goto c_204_91 rfl ?_
      exact t_Mo_hold_95 hS hd  x0 v50 ((12 : Int32) + ((3 : Int32) * (σ (rfT x0 0) (ix (9 : Int32))))) (rfT x0 0) (((12 : Int32) + ((3 : Int32) * (σ (rfT x0 0) (ix (9 : Int32))))) + (1 : Int32)) (-1 : Int32) (.int x1) (.int x2) σ75 h_x0 (tf_12_0 h_x0) (lf_12_0 h_x0)
  · refine rf_b2f c_204_36 rfl (decide_eq_false hc36) ?_
    refine rf_ldc (Or.inl ⟨rfl, rfl⟩) c_204_39 rfl kl_12_86 ?_
    exact rf_ret c_204_41 rfl rfl rfl rfl
def f_Mo_hold (x0 : Nat) (x1 : Int32) (x2 : Int32) (σ : Mm) : Option (Int32 × Mm) := (f_Mo_isOffice σ x0 x1).bind fun v2 => (if v2 = 0 then (f_Mo_hold_24  σ) else (if x2 = (-1000000005 : Int32) then (f_Mo_hold_27  x0 x1 x2 σ) else ((f_Mo_in σ x2 (0 : Int32) (99 : Int32)).bind fun v18 => (if ¬ v18 = 0 then (f_Mo_hold_27  x0 x1 x2 σ) else (f_Mo_hold_24  σ)))))
set_option maxRecDepth 100000 in
set_option maxHeartbeats 4000000 in
theorem t_Mo_hold_e {X : Xt} {S : Sh} (hS : ShOK S) {d : Nat} (hd : 2 ≤ d + 1) (x0 : Nat) (x1 : Int32) (x2 : Int32) (σ : Mm) (h_x0 : tgT x0 = 12) : Rf X S emM (f_Mo_hold x0 x1 x2 σ) (d + 1) 204 0 [.ref x0, .int x1, .int x2, unset0, unset0] [] σ := by
  unfold f_Mo_hold
  refine rf_ald (i := 0) (Or.inr ⟨0, rfl, rfl, rfl⟩) c_204_0 rfl ?_
  refine rf_ild (i := 1) (Or.inr ⟨1, rfl, rfl, rfl⟩) c_204_1 rfl ?_
  refine rf_callI (as := [.ref x0, .int x1]) (kd := 1) c_204_2 rfl (by decide) rfl ml_12_87 (by decide) rfl (rcv_1 hS rfl rfl h_x0 (by decide)) (Nat.zero_le _) rfl rfl (t_Mo_isOffice hS (by omega) σ x0 x1 h_x0) (fun v2 => ?_)
  refine rf_ite (fun hc5 => ?_) (fun hc5 => ?_)
  · refine rf_b1t c_204_5 rfl (decide_eq_true hc5) ?_
    exact t_Mo_hold_24 hS hd  (.ref x0) (.int x1) (.int x2) (unset0) (unset0) σ
  · refine rf_b1f c_204_5 rfl (decide_eq_false hc5) ?_
    refine rf_ild (i := 2) (Or.inr ⟨2, rfl, rfl, rfl⟩) c_204_8 rfl ?_
    refine rf_ldc (Or.inl ⟨rfl, rfl⟩) c_204_9 rfl kl_12_81 ?_
    refine rf_ite (fun hc11 => ?_) (fun hc11 => ?_)
    · refine rf_b2t c_204_11 rfl (decide_eq_true hc11) ?_
      exact t_Mo_hold_27 hS hd  x0 x1 x2 (unset0) (unset0) σ h_x0
    · refine rf_b2f c_204_11 rfl (decide_eq_false hc11) ?_
      refine rf_ild (i := 2) (Or.inr ⟨2, rfl, rfl, rfl⟩) c_204_14 rfl ?_
      refine rf_iconst c_204_15 ki_0 ?_
      refine rf_bipush c_204_16 kb_99 ?_
      refine rf_callI (as := [.int x2, .int (0 : Int32), .int (99 : Int32)]) (kd := 0) c_204_18 rfl (by decide) rfl ml_12_82 (by decide) rfl (rcv_0 rfl) (Nat.zero_le _) rfl rfl (t_Mo_in hS (by omega) σ x2 (0 : Int32) (99 : Int32)) (fun v18 => ?_)
      refine rf_ite (fun hc21 => ?_) (fun hc21 => ?_)
      · refine rf_b1t c_204_21 rfl (decide_eq_true hc21) ?_
        exact t_Mo_hold_27 hS hd  x0 x1 x2 (unset0) (unset0) σ h_x0
      · refine rf_b1f c_204_21 rfl (decide_eq_false hc21) ?_
        exact t_Mo_hold_24 hS hd  (.ref x0) (.int x1) (.int x2) (unset0) (unset0) σ
theorem t_Mo_hold {X : Xt} {S : Sh} (hS : ShOK S) {d : Nat} (hd : 2 ≤ d) (x0 : Nat) (x1 : Int32) (x2 : Int32) (σ : Mm) (h_x0 : tgT x0 = 12) : Rf X S emM (f_Mo_hold x0 x1 x2 σ) d 204 0 [.ref x0, .int x1, .int x2, unset0, unset0] [] σ := by
  obtain ⟨d1, rfl⟩ : ∃ d1, d = d1 + 1 := ⟨d - 1, by omega⟩
  exact t_Mo_hold_e hS hd x0 x1 x2 σ h_x0
theorem c_205_0 : cd 205 0 = some (.aload_n 0, 1) := by decide +kernel
theorem c_205_1 : cd 205 1 = some (.iload_n 1, 1) := by decide +kernel
theorem c_205_2 : cd 205 2 = some (.invokevirtual 87, 3) := by decide +kernel
theorem c_205_5 : cd 205 5 = some (.ifCond .eq (22), 3) := by decide +kernel
theorem c_205_8 : cd 205 8 = some (.iload_n 2, 1) := by decide +kernel
theorem c_205_9 : cd 205 9 = some (.invokestatic 100, 3) := by decide +kernel
theorem c_205_12 : cd 205 12 = some (.ifCond .eq (15), 3) := by decide +kernel
theorem c_205_15 : cd 205 15 = some (.aload_n 0, 1) := by decide +kernel
theorem c_205_16 : cd 205 16 = some (.iload_n 1, 1) := by decide +kernel
theorem c_205_17 : cd 205 17 = some (.iload_n 2, 1) := by decide +kernel
theorem c_205_18 : cd 205 18 = some (.invokevirtual 92, 3) := by decide +kernel
theorem c_205_21 : cd 205 21 = some (.invokestatic 96, 3) := by decide +kernel
theorem c_205_24 : cd 205 24 = some (.goto (5), 3) := by decide +kernel
theorem c_205_27 : cd 205 27 = some (.ldc 91, 2) := by decide +kernel
theorem c_205_29 : cd 205 29 = some (.ireturn, 1) := by decide +kernel
def f_Mo_held_29 (σ : Mm) (y0 : Int32) : Option Int32 := some y0
set_option maxRecDepth 100000 in
set_option maxHeartbeats 4000000 in
theorem t_Mo_held_29 {X : Xt} {S : Sh} (hS : ShOK S) {d : Nat} (hd : 2 ≤ d + 1) (σ : Mm) (y0 : Int32) (u0 : Value) (u1 : Value) (u2 : Value) : Rf X S (emI σ) (f_Mo_held_29 σ y0) (d + 1) 205 29 [u0, u1, u2] [.int y0] σ := by
  unfold f_Mo_held_29
  exact rf_ret c_205_29 rfl rfl rfl rfl
def f_Mo_held_27 (σ : Mm) : Option Int32 := f_Mo_held_29 σ (-1000000001 : Int32)
set_option maxRecDepth 100000 in
set_option maxHeartbeats 4000000 in
theorem t_Mo_held_27 {X : Xt} {S : Sh} (hS : ShOK S) {d : Nat} (hd : 2 ≤ d + 1) (σ : Mm) (u0 : Value) (u1 : Value) (u2 : Value) : Rf X S (emI σ) (f_Mo_held_27 σ) (d + 1) 205 27 [u0, u1, u2] [] σ := by
  unfold f_Mo_held_27
  refine rf_ldc (Or.inl ⟨rfl, rfl⟩) c_205_27 rfl kl_12_91 ?_
  exact t_Mo_held_29 hS hd σ  (-1000000001 : Int32) (u0) (u1) (u2)
def f_Mo_held (σ : Mm) (x0 : Nat) (x1 : Int32) (x2 : Int32) : Option Int32 := (f_Mo_isOffice σ x0 x1).bind fun v2 => (if v2 = 0 then (f_Mo_held_27 σ ) else ((f_Mo_isDay σ x2).bind fun v9 => (if v9 = 0 then (f_Mo_held_27 σ ) else ((f_Mo_heldOn σ x0 x1 x2).bind fun v18 => (f_Mo_orNone σ v18).bind fun v21 => f_Mo_held_29 σ v21))))
set_option maxRecDepth 100000 in
set_option maxHeartbeats 4000000 in
theorem t_Mo_held_e {X : Xt} {S : Sh} (hS : ShOK S) {d : Nat} (hd : 2 ≤ d + 1) (σ : Mm) (x0 : Nat) (x1 : Int32) (x2 : Int32) (h_x0 : tgT x0 = 12) : Rf X S (emI σ) (f_Mo_held σ x0 x1 x2) (d + 1) 205 0 [.ref x0, .int x1, .int x2] [] σ := by
  unfold f_Mo_held
  refine rf_ald (i := 0) (Or.inr ⟨0, rfl, rfl, rfl⟩) c_205_0 rfl ?_
  refine rf_ild (i := 1) (Or.inr ⟨1, rfl, rfl, rfl⟩) c_205_1 rfl ?_
  refine rf_callI (as := [.ref x0, .int x1]) (kd := 1) c_205_2 rfl (by decide) rfl ml_12_87 (by decide) rfl (rcv_1 hS rfl rfl h_x0 (by decide)) (Nat.zero_le _) rfl rfl (t_Mo_isOffice hS (by omega) σ x0 x1 h_x0) (fun v2 => ?_)
  refine rf_ite (fun hc5 => ?_) (fun hc5 => ?_)
  · refine rf_b1t c_205_5 rfl (decide_eq_true hc5) ?_
    exact t_Mo_held_27 hS hd σ  (.ref x0) (.int x1) (.int x2)
  · refine rf_b1f c_205_5 rfl (decide_eq_false hc5) ?_
    refine rf_ild (i := 2) (Or.inr ⟨2, rfl, rfl, rfl⟩) c_205_8 rfl ?_
    refine rf_callI (as := [.int x2]) (kd := 0) c_205_9 rfl (by decide) rfl ml_12_100 (by decide) rfl (rcv_0 rfl) (Nat.zero_le _) rfl rfl (t_Mo_isDay hS (by omega) σ x2) (fun v9 => ?_)
    refine rf_ite (fun hc12 => ?_) (fun hc12 => ?_)
    · refine rf_b1t c_205_12 rfl (decide_eq_true hc12) ?_
      exact t_Mo_held_27 hS hd σ  (.ref x0) (.int x1) (.int x2)
    · refine rf_b1f c_205_12 rfl (decide_eq_false hc12) ?_
      refine rf_ald (i := 0) (Or.inr ⟨0, rfl, rfl, rfl⟩) c_205_15 rfl ?_
      refine rf_ild (i := 1) (Or.inr ⟨1, rfl, rfl, rfl⟩) c_205_16 rfl ?_
      refine rf_ild (i := 2) (Or.inr ⟨2, rfl, rfl, rfl⟩) c_205_17 rfl ?_
      refine rf_callI (as := [.ref x0, .int x1, .int x2]) (kd := 1) c_205_18 rfl (by decide) rfl ml_12_92 (by decide) rfl (rcv_1 hS rfl rfl h_x0 (by decide)) (Nat.zero_le _) rfl rfl (t_Mo_heldOn hS (by omega) σ x0 x1 x2 h_x0) (fun v18 => ?_)
      refine rf_callI (as := [.int v18]) (kd := 0) c_205_21 rfl (by decide) rfl ml_12_96 (by decide) rfl (rcv_0 rfl) (Nat.zero_le _) rfl rfl (t_Mo_orNone hS (by omega) σ v18) (fun v21 => ?_)
      refine rf_goto c_205_24 rfl ?_
      exact t_Mo_held_29 hS hd σ  v21 (.ref x0) (.int x1) (.int x2)
theorem t_Mo_held {X : Xt} {S : Sh} (hS : ShOK S) {d : Nat} (hd : 2 ≤ d) (σ : Mm) (x0 : Nat) (x1 : Int32) (x2 : Int32) (h_x0 : tgT x0 = 12) : Rf X S (emI σ) (f_Mo_held σ x0 x1 x2) d 205 0 [.ref x0, .int x1, .int x2] [] σ := by
  obtain ⟨d1, rfl⟩ : ∃ d1, d = d1 + 1 := ⟨d - 1, by omega⟩
  exact t_Mo_held_e hS hd σ x0 x1 x2 h_x0
theorem c_206_0 : cd 206 0 = some (.aload_n 0, 1) := by decide +kernel
theorem c_206_1 : cd 206 1 = some (.getfield 9, 3) := by decide +kernel
theorem c_206_4 : cd 206 4 = some (.iconst (1), 1) := by decide +kernel
theorem c_206_5 : cd 206 5 = some (.iaload, 1) := by decide +kernel
theorem c_206_6 : cd 206 6 = some (.bipush (99), 2) := by decide +kernel
theorem c_206_8 : cd 206 8 = some (.if_icmp .ne (6), 3) := by decide +kernel
theorem c_206_11 : cd 206 11 = some (.ldc 86, 2) := by decide +kernel
theorem c_206_13 : cd 206 13 = some (.ireturn, 1) := by decide +kernel
theorem c_206_14 : cd 206 14 = some (.aload_n 0, 1) := by decide +kernel
theorem c_206_15 : cd 206 15 = some (.getfield 9, 3) := by decide +kernel
theorem c_206_18 : cd 206 18 = some (.iconst (1), 1) := by decide +kernel
theorem c_206_19 : cd 206 19 = some (.dup2, 1) := by decide +kernel
theorem c_206_20 : cd 206 20 = some (.iaload, 1) := by decide +kernel
theorem c_206_21 : cd 206 21 = some (.iconst (1), 1) := by decide +kernel
theorem c_206_22 : cd 206 22 = some (.iadd, 1) := by decide +kernel
theorem c_206_23 : cd 206 23 = some (.iastore, 1) := by decide +kernel
theorem c_206_24 : cd 206 24 = some (.aload_n 0, 1) := by decide +kernel
theorem c_206_25 : cd 206 25 = some (.getfield 9, 3) := by decide +kernel
theorem c_206_28 : cd 206 28 = some (.iconst (1), 1) := by decide +kernel
theorem c_206_29 : cd 206 29 = some (.iaload, 1) := by decide +kernel
theorem c_206_30 : cd 206 30 = some (.ireturn, 1) := by decide +kernel
def f_Mo_govern (x0 : Nat) (σ : Mm) : Option (Int32 × Mm) := (if ¬ (σ (rfT x0 0) (ix (1 : Int32))) = (99 : Int32) then (nmM (up2 σ (rfT x0 0) (ix (1 : Int32)) ((σ (rfT x0 0) (ix (1 : Int32))) + (1 : Int32))) fun σ23 => some ((σ23 (rfT x0 0) (ix (1 : Int32))), σ23)) else (some ((-1000000003 : Int32), σ)))
set_option maxRecDepth 100000 in
set_option maxHeartbeats 4000000 in
theorem t_Mo_govern {X : Xt} {S : Sh} (hS : ShOK S) {d : Nat} (hd : 0 ≤ d) (x0 : Nat) (σ : Mm) (h_x0 : tgT x0 = 12) : Rf X S emM (f_Mo_govern x0 σ) d 206 0 [.ref x0] [] σ := by
  unfold f_Mo_govern
  refine rf_ald (i := 0) (Or.inr ⟨0, rfl, rfl, rfl⟩) c_206_0 rfl ?_
  refine rf_getr hS c_206_1 rfl fl_12_9 rfl h_x0 ?_
  refine rf_iconst c_206_4 ki_1 ?_
  refine rf_iald hS c_206_5 (tf_12_0 h_x0) (lf_12_0 h_x0) (by decide) ?_
  refine rf_bipush c_206_6 kb_99 ?_
  refine rf_ite (fun hc8 => ?_) (fun hc8 => ?_)
  · refine rf_b2t c_206_8 rfl (decide_eq_true hc8) ?_
    refine rf_ald (i := 0) (Or.inr ⟨0, rfl, rfl, rfl⟩) c_206_14 rfl ?_
    refine rf_getr hS c_206_15 rfl fl_12_9 rfl h_x0 ?_
    refine rf_iconst c_206_18 ki_1 ?_
    refine rf_dup2 c_206_19 rfl rfl ?_
    refine rf_iald hS c_206_20 (tf_12_0 h_x0) (lf_12_0 h_x0) (by decide) ?_
    refine rf_iconst c_206_21 ki_1 ?_
    refine rf_iadd c_206_22 ?_
    refine rf_iast hS c_206_23 (tf_12_0 h_x0) (lf_12_0 h_x0) (by decide) ?_
    refine rf_nm (fun σ23 => ?_)
    refine rf_ald (i := 0) (Or.inr ⟨0, rfl, rfl, rfl⟩) c_206_24 rfl ?_
    refine rf_getr hS c_206_25 rfl fl_12_9 rfl h_x0 ?_
    refine rf_iconst c_206_28 ki_1 ?_
    refine rf_iald hS c_206_29 (tf_12_0 h_x0) (lf_12_0 h_x0) (by decide) ?_
    exact rf_ret c_206_30 rfl rfl rfl rfl
  · refine rf_b2f c_206_8 rfl (decide_eq_false hc8) ?_
    refine rf_ldc (Or.inl ⟨rfl, rfl⟩) c_206_11 rfl kl_12_86 ?_
    exact rf_ret c_206_13 rfl rfl rfl rfl
theorem c_207_0 : cd 207 0 = some (.iload_n 1, 1) := by decide +kernel
theorem c_207_1 : cd 207 1 = some (.iconst (0), 1) := by decide +kernel
theorem c_207_2 : cd 207 2 = some (.sipush (255), 3) := by decide +kernel
theorem c_207_5 : cd 207 5 = some (.invokestatic 82, 3) := by decide +kernel
theorem c_207_8 : cd 207 8 = some (.ifCond .eq (23), 3) := by decide +kernel
theorem c_207_11 : cd 207 11 = some (.iload_n 2, 1) := by decide +kernel
theorem c_207_12 : cd 207 12 = some (.iconst (1), 1) := by decide +kernel
theorem c_207_13 : cd 207 13 = some (.bipush (30), 2) := by decide +kernel
theorem c_207_15 : cd 207 15 = some (.invokestatic 82, 3) := by decide +kernel
theorem c_207_18 : cd 207 18 = some (.ifCond .eq (13), 3) := by decide +kernel
theorem c_207_21 : cd 207 21 = some (.iload_n 3, 1) := by decide +kernel
theorem c_207_22 : cd 207 22 = some (.iconst (0), 1) := by decide +kernel
theorem c_207_23 : cd 207 23 = some (.bipush (29), 2) := by decide +kernel
theorem c_207_25 : cd 207 25 = some (.invokestatic 82, 3) := by decide +kernel
theorem c_207_28 : cd 207 28 = some (.ifCond .ne (6), 3) := by decide +kernel
theorem c_207_31 : cd 207 31 = some (.ldc 91, 2) := by decide +kernel
theorem c_207_33 : cd 207 33 = some (.ireturn, 1) := by decide +kernel
theorem c_207_34 : cd 207 34 = some (.aload_n 0, 1) := by decide +kernel
theorem c_207_35 : cd 207 35 = some (.getfield 9, 3) := by decide +kernel
theorem c_207_38 : cd 207 38 = some (.iconst (3), 1) := by decide +kernel
theorem c_207_39 : cd 207 39 = some (.iaload, 1) := by decide +kernel
theorem c_207_40 : cd 207 40 = some (.bipush (6), 2) := by decide +kernel
theorem c_207_42 : cd 207 42 = some (.if_icmp .ne (6), 3) := by decide +kernel
theorem c_207_45 : cd 207 45 = some (.ldc 86, 2) := by decide +kernel
theorem c_207_47 : cd 207 47 = some (.ireturn, 1) := by decide +kernel
theorem c_207_48 : cd 207 48 = some (.sipush (132), 3) := by decide +kernel
theorem c_207_51 : cd 207 51 = some (.iconst (3), 1) := by decide +kernel
theorem c_207_52 : cd 207 52 = some (.aload_n 0, 1) := by decide +kernel
theorem c_207_53 : cd 207 53 = some (.getfield 9, 3) := by decide +kernel
theorem c_207_56 : cd 207 56 = some (.iconst (3), 1) := by decide +kernel
theorem c_207_57 : cd 207 57 = some (.iaload, 1) := by decide +kernel
theorem c_207_58 : cd 207 58 = some (.imul, 1) := by decide +kernel
theorem c_207_59 : cd 207 59 = some (.iadd, 1) := by decide +kernel
theorem c_207_60 : cd 207 60 = some (.istore 4, 2) := by decide +kernel
theorem c_207_62 : cd 207 62 = some (.aload_n 0, 1) := by decide +kernel
theorem c_207_63 : cd 207 63 = some (.getfield 9, 3) := by decide +kernel
theorem c_207_66 : cd 207 66 = some (.iload 4, 2) := by decide +kernel
theorem c_207_68 : cd 207 68 = some (.iload_n 1, 1) := by decide +kernel
theorem c_207_69 : cd 207 69 = some (.iastore, 1) := by decide +kernel
theorem c_207_70 : cd 207 70 = some (.aload_n 0, 1) := by decide +kernel
theorem c_207_71 : cd 207 71 = some (.getfield 9, 3) := by decide +kernel
theorem c_207_74 : cd 207 74 = some (.iload 4, 2) := by decide +kernel
theorem c_207_76 : cd 207 76 = some (.iconst (1), 1) := by decide +kernel
theorem c_207_77 : cd 207 77 = some (.iadd, 1) := by decide +kernel
theorem c_207_78 : cd 207 78 = some (.iload_n 2, 1) := by decide +kernel
theorem c_207_79 : cd 207 79 = some (.iastore, 1) := by decide +kernel
theorem c_207_80 : cd 207 80 = some (.aload_n 0, 1) := by decide +kernel
theorem c_207_81 : cd 207 81 = some (.getfield 9, 3) := by decide +kernel
theorem c_207_84 : cd 207 84 = some (.iload 4, 2) := by decide +kernel
theorem c_207_86 : cd 207 86 = some (.iconst (2), 1) := by decide +kernel
theorem c_207_87 : cd 207 87 = some (.iadd, 1) := by decide +kernel
theorem c_207_88 : cd 207 88 = some (.iload_n 3, 1) := by decide +kernel
theorem c_207_89 : cd 207 89 = some (.iastore, 1) := by decide +kernel
theorem c_207_90 : cd 207 90 = some (.iconst (0), 1) := by decide +kernel
theorem c_207_91 : cd 207 91 = some (.istore 5, 2) := by decide +kernel
theorem c_207_93 : cd 207 93 = some (.iload 5, 2) := by decide +kernel
theorem c_207_95 : cd 207 95 = some (.bipush (6), 2) := by decide +kernel
theorem c_207_97 : cd 207 97 = some (.if_icmp .ge (53), 3) := by decide +kernel
theorem c_207_100 : cd 207 100 = some (.aload_n 0, 1) := by decide +kernel
theorem c_207_101 : cd 207 101 = some (.getfield 9, 3) := by decide +kernel
theorem c_207_104 : cd 207 104 = some (.sipush (150), 3) := by decide +kernel
theorem c_207_107 : cd 207 107 = some (.bipush (6), 2) := by decide +kernel
theorem c_207_109 : cd 207 109 = some (.aload_n 0, 1) := by decide +kernel
theorem c_207_110 : cd 207 110 = some (.getfield 9, 3) := by decide +kernel
theorem c_207_113 : cd 207 113 = some (.iconst (3), 1) := by decide +kernel
theorem c_207_114 : cd 207 114 = some (.iaload, 1) := by decide +kernel
theorem c_207_115 : cd 207 115 = some (.imul, 1) := by decide +kernel
theorem c_207_116 : cd 207 116 = some (.iadd, 1) := by decide +kernel
theorem c_207_117 : cd 207 117 = some (.iload 5, 2) := by decide +kernel
theorem c_207_119 : cd 207 119 = some (.iadd, 1) := by decide +kernel
theorem c_207_120 : cd 207 120 = some (.iconst (0), 1) := by decide +kernel
theorem c_207_121 : cd 207 121 = some (.iastore, 1) := by decide +kernel
theorem c_207_122 : cd 207 122 = some (.aload_n 0, 1) := by decide +kernel
theorem c_207_123 : cd 207 123 = some (.getfield 9, 3) := by decide +kernel
theorem c_207_126 : cd 207 126 = some (.sipush (150), 3) := by decide +kernel
theorem c_207_129 : cd 207 129 = some (.bipush (6), 2) := by decide +kernel
theorem c_207_131 : cd 207 131 = some (.iload 5, 2) := by decide +kernel
theorem c_207_133 : cd 207 133 = some (.imul, 1) := by decide +kernel
theorem c_207_134 : cd 207 134 = some (.iadd, 1) := by decide +kernel
theorem c_207_135 : cd 207 135 = some (.aload_n 0, 1) := by decide +kernel
theorem c_207_136 : cd 207 136 = some (.getfield 9, 3) := by decide +kernel
theorem c_207_139 : cd 207 139 = some (.iconst (3), 1) := by decide +kernel
theorem c_207_140 : cd 207 140 = some (.iaload, 1) := by decide +kernel
theorem c_207_141 : cd 207 141 = some (.iadd, 1) := by decide +kernel
theorem c_207_142 : cd 207 142 = some (.iconst (0), 1) := by decide +kernel
theorem c_207_143 : cd 207 143 = some (.iastore, 1) := by decide +kernel
theorem c_207_144 : cd 207 144 = some (.iinc 5 (1), 3) := by decide +kernel
theorem c_207_147 : cd 207 147 = some (.goto (-54), 3) := by decide +kernel
theorem c_207_150 : cd 207 150 = some (.aload_n 0, 1) := by decide +kernel
theorem c_207_151 : cd 207 151 = some (.getfield 9, 3) := by decide +kernel
theorem c_207_154 : cd 207 154 = some (.iconst (3), 1) := by decide +kernel
theorem c_207_155 : cd 207 155 = some (.dup2, 1) := by decide +kernel
theorem c_207_156 : cd 207 156 = some (.iaload, 1) := by decide +kernel
theorem c_207_157 : cd 207 157 = some (.iconst (1), 1) := by decide +kernel
theorem c_207_158 : cd 207 158 = some (.iadd, 1) := by decide +kernel
theorem c_207_159 : cd 207 159 = some (.iastore, 1) := by decide +kernel
theorem c_207_160 : cd 207 160 = some (.aload_n 0, 1) := by decide +kernel
theorem c_207_161 : cd 207 161 = some (.getfield 9, 3) := by decide +kernel
theorem c_207_164 : cd 207 164 = some (.iconst (3), 1) := by decide +kernel
theorem c_207_165 : cd 207 165 = some (.iaload, 1) := by decide +kernel
theorem c_207_166 : cd 207 166 = some (.iconst (1), 1) := by decide +kernel
theorem c_207_167 : cd 207 167 = some (.isub, 1) := by decide +kernel
theorem c_207_168 : cd 207 168 = some (.ireturn, 1) := by decide +kernel
def f_Mo_table_31 (σ : Mm) : Option (Int32 × Mm) := some ((-1000000001 : Int32), σ)
set_option maxRecDepth 100000 in
set_option maxHeartbeats 4000000 in
theorem t_Mo_table_31 {X : Xt} {S : Sh} (hS : ShOK S) {d : Nat} (hd : 1 ≤ d + 1) (u0 : Value) (u1 : Value) (u2 : Value) (u3 : Value) (u4 : Value) (u5 : Value) (σ : Mm) : Rf X S emM (f_Mo_table_31 σ) (d + 1) 207 31 [u0, u1, u2, u3, u4, u5] [] σ := by
  unfold f_Mo_table_31
  refine rf_ldc (Or.inl ⟨rfl, rfl⟩) c_207_31 rfl kl_12_91 ?_
  exact rf_ret c_207_33 rfl rfl rfl rfl
def f_Mo_table_93 : Nat → Nat → Int32 → Mm → Option (Int32 × Mm)
  | 0, _, _, _ => none
  | n + 1, x0, x5, σ => (if (6 : Int32) ≤ x5 then (nmM (up2 σ (rfT x0 0) (ix (3 : Int32)) ((σ (rfT x0 0) (ix (3 : Int32))) + (1 : Int32))) fun σ159 => some (((σ159 (rfT x0 0) (ix (3 : Int32))) - (1 : Int32)), σ159)) else (if inbB (((150 : Int32) + ((6 : Int32) * (σ (rfT x0 0) (ix (3 : Int32))))) + x5) 5528 = true then nmM (up2 σ (rfT x0 0) (ix (((150 : Int32) + ((6 : Int32) * (σ (rfT x0 0) (ix (3 : Int32))))) + x5)) (0 : Int32)) fun σ121 => if inbB (((150 : Int32) + ((6 : Int32) * x5)) + (σ121 (rfT x0 0) (ix (3 : Int32)))) 5528 = true then nmM (up2 σ121 (rfT x0 0) (ix (((150 : Int32) + ((6 : Int32) * x5)) + (σ121 (rfT x0 0) (ix (3 : Int32))))) (0 : Int32)) fun σ143 => f_Mo_table_93  n x0 (x5 + (1 : Int32)) σ143 else none else none))
set_option maxRecDepth 100000 in
set_option maxHeartbeats 4000000 in
theorem t_Mo_table_93 {X : Xt} {S : Sh} (hS : ShOK S) {d : Nat} (hd : 1 ≤ d + 1) : ∀ (n : Nat) (x0 : Nat) (x5 : Int32) (u1 : Value) (u2 : Value) (u3 : Value) (u4 : Value) (σ : Mm) (h_x0 : tgT x0 = 12), Rf X S emM (f_Mo_table_93 n x0 x5 σ) (d + 1) 207 93 [.ref x0, u1, u2, u3, u4, .int x5] [] σ := by
  intro n
  induction n with
  | zero => intro x0 x5 u1 u2 u3 u4 σ h_x0; exact rf_none
  | succ n ih =>
    intro x0 x5 u1 u2 u3 u4 σ h_x0
    rw [f_Mo_table_93]
    refine rf_ild (i := 5) (Or.inl ⟨rfl, rfl⟩) c_207_93 rfl ?_
    refine rf_bipush c_207_95 kb_6 ?_
    refine rf_ite (fun hc97 => ?_) (fun hc97 => ?_)
    · refine rf_b2t c_207_97 rfl (decide_eq_true hc97) ?_
      refine rf_ald (i := 0) (Or.inr ⟨0, rfl, rfl, rfl⟩) c_207_150 rfl ?_
      refine rf_getr hS c_207_151 rfl fl_12_9 rfl h_x0 ?_
      refine rf_iconst c_207_154 ki_3 ?_
      refine rf_dup2 c_207_155 rfl rfl ?_
      refine rf_iald hS c_207_156 (tf_12_0 h_x0) (lf_12_0 h_x0) (by decide) ?_
      refine rf_iconst c_207_157 ki_1 ?_
      refine rf_iadd c_207_158 ?_
      refine rf_iast hS c_207_159 (tf_12_0 h_x0) (lf_12_0 h_x0) (by decide) ?_
      refine rf_nm (fun σ159 => ?_)
      refine rf_ald (i := 0) (Or.inr ⟨0, rfl, rfl, rfl⟩) c_207_160 rfl ?_
      refine rf_getr hS c_207_161 rfl fl_12_9 rfl h_x0 ?_
      refine rf_iconst c_207_164 ki_3 ?_
      refine rf_iald hS c_207_165 (tf_12_0 h_x0) (lf_12_0 h_x0) (by decide) ?_
      refine rf_iconst c_207_166 ki_1 ?_
      refine rf_isub c_207_167 ?_
      exact rf_ret c_207_168 rfl rfl rfl rfl
    · refine rf_b2f c_207_97 rfl (decide_eq_false hc97) ?_
      refine rf_ald (i := 0) (Or.inr ⟨0, rfl, rfl, rfl⟩) c_207_100 rfl ?_
      refine rf_getr hS c_207_101 rfl fl_12_9 rfl h_x0 ?_
      refine rf_sipush c_207_104 ks_150 ?_
      refine rf_bipush c_207_107 kb_6 ?_
      refine rf_ald (i := 0) (Or.inr ⟨0, rfl, rfl, rfl⟩) c_207_109 rfl ?_
      refine rf_getr hS c_207_110 rfl fl_12_9 rfl h_x0 ?_
      refine rf_iconst c_207_113 ki_3 ?_
      refine rf_iald hS c_207_114 (tf_12_0 h_x0) (lf_12_0 h_x0) (by decide) ?_
      refine rf_imul c_207_115 ?_
      refine rf_iadd c_207_116 ?_
      refine rf_ild (i := 5) (Or.inl ⟨rfl, rfl⟩) c_207_117 rfl ?_
      refine rf_iadd c_207_119 ?_
      refine rf_iconst c_207_120 ki_0 ?_
      refine rf_ite (fun hb121 => ?_) (fun _ => rf_none)
      refine rf_iast hS c_207_121 (tf_12_0 h_x0) (lf_12_0 h_x0) hb121 ?_
      refine rf_nm (fun σ121 => ?_)
      refine rf_ald (i := 0) (Or.inr ⟨0, rfl, rfl, rfl⟩) c_207_122 rfl ?_
      refine rf_getr hS c_207_123 rfl fl_12_9 rfl h_x0 ?_
      refine rf_sipush c_207_126 ks_150 ?_
      refine rf_bipush c_207_129 kb_6 ?_
      refine rf_ild (i := 5) (Or.inl ⟨rfl, rfl⟩) c_207_131 rfl ?_
      refine rf_imul c_207_133 ?_
      refine rf_iadd c_207_134 ?_
      refine rf_ald (i := 0) (Or.inr ⟨0, rfl, rfl, rfl⟩) c_207_135 rfl ?_
      refine rf_getr hS c_207_136 rfl fl_12_9 rfl h_x0 ?_
      refine rf_iconst c_207_139 ki_3 ?_
      refine rf_iald hS c_207_140 (tf_12_0 h_x0) (lf_12_0 h_x0) (by decide) ?_
      refine rf_iadd c_207_141 ?_
      refine rf_iconst c_207_142 ki_0 ?_
      refine rf_ite (fun hb143 => ?_) (fun _ => rf_none)
      refine rf_iast hS c_207_143 (tf_12_0 h_x0) (lf_12_0 h_x0) hb143 ?_
      refine rf_nm (fun σ143 => ?_)
      refine rf_iinc c_207_144 rfl ki_1 rfl ?_
      refine rf_goto c_207_147 rfl ?_
      exact ih x0 (x5 + (1 : Int32)) (u1) (u2) (u3) (u4) σ143 h_x0
def f_Mo_table (x0 : Nat) (x1 : Int32) (x2 : Int32) (x3 : Int32) (σ : Mm) : Option (Int32 × Mm) := (f_Mo_in σ x1 (0 : Int32) (255 : Int32)).bind fun v5 => (if v5 = 0 then (f_Mo_table_31  σ) else ((f_Mo_in σ x2 (1 : Int32) (30 : Int32)).bind fun v15 => (if v15 = 0 then (f_Mo_table_31  σ) else ((f_Mo_in σ x3 (0 : Int32) (29 : Int32)).bind fun v25 => (if ¬ v25 = 0 then (if ¬ (σ (rfT x0 0) (ix (3 : Int32))) = (6 : Int32) then (if inbB ((132 : Int32) + ((3 : Int32) * (σ (rfT x0 0) (ix (3 : Int32))))) 5528 = true then nmM (up2 σ (rfT x0 0) (ix ((132 : Int32) + ((3 : Int32) * (σ (rfT x0 0) (ix (3 : Int32)))))) x1) fun σ69 => if inbB (((132 : Int32) + ((3 : Int32) * (σ (rfT x0 0) (ix (3 : Int32))))) + (1 : Int32)) 5528 = true then nmM (up2 σ69 (rfT x0 0) (ix (((132 : Int32) + ((3 : Int32) * (σ (rfT x0 0) (ix (3 : Int32))))) + (1 : Int32))) x2) fun σ79 => if inbB (((132 : Int32) + ((3 : Int32) * (σ (rfT x0 0) (ix (3 : Int32))))) + (2 : Int32)) 5528 = true then nmM (up2 σ79 (rfT x0 0) (ix (((132 : Int32) + ((3 : Int32) * (σ (rfT x0 0) (ix (3 : Int32))))) + (2 : Int32))) x3) fun σ89 => f_Mo_table_93  NN x0 (0 : Int32) σ89 else none else none else none) else (some ((-1000000003 : Int32), σ))) else (f_Mo_table_31  σ))))))
set_option maxRecDepth 100000 in
set_option maxHeartbeats 4000000 in
theorem t_Mo_table_e {X : Xt} {S : Sh} (hS : ShOK S) {d : Nat} (hd : 1 ≤ d + 1) (x0 : Nat) (x1 : Int32) (x2 : Int32) (x3 : Int32) (σ : Mm) (h_x0 : tgT x0 = 12) : Rf X S emM (f_Mo_table x0 x1 x2 x3 σ) (d + 1) 207 0 [.ref x0, .int x1, .int x2, .int x3, unset0, unset0] [] σ := by
  unfold f_Mo_table
  refine rf_ild (i := 1) (Or.inr ⟨1, rfl, rfl, rfl⟩) c_207_0 rfl ?_
  refine rf_iconst c_207_1 ki_0 ?_
  refine rf_sipush c_207_2 ks_255 ?_
  refine rf_callI (as := [.int x1, .int (0 : Int32), .int (255 : Int32)]) (kd := 0) c_207_5 rfl (by decide) rfl ml_12_82 (by decide) rfl (rcv_0 rfl) (Nat.zero_le _) rfl rfl (t_Mo_in hS (by omega) σ x1 (0 : Int32) (255 : Int32)) (fun v5 => ?_)
  refine rf_ite (fun hc8 => ?_) (fun hc8 => ?_)
  · refine rf_b1t c_207_8 rfl (decide_eq_true hc8) ?_
    exact t_Mo_table_31 hS hd  (.ref x0) (.int x1) (.int x2) (.int x3) (unset0) (unset0) σ
  · refine rf_b1f c_207_8 rfl (decide_eq_false hc8) ?_
    refine rf_ild (i := 2) (Or.inr ⟨2, rfl, rfl, rfl⟩) c_207_11 rfl ?_
    refine rf_iconst c_207_12 ki_1 ?_
    refine rf_bipush c_207_13 kb_30 ?_
    refine rf_callI (as := [.int x2, .int (1 : Int32), .int (30 : Int32)]) (kd := 0) c_207_15 rfl (by decide) rfl ml_12_82 (by decide) rfl (rcv_0 rfl) (Nat.zero_le _) rfl rfl (t_Mo_in hS (by omega) σ x2 (1 : Int32) (30 : Int32)) (fun v15 => ?_)
    refine rf_ite (fun hc18 => ?_) (fun hc18 => ?_)
    · refine rf_b1t c_207_18 rfl (decide_eq_true hc18) ?_
      exact t_Mo_table_31 hS hd  (.ref x0) (.int x1) (.int x2) (.int x3) (unset0) (unset0) σ
    · refine rf_b1f c_207_18 rfl (decide_eq_false hc18) ?_
      refine rf_ild (i := 3) (Or.inr ⟨3, rfl, rfl, rfl⟩) c_207_21 rfl ?_
      refine rf_iconst c_207_22 ki_0 ?_
      refine rf_bipush c_207_23 kb_29 ?_
      refine rf_callI (as := [.int x3, .int (0 : Int32), .int (29 : Int32)]) (kd := 0) c_207_25 rfl (by decide) rfl ml_12_82 (by decide) rfl (rcv_0 rfl) (Nat.zero_le _) rfl rfl (t_Mo_in hS (by omega) σ x3 (0 : Int32) (29 : Int32)) (fun v25 => ?_)
      refine rf_ite (fun hc28 => ?_) (fun hc28 => ?_)
      · refine rf_b1t c_207_28 rfl (decide_eq_true hc28) ?_
        refine rf_ald (i := 0) (Or.inr ⟨0, rfl, rfl, rfl⟩) c_207_34 rfl ?_
        refine rf_getr hS c_207_35 rfl fl_12_9 rfl h_x0 ?_
        refine rf_iconst c_207_38 ki_3 ?_
        refine rf_iald hS c_207_39 (tf_12_0 h_x0) (lf_12_0 h_x0) (by decide) ?_
        refine rf_bipush c_207_40 kb_6 ?_
        refine rf_ite (fun hc42 => ?_) (fun hc42 => ?_)
        · refine rf_b2t c_207_42 rfl (decide_eq_true hc42) ?_
          refine rf_sipush c_207_48 ks_132 ?_
          refine rf_iconst c_207_51 ki_3 ?_
          refine rf_ald (i := 0) (Or.inr ⟨0, rfl, rfl, rfl⟩) c_207_52 rfl ?_
          refine rf_getr hS c_207_53 rfl fl_12_9 rfl h_x0 ?_
          refine rf_iconst c_207_56 ki_3 ?_
          refine rf_iald hS c_207_57 (tf_12_0 h_x0) (lf_12_0 h_x0) (by decide) ?_
          refine rf_imul c_207_58 ?_
          refine rf_iadd c_207_59 ?_
          refine rf_ist (i := 4) (Or.inl ⟨rfl, rfl⟩) c_207_60 (Nat.le_of_ble_eq_true rfl) rfl ?_
          refine rf_ald (i := 0) (Or.inr ⟨0, rfl, rfl, rfl⟩) c_207_62 rfl ?_
          refine rf_getr hS c_207_63 rfl fl_12_9 rfl h_x0 ?_
          refine rf_ild (i := 4) (Or.inl ⟨rfl, rfl⟩) c_207_66 rfl ?_
          refine rf_ild (i := 1) (Or.inr ⟨1, rfl, rfl, rfl⟩) c_207_68 rfl ?_
          refine rf_ite (fun hb69 => ?_) (fun _ => rf_none)
          refine rf_iast hS c_207_69 (tf_12_0 h_x0) (lf_12_0 h_x0) hb69 ?_
          refine rf_nm (fun σ69 => ?_)
          refine rf_ald (i := 0) (Or.inr ⟨0, rfl, rfl, rfl⟩) c_207_70 rfl ?_
          refine rf_getr hS c_207_71 rfl fl_12_9 rfl h_x0 ?_
          refine rf_ild (i := 4) (Or.inl ⟨rfl, rfl⟩) c_207_74 rfl ?_
          refine rf_iconst c_207_76 ki_1 ?_
          refine rf_iadd c_207_77 ?_
          refine rf_ild (i := 2) (Or.inr ⟨2, rfl, rfl, rfl⟩) c_207_78 rfl ?_
          refine rf_ite (fun hb79 => ?_) (fun _ => rf_none)
          refine rf_iast hS c_207_79 (tf_12_0 h_x0) (lf_12_0 h_x0) hb79 ?_
          refine rf_nm (fun σ79 => ?_)
          refine rf_ald (i := 0) (Or.inr ⟨0, rfl, rfl, rfl⟩) c_207_80 rfl ?_
          refine rf_getr hS c_207_81 rfl fl_12_9 rfl h_x0 ?_
          refine rf_ild (i := 4) (Or.inl ⟨rfl, rfl⟩) c_207_84 rfl ?_
          refine rf_iconst c_207_86 ki_2 ?_
          refine rf_iadd c_207_87 ?_
          refine rf_ild (i := 3) (Or.inr ⟨3, rfl, rfl, rfl⟩) c_207_88 rfl ?_
          refine rf_ite (fun hb89 => ?_) (fun _ => rf_none)
          refine rf_iast hS c_207_89 (tf_12_0 h_x0) (lf_12_0 h_x0) hb89 ?_
          refine rf_nm (fun σ89 => ?_)
          refine rf_iconst c_207_90 ki_0 ?_
          refine rf_ist (i := 5) (Or.inl ⟨rfl, rfl⟩) c_207_91 (Nat.le_of_ble_eq_true rfl) rfl ?_
          exact t_Mo_table_93 hS hd  NN x0 (0 : Int32) (.int x1) (.int x2) (.int x3) (.int ((132 : Int32) + ((3 : Int32) * (σ (rfT x0 0) (ix (3 : Int32)))))) σ89 h_x0
        · refine rf_b2f c_207_42 rfl (decide_eq_false hc42) ?_
          refine rf_ldc (Or.inl ⟨rfl, rfl⟩) c_207_45 rfl kl_12_86 ?_
          exact rf_ret c_207_47 rfl rfl rfl rfl
      · refine rf_b1f c_207_28 rfl (decide_eq_false hc28) ?_
        exact t_Mo_table_31 hS hd  (.ref x0) (.int x1) (.int x2) (.int x3) (unset0) (unset0) σ
theorem t_Mo_table {X : Xt} {S : Sh} (hS : ShOK S) {d : Nat} (hd : 1 ≤ d) (x0 : Nat) (x1 : Int32) (x2 : Int32) (x3 : Int32) (σ : Mm) (h_x0 : tgT x0 = 12) : Rf X S emM (f_Mo_table x0 x1 x2 x3 σ) d 207 0 [.ref x0, .int x1, .int x2, .int x3, unset0, unset0] [] σ := by
  obtain ⟨d1, rfl⟩ : ∃ d1, d = d1 + 1 := ⟨d - 1, by omega⟩
  exact t_Mo_table_e hS hd x0 x1 x2 x3 σ h_x0
theorem c_208_0 : cd 208 0 = some (.aload_n 0, 1) := by decide +kernel
theorem c_208_1 : cd 208 1 = some (.iload_n 1, 1) := by decide +kernel
theorem c_208_2 : cd 208 2 = some (.invokevirtual 103, 3) := by decide +kernel
theorem c_208_5 : cd 208 5 = some (.ifCond .eq (14), 3) := by decide +kernel
theorem c_208_8 : cd 208 8 = some (.iload_n 2, 1) := by decide +kernel
theorem c_208_9 : cd 208 9 = some (.iconst (0), 1) := by decide +kernel
theorem c_208_10 : cd 208 10 = some (.sipush (255), 3) := by decide +kernel
theorem c_208_13 : cd 208 13 = some (.invokestatic 82, 3) := by decide +kernel
theorem c_208_16 : cd 208 16 = some (.ifCond .ne (6), 3) := by decide +kernel
theorem c_208_19 : cd 208 19 = some (.ldc 91, 2) := by decide +kernel
theorem c_208_21 : cd 208 21 = some (.ireturn, 1) := by decide +kernel
theorem c_208_22 : cd 208 22 = some (.aload_n 0, 1) := by decide +kernel
theorem c_208_23 : cd 208 23 = some (.getfield 9, 3) := by decide +kernel
theorem c_208_26 : cd 208 26 = some (.sipush (132), 3) := by decide +kernel
theorem c_208_29 : cd 208 29 = some (.iconst (3), 1) := by decide +kernel
theorem c_208_30 : cd 208 30 = some (.iload_n 1, 1) := by decide +kernel
theorem c_208_31 : cd 208 31 = some (.imul, 1) := by decide +kernel
theorem c_208_32 : cd 208 32 = some (.iadd, 1) := by decide +kernel
theorem c_208_33 : cd 208 33 = some (.iaload, 1) := by decide +kernel
theorem c_208_34 : cd 208 34 = some (.istore_n 3, 1) := by decide +kernel
theorem c_208_35 : cd 208 35 = some (.aload_n 0, 1) := by decide +kernel
theorem c_208_36 : cd 208 36 = some (.getfield 9, 3) := by decide +kernel
theorem c_208_39 : cd 208 39 = some (.sipush (132), 3) := by decide +kernel
theorem c_208_42 : cd 208 42 = some (.iconst (3), 1) := by decide +kernel
theorem c_208_43 : cd 208 43 = some (.iload_n 1, 1) := by decide +kernel
theorem c_208_44 : cd 208 44 = some (.imul, 1) := by decide +kernel
theorem c_208_45 : cd 208 45 = some (.iadd, 1) := by decide +kernel
theorem c_208_46 : cd 208 46 = some (.iload_n 2, 1) := by decide +kernel
theorem c_208_47 : cd 208 47 = some (.iastore, 1) := by decide +kernel
theorem c_208_48 : cd 208 48 = some (.iload_n 3, 1) := by decide +kernel
theorem c_208_49 : cd 208 49 = some (.ireturn, 1) := by decide +kernel
def f_Mo_seats_19 (σ : Mm) : Option (Int32 × Mm) := some ((-1000000001 : Int32), σ)
set_option maxRecDepth 100000 in
set_option maxHeartbeats 4000000 in
theorem t_Mo_seats_19 {X : Xt} {S : Sh} (hS : ShOK S) {d : Nat} (hd : 2 ≤ d + 1) (u0 : Value) (u1 : Value) (u2 : Value) (u3 : Value) (σ : Mm) : Rf X S emM (f_Mo_seats_19 σ) (d + 1) 208 19 [u0, u1, u2, u3] [] σ := by
  unfold f_Mo_seats_19
  refine rf_ldc (Or.inl ⟨rfl, rfl⟩) c_208_19 rfl kl_12_91 ?_
  exact rf_ret c_208_21 rfl rfl rfl rfl
def f_Mo_seats (x0 : Nat) (x1 : Int32) (x2 : Int32) (σ : Mm) : Option (Int32 × Mm) := (f_Mo_isTable σ x0 x1).bind fun v2 => (if v2 = 0 then (f_Mo_seats_19  σ) else ((f_Mo_in σ x2 (0 : Int32) (255 : Int32)).bind fun v13 => (if ¬ v13 = 0 then (if inbB ((132 : Int32) + ((3 : Int32) * x1)) 5528 = true then if inbB ((132 : Int32) + ((3 : Int32) * x1)) 5528 = true then nmM (up2 σ (rfT x0 0) (ix ((132 : Int32) + ((3 : Int32) * x1))) x2) fun σ47 => some ((σ (rfT x0 0) (ix ((132 : Int32) + ((3 : Int32) * x1)))), σ47) else none else none) else (f_Mo_seats_19  σ))))
set_option maxRecDepth 100000 in
set_option maxHeartbeats 4000000 in
theorem t_Mo_seats_e {X : Xt} {S : Sh} (hS : ShOK S) {d : Nat} (hd : 2 ≤ d + 1) (x0 : Nat) (x1 : Int32) (x2 : Int32) (σ : Mm) (h_x0 : tgT x0 = 12) : Rf X S emM (f_Mo_seats x0 x1 x2 σ) (d + 1) 208 0 [.ref x0, .int x1, .int x2, unset0] [] σ := by
  unfold f_Mo_seats
  refine rf_ald (i := 0) (Or.inr ⟨0, rfl, rfl, rfl⟩) c_208_0 rfl ?_
  refine rf_ild (i := 1) (Or.inr ⟨1, rfl, rfl, rfl⟩) c_208_1 rfl ?_
  refine rf_callI (as := [.ref x0, .int x1]) (kd := 1) c_208_2 rfl (by decide) rfl ml_12_103 (by decide) rfl (rcv_1 hS rfl rfl h_x0 (by decide)) (Nat.zero_le _) rfl rfl (t_Mo_isTable hS (by omega) σ x0 x1 h_x0) (fun v2 => ?_)
  refine rf_ite (fun hc5 => ?_) (fun hc5 => ?_)
  · refine rf_b1t c_208_5 rfl (decide_eq_true hc5) ?_
    exact t_Mo_seats_19 hS hd  (.ref x0) (.int x1) (.int x2) (unset0) σ
  · refine rf_b1f c_208_5 rfl (decide_eq_false hc5) ?_
    refine rf_ild (i := 2) (Or.inr ⟨2, rfl, rfl, rfl⟩) c_208_8 rfl ?_
    refine rf_iconst c_208_9 ki_0 ?_
    refine rf_sipush c_208_10 ks_255 ?_
    refine rf_callI (as := [.int x2, .int (0 : Int32), .int (255 : Int32)]) (kd := 0) c_208_13 rfl (by decide) rfl ml_12_82 (by decide) rfl (rcv_0 rfl) (Nat.zero_le _) rfl rfl (t_Mo_in hS (by omega) σ x2 (0 : Int32) (255 : Int32)) (fun v13 => ?_)
    refine rf_ite (fun hc16 => ?_) (fun hc16 => ?_)
    · refine rf_b1t c_208_16 rfl (decide_eq_true hc16) ?_
      refine rf_ald (i := 0) (Or.inr ⟨0, rfl, rfl, rfl⟩) c_208_22 rfl ?_
      refine rf_getr hS c_208_23 rfl fl_12_9 rfl h_x0 ?_
      refine rf_sipush c_208_26 ks_132 ?_
      refine rf_iconst c_208_29 ki_3 ?_
      refine rf_ild (i := 1) (Or.inr ⟨1, rfl, rfl, rfl⟩) c_208_30 rfl ?_
      refine rf_imul c_208_31 ?_
      refine rf_iadd c_208_32 ?_
      refine rf_ite (fun hb33 => ?_) (fun _ => rf_none)
      refine rf_iald hS c_208_33 (tf_12_0 h_x0) (lf_12_0 h_x0) hb33 ?_
      refine rf_ist (i := 3) (Or.inr ⟨3, rfl, rfl, rfl⟩) c_208_34 (Nat.le_of_ble_eq_true rfl) rfl ?_
      refine rf_ald (i := 0) (Or.inr ⟨0, rfl, rfl, rfl⟩) c_208_35 rfl ?_
      refine rf_getr hS c_208_36 rfl fl_12_9 rfl h_x0 ?_
      refine rf_sipush c_208_39 ks_132 ?_
      refine rf_iconst c_208_42 ki_3 ?_
      refine rf_ild (i := 1) (Or.inr ⟨1, rfl, rfl, rfl⟩) c_208_43 rfl ?_
      refine rf_imul c_208_44 ?_
      refine rf_iadd c_208_45 ?_
      refine rf_ild (i := 2) (Or.inr ⟨2, rfl, rfl, rfl⟩) c_208_46 rfl ?_
      refine rf_ite (fun hb47 => ?_) (fun _ => rf_none)
      refine rf_iast hS c_208_47 (tf_12_0 h_x0) (lf_12_0 h_x0) hb47 ?_
      refine rf_nm (fun σ47 => ?_)
      refine rf_ild (i := 3) (Or.inr ⟨3, rfl, rfl, rfl⟩) c_208_48 rfl ?_
      exact rf_ret c_208_49 rfl rfl rfl rfl
    · refine rf_b1f c_208_16 rfl (decide_eq_false hc16) ?_
      exact t_Mo_seats_19 hS hd  (.ref x0) (.int x1) (.int x2) (unset0) σ
theorem t_Mo_seats {X : Xt} {S : Sh} (hS : ShOK S) {d : Nat} (hd : 2 ≤ d) (x0 : Nat) (x1 : Int32) (x2 : Int32) (σ : Mm) (h_x0 : tgT x0 = 12) : Rf X S emM (f_Mo_seats x0 x1 x2 σ) d 208 0 [.ref x0, .int x1, .int x2, unset0] [] σ := by
  obtain ⟨d1, rfl⟩ : ∃ d1, d = d1 + 1 := ⟨d - 1, by omega⟩
  exact t_Mo_seats_e hS hd x0 x1 x2 σ h_x0
theorem c_209_0 : cd 209 0 = some (.iload_n 2, 1) := by decide +kernel
theorem c_209_1 : cd 209 1 = some (.aload_n 0, 1) := by decide +kernel
theorem c_209_2 : cd 209 2 = some (.getfield 9, 3) := by decide +kernel
theorem c_209_5 : cd 209 5 = some (.sipush (132), 3) := by decide +kernel
theorem c_209_8 : cd 209 8 = some (.iconst (3), 1) := by decide +kernel
theorem c_209_9 : cd 209 9 = some (.iload_n 1, 1) := by decide +kernel
theorem c_209_10 : cd 209 10 = some (.imul, 1) := by decide +kernel
theorem c_209_11 : cd 209 11 = some (.iadd, 1) := by decide +kernel
theorem c_209_12 : cd 209 12 = some (.iconst (2), 1) := by decide +kernel
theorem c_209_13 : cd 209 13 = some (.iadd, 1) := by decide +kernel
theorem c_209_14 : cd 209 14 = some (.iaload, 1) := by decide +kernel
theorem c_209_15 : cd 209 15 = some (.isub, 1) := by decide +kernel
theorem c_209_16 : cd 209 16 = some (.istore_n 3, 1) := by decide +kernel
theorem c_209_17 : cd 209 17 = some (.iload_n 3, 1) := by decide +kernel
theorem c_209_18 : cd 209 18 = some (.ifCond .lt (26), 3) := by decide +kernel
theorem c_209_21 : cd 209 21 = some (.iload_n 3, 1) := by decide +kernel
theorem c_209_22 : cd 209 22 = some (.aload_n 0, 1) := by decide +kernel
theorem c_209_23 : cd 209 23 = some (.getfield 9, 3) := by decide +kernel
theorem c_209_26 : cd 209 26 = some (.sipush (132), 3) := by decide +kernel
theorem c_209_29 : cd 209 29 = some (.iconst (3), 1) := by decide +kernel
theorem c_209_30 : cd 209 30 = some (.iload_n 1, 1) := by decide +kernel
theorem c_209_31 : cd 209 31 = some (.imul, 1) := by decide +kernel
theorem c_209_32 : cd 209 32 = some (.iadd, 1) := by decide +kernel
theorem c_209_33 : cd 209 33 = some (.iconst (1), 1) := by decide +kernel
theorem c_209_34 : cd 209 34 = some (.iadd, 1) := by decide +kernel
theorem c_209_35 : cd 209 35 = some (.iaload, 1) := by decide +kernel
theorem c_209_36 : cd 209 36 = some (.irem, 1) := by decide +kernel
theorem c_209_37 : cd 209 37 = some (.ifCond .ne (7), 3) := by decide +kernel
theorem c_209_40 : cd 209 40 = some (.iconst (1), 1) := by decide +kernel
theorem c_209_41 : cd 209 41 = some (.goto (4), 3) := by decide +kernel
theorem c_209_44 : cd 209 44 = some (.iconst (0), 1) := by decide +kernel
theorem c_209_45 : cd 209 45 = some (.ireturn, 1) := by decide +kernel
def f_Mo_sitsOn_45 (σ : Mm) (y0 : Int32) : Option Int32 := if zB y0 = true then some y0 else none
set_option maxRecDepth 100000 in
set_option maxHeartbeats 4000000 in
theorem t_Mo_sitsOn_45 {X : Xt} {S : Sh} (hS : ShOK S) {d : Nat} (hd : 0 ≤ d) (σ : Mm) (y0 : Int32) (u0 : Value) (u1 : Value) (u2 : Value) (u3 : Value) : Rf X S (emI σ) (f_Mo_sitsOn_45 σ y0) d 209 45 [u0, u1, u2, u3] [.int y0] σ := by
  unfold f_Mo_sitsOn_45
  refine rf_ite (fun hq45 => ?_) (fun _ => rf_none)
  exact rf_ret c_209_45 rfl (zB_n hq45) rfl rfl
def f_Mo_sitsOn_44 (σ : Mm) : Option Int32 := f_Mo_sitsOn_45 σ (0 : Int32)
set_option maxRecDepth 100000 in
set_option maxHeartbeats 4000000 in
theorem t_Mo_sitsOn_44 {X : Xt} {S : Sh} (hS : ShOK S) {d : Nat} (hd : 0 ≤ d) (σ : Mm) (u0 : Value) (u1 : Value) (u2 : Value) (u3 : Value) : Rf X S (emI σ) (f_Mo_sitsOn_44 σ) d 209 44 [u0, u1, u2, u3] [] σ := by
  unfold f_Mo_sitsOn_44
  refine rf_iconst c_209_44 ki_0 ?_
  exact t_Mo_sitsOn_45 hS hd σ  (0 : Int32) (u0) (u1) (u2) (u3)
def f_Mo_sitsOn (σ : Mm) (x0 : Nat) (x1 : Int32) (x2 : Int32) : Option Int32 := if inbB (((132 : Int32) + ((3 : Int32) * x1)) + (2 : Int32)) 5528 = true then (if (x2 - (σ (rfT x0 0) (ix (((132 : Int32) + ((3 : Int32) * x1)) + (2 : Int32))))) < 0 then (f_Mo_sitsOn_44 σ ) else (if inbB (((132 : Int32) + ((3 : Int32) * x1)) + (1 : Int32)) 5528 = true then if (σ (rfT x0 0) (ix (((132 : Int32) + ((3 : Int32) * x1)) + (1 : Int32)))) = 0 then none else (if ¬ (irm (x2 - (σ (rfT x0 0) (ix (((132 : Int32) + ((3 : Int32) * x1)) + (2 : Int32))))) (σ (rfT x0 0) (ix (((132 : Int32) + ((3 : Int32) * x1)) + (1 : Int32))))) = 0 then (f_Mo_sitsOn_44 σ ) else (f_Mo_sitsOn_45 σ (1 : Int32))) else none)) else none
set_option maxRecDepth 100000 in
set_option maxHeartbeats 4000000 in
theorem t_Mo_sitsOn {X : Xt} {S : Sh} (hS : ShOK S) {d : Nat} (hd : 0 ≤ d) (σ : Mm) (x0 : Nat) (x1 : Int32) (x2 : Int32) (h_x0 : tgT x0 = 12) : Rf X S (emI σ) (f_Mo_sitsOn σ x0 x1 x2) d 209 0 [.ref x0, .int x1, .int x2, unset0] [] σ := by
  unfold f_Mo_sitsOn
  refine rf_ild (i := 2) (Or.inr ⟨2, rfl, rfl, rfl⟩) c_209_0 rfl ?_
  refine rf_ald (i := 0) (Or.inr ⟨0, rfl, rfl, rfl⟩) c_209_1 rfl ?_
  refine rf_getr hS c_209_2 rfl fl_12_9 rfl h_x0 ?_
  refine rf_sipush c_209_5 ks_132 ?_
  refine rf_iconst c_209_8 ki_3 ?_
  refine rf_ild (i := 1) (Or.inr ⟨1, rfl, rfl, rfl⟩) c_209_9 rfl ?_
  refine rf_imul c_209_10 ?_
  refine rf_iadd c_209_11 ?_
  refine rf_iconst c_209_12 ki_2 ?_
  refine rf_iadd c_209_13 ?_
  refine rf_ite (fun hb14 => ?_) (fun _ => rf_none)
  refine rf_iald hS c_209_14 (tf_12_0 h_x0) (lf_12_0 h_x0) hb14 ?_
  refine rf_isub c_209_15 ?_
  refine rf_ist (i := 3) (Or.inr ⟨3, rfl, rfl, rfl⟩) c_209_16 (Nat.le_of_ble_eq_true rfl) rfl ?_
  refine rf_ild (i := 3) (Or.inr ⟨3, rfl, rfl, rfl⟩) c_209_17 rfl ?_
  refine rf_ite (fun hc18 => ?_) (fun hc18 => ?_)
  · refine rf_b1t c_209_18 rfl (decide_eq_true hc18) ?_
    exact t_Mo_sitsOn_44 hS hd σ  (.ref x0) (.int x1) (.int x2) (.int (x2 - (σ (rfT x0 0) (ix (((132 : Int32) + ((3 : Int32) * x1)) + (2 : Int32))))))
  · refine rf_b1f c_209_18 rfl (decide_eq_false hc18) ?_
    refine rf_ild (i := 3) (Or.inr ⟨3, rfl, rfl, rfl⟩) c_209_21 rfl ?_
    refine rf_ald (i := 0) (Or.inr ⟨0, rfl, rfl, rfl⟩) c_209_22 rfl ?_
    refine rf_getr hS c_209_23 rfl fl_12_9 rfl h_x0 ?_
    refine rf_sipush c_209_26 ks_132 ?_
    refine rf_iconst c_209_29 ki_3 ?_
    refine rf_ild (i := 1) (Or.inr ⟨1, rfl, rfl, rfl⟩) c_209_30 rfl ?_
    refine rf_imul c_209_31 ?_
    refine rf_iadd c_209_32 ?_
    refine rf_iconst c_209_33 ki_1 ?_
    refine rf_iadd c_209_34 ?_
    refine rf_ite (fun hb35 => ?_) (fun _ => rf_none)
    refine rf_iald hS c_209_35 (tf_12_0 h_x0) (lf_12_0 h_x0) hb35 ?_
    refine rf_ite (fun _ => rf_none) (fun hz36 => ?_)
    refine rf_irem c_209_36 hz36 ?_
    refine rf_ite (fun hc37 => ?_) (fun hc37 => ?_)
    · refine rf_b1t c_209_37 rfl (decide_eq_true hc37) ?_
      exact t_Mo_sitsOn_44 hS hd σ  (.ref x0) (.int x1) (.int x2) (.int (x2 - (σ (rfT x0 0) (ix (((132 : Int32) + ((3 : Int32) * x1)) + (2 : Int32))))))
    · refine rf_b1f c_209_37 rfl (decide_eq_false hc37) ?_
      refine rf_iconst c_209_40 ki_1 ?_
      refine rf_goto c_209_41 rfl ?_
      exact t_Mo_sitsOn_45 hS hd σ  (1 : Int32) (.ref x0) (.int x1) (.int x2) (.int (x2 - (σ (rfT x0 0) (ix (((132 : Int32) + ((3 : Int32) * x1)) + (2 : Int32))))))
theorem c_210_0 : cd 210 0 = some (.aload_n 0, 1) := by decide +kernel
theorem c_210_1 : cd 210 1 = some (.iload_n 1, 1) := by decide +kernel
theorem c_210_2 : cd 210 2 = some (.invokevirtual 103, 3) := by decide +kernel
theorem c_210_5 : cd 210 5 = some (.ifCond .eq (14), 3) := by decide +kernel
theorem c_210_8 : cd 210 8 = some (.iload_n 2, 1) := by decide +kernel
theorem c_210_9 : cd 210 9 = some (.iconst (0), 1) := by decide +kernel
theorem c_210_10 : cd 210 10 = some (.sipush (9999), 3) := by decide +kernel
theorem c_210_13 : cd 210 13 = some (.invokestatic 82, 3) := by decide +kernel
theorem c_210_16 : cd 210 16 = some (.ifCond .ne (8), 3) := by decide +kernel
theorem c_210_19 : cd 210 19 = some (.ldc 91, 2) := by decide +kernel
theorem c_210_21 : cd 210 21 = some (.goto (17), 3) := by decide +kernel
theorem c_210_24 : cd 210 24 = some (.aload_n 0, 1) := by decide +kernel
theorem c_210_25 : cd 210 25 = some (.iload_n 1, 1) := by decide +kernel
theorem c_210_26 : cd 210 26 = some (.iload_n 2, 1) := by decide +kernel
theorem c_210_27 : cd 210 27 = some (.invokevirtual 106, 3) := by decide +kernel
theorem c_210_30 : cd 210 30 = some (.ifCond .eq (7), 3) := by decide +kernel
theorem c_210_33 : cd 210 33 = some (.iconst (1), 1) := by decide +kernel
theorem c_210_34 : cd 210 34 = some (.goto (4), 3) := by decide +kernel
theorem c_210_37 : cd 210 37 = some (.iconst (0), 1) := by decide +kernel
theorem c_210_38 : cd 210 38 = some (.ireturn, 1) := by decide +kernel
def f_Mo_sits_38 (σ : Mm) (y0 : Int32) : Option Int32 := some y0
set_option maxRecDepth 100000 in
set_option maxHeartbeats 4000000 in
theorem t_Mo_sits_38 {X : Xt} {S : Sh} (hS : ShOK S) {d : Nat} (hd : 2 ≤ d + 1) (σ : Mm) (y0 : Int32) (u0 : Value) (u1 : Value) (u2 : Value) : Rf X S (emI σ) (f_Mo_sits_38 σ y0) (d + 1) 210 38 [u0, u1, u2] [.int y0] σ := by
  unfold f_Mo_sits_38
  exact rf_ret c_210_38 rfl rfl rfl rfl
def f_Mo_sits_19 (σ : Mm) : Option Int32 := f_Mo_sits_38 σ (-1000000001 : Int32)
set_option maxRecDepth 100000 in
set_option maxHeartbeats 4000000 in
theorem t_Mo_sits_19 {X : Xt} {S : Sh} (hS : ShOK S) {d : Nat} (hd : 2 ≤ d + 1) (σ : Mm) (u0 : Value) (u1 : Value) (u2 : Value) : Rf X S (emI σ) (f_Mo_sits_19 σ) (d + 1) 210 19 [u0, u1, u2] [] σ := by
  unfold f_Mo_sits_19
  refine rf_ldc (Or.inl ⟨rfl, rfl⟩) c_210_19 rfl kl_12_91 ?_
  refine rf_goto c_210_21 rfl ?_
  exact t_Mo_sits_38 hS hd σ  (-1000000001 : Int32) (u0) (u1) (u2)
def f_Mo_sits (σ : Mm) (x0 : Nat) (x1 : Int32) (x2 : Int32) : Option Int32 := (f_Mo_isTable σ x0 x1).bind fun v2 => (if v2 = 0 then (f_Mo_sits_19 σ ) else ((f_Mo_in σ x2 (0 : Int32) (9999 : Int32)).bind fun v13 => (if ¬ v13 = 0 then ((f_Mo_sitsOn σ x0 x1 x2).bind fun v27 => (if v27 = 0 then (f_Mo_sits_38 σ (0 : Int32)) else (f_Mo_sits_38 σ (1 : Int32)))) else (f_Mo_sits_19 σ ))))
set_option maxRecDepth 100000 in
set_option maxHeartbeats 4000000 in
theorem t_Mo_sits_e {X : Xt} {S : Sh} (hS : ShOK S) {d : Nat} (hd : 2 ≤ d + 1) (σ : Mm) (x0 : Nat) (x1 : Int32) (x2 : Int32) (h_x0 : tgT x0 = 12) : Rf X S (emI σ) (f_Mo_sits σ x0 x1 x2) (d + 1) 210 0 [.ref x0, .int x1, .int x2] [] σ := by
  unfold f_Mo_sits
  refine rf_ald (i := 0) (Or.inr ⟨0, rfl, rfl, rfl⟩) c_210_0 rfl ?_
  refine rf_ild (i := 1) (Or.inr ⟨1, rfl, rfl, rfl⟩) c_210_1 rfl ?_
  refine rf_callI (as := [.ref x0, .int x1]) (kd := 1) c_210_2 rfl (by decide) rfl ml_12_103 (by decide) rfl (rcv_1 hS rfl rfl h_x0 (by decide)) (Nat.zero_le _) rfl rfl (t_Mo_isTable hS (by omega) σ x0 x1 h_x0) (fun v2 => ?_)
  refine rf_ite (fun hc5 => ?_) (fun hc5 => ?_)
  · refine rf_b1t c_210_5 rfl (decide_eq_true hc5) ?_
    exact t_Mo_sits_19 hS hd σ  (.ref x0) (.int x1) (.int x2)
  · refine rf_b1f c_210_5 rfl (decide_eq_false hc5) ?_
    refine rf_ild (i := 2) (Or.inr ⟨2, rfl, rfl, rfl⟩) c_210_8 rfl ?_
    refine rf_iconst c_210_9 ki_0 ?_
    refine rf_sipush c_210_10 ks_9999 ?_
    refine rf_callI (as := [.int x2, .int (0 : Int32), .int (9999 : Int32)]) (kd := 0) c_210_13 rfl (by decide) rfl ml_12_82 (by decide) rfl (rcv_0 rfl) (Nat.zero_le _) rfl rfl (t_Mo_in hS (by omega) σ x2 (0 : Int32) (9999 : Int32)) (fun v13 => ?_)
    refine rf_ite (fun hc16 => ?_) (fun hc16 => ?_)
    · refine rf_b1t c_210_16 rfl (decide_eq_true hc16) ?_
      refine rf_ald (i := 0) (Or.inr ⟨0, rfl, rfl, rfl⟩) c_210_24 rfl ?_
      refine rf_ild (i := 1) (Or.inr ⟨1, rfl, rfl, rfl⟩) c_210_25 rfl ?_
      refine rf_ild (i := 2) (Or.inr ⟨2, rfl, rfl, rfl⟩) c_210_26 rfl ?_
      refine rf_callI (as := [.ref x0, .int x1, .int x2]) (kd := 1) c_210_27 rfl (by decide) rfl ml_12_106 (by decide) rfl (rcv_1 hS rfl rfl h_x0 (by decide)) (Nat.zero_le _) rfl rfl (t_Mo_sitsOn hS (by omega) σ x0 x1 x2 h_x0) (fun v27 => ?_)
      refine rf_ite (fun hc30 => ?_) (fun hc30 => ?_)
      · refine rf_b1t c_210_30 rfl (decide_eq_true hc30) ?_
        refine rf_iconst c_210_37 ki_0 ?_
        exact t_Mo_sits_38 hS hd σ  (0 : Int32) (.ref x0) (.int x1) (.int x2)
      · refine rf_b1f c_210_30 rfl (decide_eq_false hc30) ?_
        refine rf_iconst c_210_33 ki_1 ?_
        refine rf_goto c_210_34 rfl ?_
        exact t_Mo_sits_38 hS hd σ  (1 : Int32) (.ref x0) (.int x1) (.int x2)
    · refine rf_b1f c_210_16 rfl (decide_eq_false hc16) ?_
      exact t_Mo_sits_19 hS hd σ  (.ref x0) (.int x1) (.int x2)
theorem t_Mo_sits {X : Xt} {S : Sh} (hS : ShOK S) {d : Nat} (hd : 2 ≤ d) (σ : Mm) (x0 : Nat) (x1 : Int32) (x2 : Int32) (h_x0 : tgT x0 = 12) : Rf X S (emI σ) (f_Mo_sits σ x0 x1 x2) d 210 0 [.ref x0, .int x1, .int x2] [] σ := by
  obtain ⟨d1, rfl⟩ : ∃ d1, d = d1 + 1 := ⟨d - 1, by omega⟩
  exact t_Mo_sits_e hS hd σ x0 x1 x2 h_x0
theorem c_211_0 : cd 211 0 = some (.aload_n 0, 1) := by decide +kernel
theorem c_211_1 : cd 211 1 = some (.iload_n 1, 1) := by decide +kernel
theorem c_211_2 : cd 211 2 = some (.invokevirtual 103, 3) := by decide +kernel
theorem c_211_5 : cd 211 5 = some (.ifCond .eq (25), 3) := by decide +kernel
theorem c_211_8 : cd 211 8 = some (.aload_n 0, 1) := by decide +kernel
theorem c_211_9 : cd 211 9 = some (.iload_n 2, 1) := by decide +kernel
theorem c_211_10 : cd 211 10 = some (.invokevirtual 103, 3) := by decide +kernel
theorem c_211_13 : cd 211 13 = some (.ifCond .eq (17), 3) := by decide +kernel
theorem c_211_16 : cd 211 16 = some (.iload_n 1, 1) := by decide +kernel
theorem c_211_17 : cd 211 17 = some (.iload_n 2, 1) := by decide +kernel
theorem c_211_18 : cd 211 18 = some (.if_icmp .eq (12), 3) := by decide +kernel
theorem c_211_21 : cd 211 21 = some (.iload_n 3, 1) := by decide +kernel
theorem c_211_22 : cd 211 22 = some (.iconst (0), 1) := by decide +kernel
theorem c_211_23 : cd 211 23 = some (.iconst (1), 1) := by decide +kernel
theorem c_211_24 : cd 211 24 = some (.invokestatic 82, 3) := by decide +kernel
theorem c_211_27 : cd 211 27 = some (.ifCond .ne (6), 3) := by decide +kernel
theorem c_211_30 : cd 211 30 = some (.ldc 91, 2) := by decide +kernel
theorem c_211_32 : cd 211 32 = some (.ireturn, 1) := by decide +kernel
theorem c_211_33 : cd 211 33 = some (.aload_n 0, 1) := by decide +kernel
theorem c_211_34 : cd 211 34 = some (.getfield 9, 3) := by decide +kernel
theorem c_211_37 : cd 211 37 = some (.sipush (150), 3) := by decide +kernel
theorem c_211_40 : cd 211 40 = some (.bipush (6), 2) := by decide +kernel
theorem c_211_42 : cd 211 42 = some (.iload_n 1, 1) := by decide +kernel
theorem c_211_43 : cd 211 43 = some (.imul, 1) := by decide +kernel
theorem c_211_44 : cd 211 44 = some (.iadd, 1) := by decide +kernel
theorem c_211_45 : cd 211 45 = some (.iload_n 2, 1) := by decide +kernel
theorem c_211_46 : cd 211 46 = some (.iadd, 1) := by decide +kernel
theorem c_211_47 : cd 211 47 = some (.iaload, 1) := by decide +kernel
theorem c_211_48 : cd 211 48 = some (.istore 4, 2) := by decide +kernel
theorem c_211_50 : cd 211 50 = some (.aload_n 0, 1) := by decide +kernel
theorem c_211_51 : cd 211 51 = some (.getfield 9, 3) := by decide +kernel
theorem c_211_54 : cd 211 54 = some (.sipush (150), 3) := by decide +kernel
theorem c_211_57 : cd 211 57 = some (.bipush (6), 2) := by decide +kernel
theorem c_211_59 : cd 211 59 = some (.iload_n 1, 1) := by decide +kernel
theorem c_211_60 : cd 211 60 = some (.imul, 1) := by decide +kernel
theorem c_211_61 : cd 211 61 = some (.iadd, 1) := by decide +kernel
theorem c_211_62 : cd 211 62 = some (.iload_n 2, 1) := by decide +kernel
theorem c_211_63 : cd 211 63 = some (.iadd, 1) := by decide +kernel
theorem c_211_64 : cd 211 64 = some (.iload_n 3, 1) := by decide +kernel
theorem c_211_65 : cd 211 65 = some (.iastore, 1) := by decide +kernel
theorem c_211_66 : cd 211 66 = some (.iload 4, 2) := by decide +kernel
theorem c_211_68 : cd 211 68 = some (.ireturn, 1) := by decide +kernel
def f_Mo_pass_30 (σ : Mm) : Option (Int32 × Mm) := some ((-1000000001 : Int32), σ)
set_option maxRecDepth 100000 in
set_option maxHeartbeats 4000000 in
theorem t_Mo_pass_30 {X : Xt} {S : Sh} (hS : ShOK S) {d : Nat} (hd : 2 ≤ d + 1) (u0 : Value) (u1 : Value) (u2 : Value) (u3 : Value) (u4 : Value) (σ : Mm) : Rf X S emM (f_Mo_pass_30 σ) (d + 1) 211 30 [u0, u1, u2, u3, u4] [] σ := by
  unfold f_Mo_pass_30
  refine rf_ldc (Or.inl ⟨rfl, rfl⟩) c_211_30 rfl kl_12_91 ?_
  exact rf_ret c_211_32 rfl rfl rfl rfl
def f_Mo_pass (x0 : Nat) (x1 : Int32) (x2 : Int32) (x3 : Int32) (σ : Mm) : Option (Int32 × Mm) := (f_Mo_isTable σ x0 x1).bind fun v2 => (if v2 = 0 then (f_Mo_pass_30  σ) else ((f_Mo_isTable σ x0 x2).bind fun v10 => (if v10 = 0 then (f_Mo_pass_30  σ) else (if x1 = x2 then (f_Mo_pass_30  σ) else ((f_Mo_in σ x3 (0 : Int32) (1 : Int32)).bind fun v24 => (if ¬ v24 = 0 then (if inbB (((150 : Int32) + ((6 : Int32) * x1)) + x2) 5528 = true then if inbB (((150 : Int32) + ((6 : Int32) * x1)) + x2) 5528 = true then nmM (up2 σ (rfT x0 0) (ix (((150 : Int32) + ((6 : Int32) * x1)) + x2)) x3) fun σ65 => some ((σ (rfT x0 0) (ix (((150 : Int32) + ((6 : Int32) * x1)) + x2))), σ65) else none else none) else (f_Mo_pass_30  σ)))))))
set_option maxRecDepth 100000 in
set_option maxHeartbeats 4000000 in
theorem t_Mo_pass_e {X : Xt} {S : Sh} (hS : ShOK S) {d : Nat} (hd : 2 ≤ d + 1) (x0 : Nat) (x1 : Int32) (x2 : Int32) (x3 : Int32) (σ : Mm) (h_x0 : tgT x0 = 12) : Rf X S emM (f_Mo_pass x0 x1 x2 x3 σ) (d + 1) 211 0 [.ref x0, .int x1, .int x2, .int x3, unset0] [] σ := by
  unfold f_Mo_pass
  refine rf_ald (i := 0) (Or.inr ⟨0, rfl, rfl, rfl⟩) c_211_0 rfl ?_
  refine rf_ild (i := 1) (Or.inr ⟨1, rfl, rfl, rfl⟩) c_211_1 rfl ?_
  refine rf_callI (as := [.ref x0, .int x1]) (kd := 1) c_211_2 rfl (by decide) rfl ml_12_103 (by decide) rfl (rcv_1 hS rfl rfl h_x0 (by decide)) (Nat.zero_le _) rfl rfl (t_Mo_isTable hS (by omega) σ x0 x1 h_x0) (fun v2 => ?_)
  refine rf_ite (fun hc5 => ?_) (fun hc5 => ?_)
  · refine rf_b1t c_211_5 rfl (decide_eq_true hc5) ?_
    exact t_Mo_pass_30 hS hd  (.ref x0) (.int x1) (.int x2) (.int x3) (unset0) σ
  · refine rf_b1f c_211_5 rfl (decide_eq_false hc5) ?_
    refine rf_ald (i := 0) (Or.inr ⟨0, rfl, rfl, rfl⟩) c_211_8 rfl ?_
    refine rf_ild (i := 2) (Or.inr ⟨2, rfl, rfl, rfl⟩) c_211_9 rfl ?_
    refine rf_callI (as := [.ref x0, .int x2]) (kd := 1) c_211_10 rfl (by decide) rfl ml_12_103 (by decide) rfl (rcv_1 hS rfl rfl h_x0 (by decide)) (Nat.zero_le _) rfl rfl (t_Mo_isTable hS (by omega) σ x0 x2 h_x0) (fun v10 => ?_)
    refine rf_ite (fun hc13 => ?_) (fun hc13 => ?_)
    · refine rf_b1t c_211_13 rfl (decide_eq_true hc13) ?_
      exact t_Mo_pass_30 hS hd  (.ref x0) (.int x1) (.int x2) (.int x3) (unset0) σ
    · refine rf_b1f c_211_13 rfl (decide_eq_false hc13) ?_
      refine rf_ild (i := 1) (Or.inr ⟨1, rfl, rfl, rfl⟩) c_211_16 rfl ?_
      refine rf_ild (i := 2) (Or.inr ⟨2, rfl, rfl, rfl⟩) c_211_17 rfl ?_
      refine rf_ite (fun hc18 => ?_) (fun hc18 => ?_)
      · refine rf_b2t c_211_18 rfl (decide_eq_true hc18) ?_
        exact t_Mo_pass_30 hS hd  (.ref x0) (.int x1) (.int x2) (.int x3) (unset0) σ
      · refine rf_b2f c_211_18 rfl (decide_eq_false hc18) ?_
        refine rf_ild (i := 3) (Or.inr ⟨3, rfl, rfl, rfl⟩) c_211_21 rfl ?_
        refine rf_iconst c_211_22 ki_0 ?_
        refine rf_iconst c_211_23 ki_1 ?_
        refine rf_callI (as := [.int x3, .int (0 : Int32), .int (1 : Int32)]) (kd := 0) c_211_24 rfl (by decide) rfl ml_12_82 (by decide) rfl (rcv_0 rfl) (Nat.zero_le _) rfl rfl (t_Mo_in hS (by omega) σ x3 (0 : Int32) (1 : Int32)) (fun v24 => ?_)
        refine rf_ite (fun hc27 => ?_) (fun hc27 => ?_)
        · refine rf_b1t c_211_27 rfl (decide_eq_true hc27) ?_
          refine rf_ald (i := 0) (Or.inr ⟨0, rfl, rfl, rfl⟩) c_211_33 rfl ?_
          refine rf_getr hS c_211_34 rfl fl_12_9 rfl h_x0 ?_
          refine rf_sipush c_211_37 ks_150 ?_
          refine rf_bipush c_211_40 kb_6 ?_
          refine rf_ild (i := 1) (Or.inr ⟨1, rfl, rfl, rfl⟩) c_211_42 rfl ?_
          refine rf_imul c_211_43 ?_
          refine rf_iadd c_211_44 ?_
          refine rf_ild (i := 2) (Or.inr ⟨2, rfl, rfl, rfl⟩) c_211_45 rfl ?_
          refine rf_iadd c_211_46 ?_
          refine rf_ite (fun hb47 => ?_) (fun _ => rf_none)
          refine rf_iald hS c_211_47 (tf_12_0 h_x0) (lf_12_0 h_x0) hb47 ?_
          refine rf_ist (i := 4) (Or.inl ⟨rfl, rfl⟩) c_211_48 (Nat.le_of_ble_eq_true rfl) rfl ?_
          refine rf_ald (i := 0) (Or.inr ⟨0, rfl, rfl, rfl⟩) c_211_50 rfl ?_
          refine rf_getr hS c_211_51 rfl fl_12_9 rfl h_x0 ?_
          refine rf_sipush c_211_54 ks_150 ?_
          refine rf_bipush c_211_57 kb_6 ?_
          refine rf_ild (i := 1) (Or.inr ⟨1, rfl, rfl, rfl⟩) c_211_59 rfl ?_
          refine rf_imul c_211_60 ?_
          refine rf_iadd c_211_61 ?_
          refine rf_ild (i := 2) (Or.inr ⟨2, rfl, rfl, rfl⟩) c_211_62 rfl ?_
          refine rf_iadd c_211_63 ?_
          refine rf_ild (i := 3) (Or.inr ⟨3, rfl, rfl, rfl⟩) c_211_64 rfl ?_
          refine rf_ite (fun hb65 => ?_) (fun _ => rf_none)
          refine rf_iast hS c_211_65 (tf_12_0 h_x0) (lf_12_0 h_x0) hb65 ?_
          refine rf_nm (fun σ65 => ?_)
          refine rf_ild (i := 4) (Or.inl ⟨rfl, rfl⟩) c_211_66 rfl ?_
          exact rf_ret c_211_68 rfl rfl rfl rfl
        · refine rf_b1f c_211_27 rfl (decide_eq_false hc27) ?_
          exact t_Mo_pass_30 hS hd  (.ref x0) (.int x1) (.int x2) (.int x3) (unset0) σ
theorem t_Mo_pass {X : Xt} {S : Sh} (hS : ShOK S) {d : Nat} (hd : 2 ≤ d) (x0 : Nat) (x1 : Int32) (x2 : Int32) (x3 : Int32) (σ : Mm) (h_x0 : tgT x0 = 12) : Rf X S emM (f_Mo_pass x0 x1 x2 x3 σ) d 211 0 [.ref x0, .int x1, .int x2, .int x3, unset0] [] σ := by
  obtain ⟨d1, rfl⟩ : ∃ d1, d = d1 + 1 := ⟨d - 1, by omega⟩
  exact t_Mo_pass_e hS hd x0 x1 x2 x3 σ h_x0
theorem c_212_0 : cd 212 0 = some (.aload_n 0, 1) := by decide +kernel
theorem c_212_1 : cd 212 1 = some (.getfield 22, 3) := by decide +kernel
theorem c_212_4 : cd 212 4 = some (.iload_n 1, 1) := by decide +kernel
theorem c_212_5 : cd 212 5 = some (.iconst (1), 1) := by decide +kernel
theorem c_212_6 : cd 212 6 = some (.isub, 1) := by decide +kernel
theorem c_212_7 : cd 212 7 = some (.iaload, 1) := by decide +kernel
theorem c_212_8 : cd 212 8 = some (.istore_n 2, 1) := by decide +kernel
theorem c_212_9 : cd 212 9 = some (.aload_n 0, 1) := by decide +kernel
theorem c_212_10 : cd 212 10 = some (.getfield 110, 3) := by decide +kernel
theorem c_212_13 : cd 212 13 = some (.ifCond .eq (27), 3) := by decide +kernel
theorem c_212_16 : cd 212 16 = some (.iload_n 2, 1) := by decide +kernel
theorem c_212_17 : cd 212 17 = some (.aload_n 0, 1) := by decide +kernel
theorem c_212_18 : cd 212 18 = some (.getfield 114, 3) := by decide +kernel
theorem c_212_21 : cd 212 21 = some (.if_icmp .lt (19), 3) := by decide +kernel
theorem c_212_24 : cd 212 24 = some (.iload_n 2, 1) := by decide +kernel
theorem c_212_25 : cd 212 25 = some (.aload_n 0, 1) := by decide +kernel
theorem c_212_26 : cd 212 26 = some (.getfield 114, 3) := by decide +kernel
theorem c_212_29 : cd 212 29 = some (.if_icmp .ne (46), 3) := by decide +kernel
theorem c_212_32 : cd 212 32 = some (.iload_n 1, 1) := by decide +kernel
theorem c_212_33 : cd 212 33 = some (.aload_n 0, 1) := by decide +kernel
theorem c_212_34 : cd 212 34 = some (.getfield 110, 3) := by decide +kernel
theorem c_212_37 : cd 212 37 = some (.if_icmp .ge (38), 3) := by decide +kernel
theorem c_212_40 : cd 212 40 = some (.aload_n 0, 1) := by decide +kernel
theorem c_212_41 : cd 212 41 = some (.iload_n 1, 1) := by decide +kernel
theorem c_212_42 : cd 212 42 = some (.putfield 110, 3) := by decide +kernel
theorem c_212_45 : cd 212 45 = some (.aload_n 0, 1) := by decide +kernel
theorem c_212_46 : cd 212 46 = some (.iload_n 2, 1) := by decide +kernel
theorem c_212_47 : cd 212 47 = some (.putfield 114, 3) := by decide +kernel
theorem c_212_50 : cd 212 50 = some (.iconst (0), 1) := by decide +kernel
theorem c_212_51 : cd 212 51 = some (.istore_n 3, 1) := by decide +kernel
theorem c_212_52 : cd 212 52 = some (.iload_n 3, 1) := by decide +kernel
theorem c_212_53 : cd 212 53 = some (.iload_n 1, 1) := by decide +kernel
theorem c_212_54 : cd 212 54 = some (.if_icmp .ge (21), 3) := by decide +kernel
theorem c_212_57 : cd 212 57 = some (.aload_n 0, 1) := by decide +kernel
theorem c_212_58 : cd 212 58 = some (.getfield 25, 3) := by decide +kernel
theorem c_212_61 : cd 212 61 = some (.iload_n 3, 1) := by decide +kernel
theorem c_212_62 : cd 212 62 = some (.aload_n 0, 1) := by decide +kernel
theorem c_212_63 : cd 212 63 = some (.getfield 19, 3) := by decide +kernel
theorem c_212_66 : cd 212 66 = some (.iload_n 3, 1) := by decide +kernel
theorem c_212_67 : cd 212 67 = some (.iaload, 1) := by decide +kernel
theorem c_212_68 : cd 212 68 = some (.iastore, 1) := by decide +kernel
theorem c_212_69 : cd 212 69 = some (.iinc 3 (1), 3) := by decide +kernel
theorem c_212_72 : cd 212 72 = some (.goto (-20), 3) := by decide +kernel
theorem c_212_75 : cd 212 75 = some (.return_, 1) := by decide +kernel
def f_Mo_judgeWay_75 (σ : Mm) : Option Mm := some σ
set_option maxRecDepth 100000 in
set_option maxHeartbeats 4000000 in
theorem t_Mo_judgeWay_75 {X : Xt} {S : Sh} (hS : ShOK S) {d : Nat} (hd : 0 ≤ d) (u0 : Value) (u1 : Value) (u2 : Value) (u3 : Value) (σ : Mm) : Rf X S emV (f_Mo_judgeWay_75 σ) d 212 75 [u0, u1, u2, u3] [] σ := by
  unfold f_Mo_judgeWay_75
  exact rf_vret c_212_75 rfl rfl
def f_Mo_judgeWay_52 : Nat → Nat → Int32 → Int32 → Mm → Option Mm
  | 0, _, _, _, _ => none
  | n + 1, x0, x1, x3, σ => (if x1 ≤ x3 then (f_Mo_judgeWay_75  σ) else (if inbB x3 7 = true then if inbB x3 6 = true then nmM (up2 σ (rfT x0 6) (ix x3) (σ (rfT x0 4) (ix x3))) fun σ68 => f_Mo_judgeWay_52  n x0 x1 (x3 + (1 : Int32)) σ68 else none else none))
set_option maxRecDepth 100000 in
set_option maxHeartbeats 4000000 in
theorem t_Mo_judgeWay_52 {X : Xt} {S : Sh} (hS : ShOK S) {d : Nat} (hd : 0 ≤ d) : ∀ (n : Nat) (x0 : Nat) (x1 : Int32) (x3 : Int32) (u2 : Value) (σ : Mm) (h_x0 : tgT x0 = 12), Rf X S emV (f_Mo_judgeWay_52 n x0 x1 x3 σ) d 212 52 [.ref x0, .int x1, u2, .int x3] [] σ := by
  intro n
  induction n with
  | zero => intro x0 x1 x3 u2 σ h_x0; exact rf_none
  | succ n ih =>
    intro x0 x1 x3 u2 σ h_x0
    rw [f_Mo_judgeWay_52]
    refine rf_ild (i := 3) (Or.inr ⟨3, rfl, rfl, rfl⟩) c_212_52 rfl ?_
    refine rf_ild (i := 1) (Or.inr ⟨1, rfl, rfl, rfl⟩) c_212_53 rfl ?_
    refine rf_ite (fun hc54 => ?_) (fun hc54 => ?_)
    · refine rf_b2t c_212_54 rfl (decide_eq_true hc54) ?_
      exact t_Mo_judgeWay_75 hS hd  (.ref x0) (.int x1) (u2) (.int x3) σ
    · refine rf_b2f c_212_54 rfl (decide_eq_false hc54) ?_
      refine rf_ald (i := 0) (Or.inr ⟨0, rfl, rfl, rfl⟩) c_212_57 rfl ?_
      refine rf_getr hS c_212_58 rfl fl_12_25 rfl h_x0 ?_
      refine rf_ild (i := 3) (Or.inr ⟨3, rfl, rfl, rfl⟩) c_212_61 rfl ?_
      refine rf_ald (i := 0) (Or.inr ⟨0, rfl, rfl, rfl⟩) c_212_62 rfl ?_
      refine rf_getr hS c_212_63 rfl fl_12_19 rfl h_x0 ?_
      refine rf_ild (i := 3) (Or.inr ⟨3, rfl, rfl, rfl⟩) c_212_66 rfl ?_
      refine rf_ite (fun hb67 => ?_) (fun _ => rf_none)
      refine rf_iald hS c_212_67 (tf_12_4 h_x0) (lf_12_4 h_x0) hb67 ?_
      refine rf_ite (fun hb68 => ?_) (fun _ => rf_none)
      refine rf_iast hS c_212_68 (tf_12_6 h_x0) (lf_12_6 h_x0) hb68 ?_
      refine rf_nm (fun σ68 => ?_)
      refine rf_iinc c_212_69 rfl ki_1 rfl ?_
      refine rf_goto c_212_72 rfl ?_
      exact ih x0 x1 (x3 + (1 : Int32)) (u2) σ68 h_x0
def f_Mo_judgeWay_40 (x0 : Nat) (x1 : Int32) (x2 : Int32) (σ : Mm) : Option Mm := nmM (up2 σ x0 7 x1) fun σ42 => nmM (up2 σ42 x0 8 x2) fun σ47 => f_Mo_judgeWay_52  NN x0 x1 (0 : Int32) σ47
set_option maxRecDepth 100000 in
set_option maxHeartbeats 4000000 in
theorem t_Mo_judgeWay_40 {X : Xt} {S : Sh} (hS : ShOK S) {d : Nat} (hd : 0 ≤ d) (x0 : Nat) (x1 : Int32) (x2 : Int32) (u3 : Value) (σ : Mm) (h_x0 : tgT x0 = 12) : Rf X S emV (f_Mo_judgeWay_40 x0 x1 x2 σ) d 212 40 [.ref x0, .int x1, .int x2, u3] [] σ := by
  unfold f_Mo_judgeWay_40
  refine rf_ald (i := 0) (Or.inr ⟨0, rfl, rfl, rfl⟩) c_212_40 rfl ?_
  refine rf_ild (i := 1) (Or.inr ⟨1, rfl, rfl, rfl⟩) c_212_41 rfl ?_
  refine rf_puti hS c_212_42 rfl fl_12_110 rfl rfl rfl rfl h_x0 ?_
  refine rf_nm (fun σ42 => ?_)
  refine rf_ald (i := 0) (Or.inr ⟨0, rfl, rfl, rfl⟩) c_212_45 rfl ?_
  refine rf_ild (i := 2) (Or.inr ⟨2, rfl, rfl, rfl⟩) c_212_46 rfl ?_
  refine rf_puti hS c_212_47 rfl fl_12_114 rfl rfl rfl rfl h_x0 ?_
  refine rf_nm (fun σ47 => ?_)
  refine rf_iconst c_212_50 ki_0 ?_
  refine rf_ist (i := 3) (Or.inr ⟨3, rfl, rfl, rfl⟩) c_212_51 (Nat.le_of_ble_eq_true rfl) rfl ?_
  exact t_Mo_judgeWay_52 hS hd  NN x0 x1 (0 : Int32) (.int x2) σ47 h_x0
def f_Mo_judgeWay (x0 : Nat) (x1 : Int32) (σ : Mm) : Option Mm := if inbB (x1 - (1 : Int32)) 7 = true then (if (σ x0 7) = 0 then (f_Mo_judgeWay_40  x0 x1 (σ (rfT x0 5) (ix (x1 - (1 : Int32)))) σ) else (if (σ (rfT x0 5) (ix (x1 - (1 : Int32)))) < (σ x0 8) then (f_Mo_judgeWay_40  x0 x1 (σ (rfT x0 5) (ix (x1 - (1 : Int32)))) σ) else (if ¬ (σ (rfT x0 5) (ix (x1 - (1 : Int32)))) = (σ x0 8) then (f_Mo_judgeWay_75  σ) else (if (σ x0 7) ≤ x1 then (f_Mo_judgeWay_75  σ) else (f_Mo_judgeWay_40  x0 x1 (σ (rfT x0 5) (ix (x1 - (1 : Int32)))) σ))))) else none
set_option maxRecDepth 100000 in
set_option maxHeartbeats 4000000 in
theorem t_Mo_judgeWay {X : Xt} {S : Sh} (hS : ShOK S) {d : Nat} (hd : 0 ≤ d) (x0 : Nat) (x1 : Int32) (σ : Mm) (h_x0 : tgT x0 = 12) : Rf X S emV (f_Mo_judgeWay x0 x1 σ) d 212 0 [.ref x0, .int x1, unset0, unset0] [] σ := by
  unfold f_Mo_judgeWay
  refine rf_ald (i := 0) (Or.inr ⟨0, rfl, rfl, rfl⟩) c_212_0 rfl ?_
  refine rf_getr hS c_212_1 rfl fl_12_22 rfl h_x0 ?_
  refine rf_ild (i := 1) (Or.inr ⟨1, rfl, rfl, rfl⟩) c_212_4 rfl ?_
  refine rf_iconst c_212_5 ki_1 ?_
  refine rf_isub c_212_6 ?_
  refine rf_ite (fun hb7 => ?_) (fun _ => rf_none)
  refine rf_iald hS c_212_7 (tf_12_5 h_x0) (lf_12_5 h_x0) hb7 ?_
  refine rf_ist (i := 2) (Or.inr ⟨2, rfl, rfl, rfl⟩) c_212_8 (Nat.le_of_ble_eq_true rfl) rfl ?_
  refine rf_ald (i := 0) (Or.inr ⟨0, rfl, rfl, rfl⟩) c_212_9 rfl ?_
  refine rf_geti hS c_212_10 rfl fl_12_110 rfl h_x0 ?_
  refine rf_ite (fun hc13 => ?_) (fun hc13 => ?_)
  · refine rf_b1t c_212_13 rfl (decide_eq_true hc13) ?_
    exact t_Mo_judgeWay_40 hS hd  x0 x1 (σ (rfT x0 5) (ix (x1 - (1 : Int32)))) (unset0) σ h_x0
  · refine rf_b1f c_212_13 rfl (decide_eq_false hc13) ?_
    refine rf_ild (i := 2) (Or.inr ⟨2, rfl, rfl, rfl⟩) c_212_16 rfl ?_
    refine rf_ald (i := 0) (Or.inr ⟨0, rfl, rfl, rfl⟩) c_212_17 rfl ?_
    refine rf_geti hS c_212_18 rfl fl_12_114 rfl h_x0 ?_
    refine rf_ite (fun hc21 => ?_) (fun hc21 => ?_)
    · refine rf_b2t c_212_21 rfl (decide_eq_true hc21) ?_
      exact t_Mo_judgeWay_40 hS hd  x0 x1 (σ (rfT x0 5) (ix (x1 - (1 : Int32)))) (unset0) σ h_x0
    · refine rf_b2f c_212_21 rfl (decide_eq_false hc21) ?_
      refine rf_ild (i := 2) (Or.inr ⟨2, rfl, rfl, rfl⟩) c_212_24 rfl ?_
      refine rf_ald (i := 0) (Or.inr ⟨0, rfl, rfl, rfl⟩) c_212_25 rfl ?_
      refine rf_geti hS c_212_26 rfl fl_12_114 rfl h_x0 ?_
      refine rf_ite (fun hc29 => ?_) (fun hc29 => ?_)
      · refine rf_b2t c_212_29 rfl (decide_eq_true hc29) ?_
        exact t_Mo_judgeWay_75 hS hd  (.ref x0) (.int x1) (.int (σ (rfT x0 5) (ix (x1 - (1 : Int32))))) (unset0) σ
      · refine rf_b2f c_212_29 rfl (decide_eq_false hc29) ?_
        refine rf_ild (i := 1) (Or.inr ⟨1, rfl, rfl, rfl⟩) c_212_32 rfl ?_
        refine rf_ald (i := 0) (Or.inr ⟨0, rfl, rfl, rfl⟩) c_212_33 rfl ?_
        refine rf_geti hS c_212_34 rfl fl_12_110 rfl h_x0 ?_
        refine rf_ite (fun hc37 => ?_) (fun hc37 => ?_)
        · refine rf_b2t c_212_37 rfl (decide_eq_true hc37) ?_
          exact t_Mo_judgeWay_75 hS hd  (.ref x0) (.int x1) (.int (σ (rfT x0 5) (ix (x1 - (1 : Int32))))) (unset0) σ
        · refine rf_b2f c_212_37 rfl (decide_eq_false hc37) ?_
          exact t_Mo_judgeWay_40 hS hd  x0 x1 (σ (rfT x0 5) (ix (x1 - (1 : Int32)))) (unset0) σ h_x0
theorem c_213_0 : cd 213 0 = some (.iconst (0), 1) := by decide +kernel
theorem c_213_1 : cd 213 1 = some (.istore_n 3, 1) := by decide +kernel
theorem c_213_2 : cd 213 2 = some (.iconst (0), 1) := by decide +kernel
theorem c_213_3 : cd 213 3 = some (.istore 4, 2) := by decide +kernel
theorem c_213_5 : cd 213 5 = some (.iload 4, 2) := by decide +kernel
theorem c_213_7 : cd 213 7 = some (.iload_n 2, 1) := by decide +kernel
theorem c_213_8 : cd 213 8 = some (.if_icmp .ge (30), 3) := by decide +kernel
theorem c_213_11 : cd 213 11 = some (.iload_n 3, 1) := by decide +kernel
theorem c_213_12 : cd 213 12 = some (.ifCond .ne (14), 3) := by decide +kernel
theorem c_213_15 : cd 213 15 = some (.aload_n 0, 1) := by decide +kernel
theorem c_213_16 : cd 213 16 = some (.getfield 19, 3) := by decide +kernel
theorem c_213_19 : cd 213 19 = some (.iload 4, 2) := by decide +kernel
theorem c_213_21 : cd 213 21 = some (.iaload, 1) := by decide +kernel
theorem c_213_22 : cd 213 22 = some (.iload_n 1, 1) := by decide +kernel
theorem c_213_23 : cd 213 23 = some (.if_icmp .ne (7), 3) := by decide +kernel
theorem c_213_26 : cd 213 26 = some (.iconst (1), 1) := by decide +kernel
theorem c_213_27 : cd 213 27 = some (.goto (4), 3) := by decide +kernel
theorem c_213_30 : cd 213 30 = some (.iconst (0), 1) := by decide +kernel
theorem c_213_31 : cd 213 31 = some (.istore_n 3, 1) := by decide +kernel
theorem c_213_32 : cd 213 32 = some (.iinc 4 (1), 3) := by decide +kernel
theorem c_213_35 : cd 213 35 = some (.goto (-30), 3) := by decide +kernel
theorem c_213_38 : cd 213 38 = some (.iload_n 3, 1) := by decide +kernel
theorem c_213_39 : cd 213 39 = some (.ireturn, 1) := by decide +kernel
def f_Mo_isOnWay_31 (σ : Mm) (k5 : Nat → Int32 → Int32 → Int32 → Int32 → Option (Int32)) (x0 : Nat) (x1 : Int32) (x2 : Int32) (x4 : Int32) (y0 : Int32) : Option Int32 := k5 x0 x1 x2 y0 (x4 + (1 : Int32))
set_option maxRecDepth 100000 in
set_option maxHeartbeats 4000000 in
theorem t_Mo_isOnWay_31 {X : Xt} {S : Sh} (hS : ShOK S) {d : Nat} (hd : 0 ≤ d) (σ : Mm) {k5 : Nat → Int32 → Int32 → Int32 → Int32 → Option (Int32)} (hk5 : ∀ (x0 : Nat) (x1 : Int32) (x2 : Int32) (x3 : Int32) (x4 : Int32) (h_x0 : tgT x0 = 12), Rf X S (emI σ) (k5 x0 x1 x2 x3 x4) d 213 5 [.ref x0, .int x1, .int x2, .int x3, .int x4] [] σ) (x0 : Nat) (x1 : Int32) (x2 : Int32) (x4 : Int32) (y0 : Int32) (u3 : Value) (h_x0 : tgT x0 = 12) : Rf X S (emI σ) (f_Mo_isOnWay_31 σ k5 x0 x1 x2 x4 y0) d 213 31 [.ref x0, .int x1, .int x2, u3, .int x4] [.int y0] σ := by
  unfold f_Mo_isOnWay_31
  refine rf_ist (i := 3) (Or.inr ⟨3, rfl, rfl, rfl⟩) c_213_31 (Nat.le_of_ble_eq_true rfl) rfl ?_
  refine rf_iinc c_213_32 rfl ki_1 rfl ?_
  refine rf_goto c_213_35 rfl ?_
  exact hk5 x0 x1 x2 y0 (x4 + (1 : Int32)) h_x0
def f_Mo_isOnWay_26 (σ : Mm) (k5 : Nat → Int32 → Int32 → Int32 → Int32 → Option (Int32)) (x0 : Nat) (x1 : Int32) (x2 : Int32) (x4 : Int32) : Option Int32 := f_Mo_isOnWay_31 σ k5 x0 x1 x2 x4 (1 : Int32)
set_option maxRecDepth 100000 in
set_option maxHeartbeats 4000000 in
theorem t_Mo_isOnWay_26 {X : Xt} {S : Sh} (hS : ShOK S) {d : Nat} (hd : 0 ≤ d) (σ : Mm) {k5 : Nat → Int32 → Int32 → Int32 → Int32 → Option (Int32)} (hk5 : ∀ (x0 : Nat) (x1 : Int32) (x2 : Int32) (x3 : Int32) (x4 : Int32) (h_x0 : tgT x0 = 12), Rf X S (emI σ) (k5 x0 x1 x2 x3 x4) d 213 5 [.ref x0, .int x1, .int x2, .int x3, .int x4] [] σ) (x0 : Nat) (x1 : Int32) (x2 : Int32) (x4 : Int32) (u3 : Value) (h_x0 : tgT x0 = 12) : Rf X S (emI σ) (f_Mo_isOnWay_26 σ k5 x0 x1 x2 x4) d 213 26 [.ref x0, .int x1, .int x2, u3, .int x4] [] σ := by
  unfold f_Mo_isOnWay_26
  refine rf_iconst c_213_26 ki_1 ?_
  refine rf_goto c_213_27 rfl ?_
  exact t_Mo_isOnWay_31 hS hd σ hk5 x0 x1 x2 x4 (1 : Int32) (u3) h_x0
def f_Mo_isOnWay_5 (σ : Mm) : Nat → Nat → Int32 → Int32 → Int32 → Int32 → Option Int32
  | 0, _, _, _, _, _ => none
  | n + 1, x0, x1, x2, x3, x4 => (if x2 ≤ x4 then (if zB x3 = true then some x3 else none) else (if ¬ x3 = 0 then (f_Mo_isOnWay_26 σ (f_Mo_isOnWay_5 σ n) x0 x1 x2 x4) else (if inbB x4 7 = true then (if ¬ (σ (rfT x0 4) (ix x4)) = x1 then (f_Mo_isOnWay_31 σ (f_Mo_isOnWay_5 σ n) x0 x1 x2 x4 (0 : Int32)) else (f_Mo_isOnWay_26 σ (f_Mo_isOnWay_5 σ n) x0 x1 x2 x4)) else none)))
set_option maxRecDepth 100000 in
set_option maxHeartbeats 4000000 in
theorem t_Mo_isOnWay_5 {X : Xt} {S : Sh} (hS : ShOK S) {d : Nat} (hd : 0 ≤ d) (σ : Mm) : ∀ (n : Nat) (x0 : Nat) (x1 : Int32) (x2 : Int32) (x3 : Int32) (x4 : Int32) (h_x0 : tgT x0 = 12), Rf X S (emI σ) (f_Mo_isOnWay_5 σ n x0 x1 x2 x3 x4) d 213 5 [.ref x0, .int x1, .int x2, .int x3, .int x4] [] σ := by
  intro n
  induction n with
  | zero => intro x0 x1 x2 x3 x4 h_x0; exact rf_none
  | succ n ih =>
    intro x0 x1 x2 x3 x4 h_x0
    rw [f_Mo_isOnWay_5]
    refine rf_ild (i := 4) (Or.inl ⟨rfl, rfl⟩) c_213_5 rfl ?_
    refine rf_ild (i := 2) (Or.inr ⟨2, rfl, rfl, rfl⟩) c_213_7 rfl ?_
    refine rf_ite (fun hc8 => ?_) (fun hc8 => ?_)
    · refine rf_b2t c_213_8 rfl (decide_eq_true hc8) ?_
      refine rf_ild (i := 3) (Or.inr ⟨3, rfl, rfl, rfl⟩) c_213_38 rfl ?_
      refine rf_ite (fun hq39 => ?_) (fun _ => rf_none)
      exact rf_ret c_213_39 rfl (zB_n hq39) rfl rfl
    · refine rf_b2f c_213_8 rfl (decide_eq_false hc8) ?_
      refine rf_ild (i := 3) (Or.inr ⟨3, rfl, rfl, rfl⟩) c_213_11 rfl ?_
      refine rf_ite (fun hc12 => ?_) (fun hc12 => ?_)
      · refine rf_b1t c_213_12 rfl (decide_eq_true hc12) ?_
        exact t_Mo_isOnWay_26 hS hd σ ih x0 x1 x2 x4 (.int x3) h_x0
      · refine rf_b1f c_213_12 rfl (decide_eq_false hc12) ?_
        refine rf_ald (i := 0) (Or.inr ⟨0, rfl, rfl, rfl⟩) c_213_15 rfl ?_
        refine rf_getr hS c_213_16 rfl fl_12_19 rfl h_x0 ?_
        refine rf_ild (i := 4) (Or.inl ⟨rfl, rfl⟩) c_213_19 rfl ?_
        refine rf_ite (fun hb21 => ?_) (fun _ => rf_none)
        refine rf_iald hS c_213_21 (tf_12_4 h_x0) (lf_12_4 h_x0) hb21 ?_
        refine rf_ild (i := 1) (Or.inr ⟨1, rfl, rfl, rfl⟩) c_213_22 rfl ?_
        refine rf_ite (fun hc23 => ?_) (fun hc23 => ?_)
        · refine rf_b2t c_213_23 rfl (decide_eq_true hc23) ?_
          refine rf_iconst c_213_30 ki_0 ?_
          exact t_Mo_isOnWay_31 hS hd σ ih x0 x1 x2 x4 (0 : Int32) (.int x3) h_x0
        · refine rf_b2f c_213_23 rfl (decide_eq_false hc23) ?_
          exact t_Mo_isOnWay_26 hS hd σ ih x0 x1 x2 x4 (.int x3) h_x0
def f_Mo_isOnWay (σ : Mm) (x0 : Nat) (x1 : Int32) (x2 : Int32) : Option Int32 := f_Mo_isOnWay_5 σ NN x0 x1 x2 (0 : Int32) (0 : Int32)
set_option maxRecDepth 100000 in
set_option maxHeartbeats 4000000 in
theorem t_Mo_isOnWay {X : Xt} {S : Sh} (hS : ShOK S) {d : Nat} (hd : 0 ≤ d) (σ : Mm) (x0 : Nat) (x1 : Int32) (x2 : Int32) (h_x0 : tgT x0 = 12) : Rf X S (emI σ) (f_Mo_isOnWay σ x0 x1 x2) d 213 0 [.ref x0, .int x1, .int x2, unset0, unset0] [] σ := by
  unfold f_Mo_isOnWay
  refine rf_iconst c_213_0 ki_0 ?_
  refine rf_ist (i := 3) (Or.inr ⟨3, rfl, rfl, rfl⟩) c_213_1 (Nat.le_of_ble_eq_true rfl) rfl ?_
  refine rf_iconst c_213_2 ki_0 ?_
  refine rf_ist (i := 4) (Or.inl ⟨rfl, rfl⟩) c_213_3 (Nat.le_of_ble_eq_true rfl) rfl ?_
  exact t_Mo_isOnWay_5 hS hd σ  NN x0 x1 x2 (0 : Int32) (0 : Int32) h_x0
theorem c_214_0 : cd 214 0 = some (.aload_n 0, 1) := by decide +kernel
theorem c_214_1 : cd 214 1 = some (.iconst (0), 1) := by decide +kernel
theorem c_214_2 : cd 214 2 = some (.putfield 110, 3) := by decide +kernel
theorem c_214_5 : cd 214 5 = some (.aload_n 0, 1) := by decide +kernel
theorem c_214_6 : cd 214 6 = some (.getfield 19, 3) := by decide +kernel
theorem c_214_9 : cd 214 9 = some (.iconst (0), 1) := by decide +kernel
theorem c_214_10 : cd 214 10 = some (.iload_n 1, 1) := by decide +kernel
theorem c_214_11 : cd 214 11 = some (.iastore, 1) := by decide +kernel
theorem c_214_12 : cd 214 12 = some (.aload_n 0, 1) := by decide +kernel
theorem c_214_13 : cd 214 13 = some (.getfield 22, 3) := by decide +kernel
theorem c_214_16 : cd 214 16 = some (.iconst (0), 1) := by decide +kernel
theorem c_214_17 : cd 214 17 = some (.iload_n 3, 1) := by decide +kernel
theorem c_214_18 : cd 214 18 = some (.iastore, 1) := by decide +kernel
theorem c_214_19 : cd 214 19 = some (.iload_n 1, 1) := by decide +kernel
theorem c_214_20 : cd 214 20 = some (.iload_n 2, 1) := by decide +kernel
theorem c_214_21 : cd 214 21 = some (.if_icmp .ne (9), 3) := by decide +kernel
theorem c_214_24 : cd 214 24 = some (.aload_n 0, 1) := by decide +kernel
theorem c_214_25 : cd 214 25 = some (.iconst (1), 1) := by decide +kernel
theorem c_214_26 : cd 214 26 = some (.invokevirtual 117, 3) := by decide +kernel
theorem c_214_29 : cd 214 29 = some (.return_, 1) := by decide +kernel
theorem c_214_30 : cd 214 30 = some (.iconst (1), 1) := by decide +kernel
theorem c_214_31 : cd 214 31 = some (.istore 5, 2) := by decide +kernel
theorem c_214_33 : cd 214 33 = some (.aload_n 0, 1) := by decide +kernel
theorem c_214_34 : cd 214 34 = some (.getfield 19, 3) := by decide +kernel
theorem c_214_37 : cd 214 37 = some (.iconst (1), 1) := by decide +kernel
theorem c_214_38 : cd 214 38 = some (.iconst (-1), 1) := by decide +kernel
theorem c_214_39 : cd 214 39 = some (.iastore, 1) := by decide +kernel
theorem c_214_40 : cd 214 40 = some (.iload 5, 2) := by decide +kernel
theorem c_214_42 : cd 214 42 = some (.ifCond .le (166), 3) := by decide +kernel
theorem c_214_45 : cd 214 45 = some (.aload_n 0, 1) := by decide +kernel
theorem c_214_46 : cd 214 46 = some (.getfield 19, 3) := by decide +kernel
theorem c_214_49 : cd 214 49 = some (.iload 5, 2) := by decide +kernel
theorem c_214_51 : cd 214 51 = some (.iaload, 1) := by decide +kernel
theorem c_214_52 : cd 214 52 = some (.iconst (1), 1) := by decide +kernel
theorem c_214_53 : cd 214 53 = some (.iadd, 1) := by decide +kernel
theorem c_214_54 : cd 214 54 = some (.istore 6, 2) := by decide +kernel
theorem c_214_56 : cd 214 56 = some (.iload 6, 2) := by decide +kernel
theorem c_214_58 : cd 214 58 = some (.aload_n 0, 1) := by decide +kernel
theorem c_214_59 : cd 214 59 = some (.getfield 9, 3) := by decide +kernel
theorem c_214_62 : cd 214 62 = some (.iconst (3), 1) := by decide +kernel
theorem c_214_63 : cd 214 63 = some (.iaload, 1) := by decide +kernel
theorem c_214_64 : cd 214 64 = some (.if_icmp .ge (47), 3) := by decide +kernel
theorem c_214_67 : cd 214 67 = some (.aload_n 0, 1) := by decide +kernel
theorem c_214_68 : cd 214 68 = some (.getfield 9, 3) := by decide +kernel
theorem c_214_71 : cd 214 71 = some (.sipush (150), 3) := by decide +kernel
theorem c_214_74 : cd 214 74 = some (.bipush (6), 2) := by decide +kernel
theorem c_214_76 : cd 214 76 = some (.aload_n 0, 1) := by decide +kernel
theorem c_214_77 : cd 214 77 = some (.getfield 19, 3) := by decide +kernel
theorem c_214_80 : cd 214 80 = some (.iload 5, 2) := by decide +kernel
theorem c_214_82 : cd 214 82 = some (.iconst (1), 1) := by decide +kernel
theorem c_214_83 : cd 214 83 = some (.isub, 1) := by decide +kernel
theorem c_214_84 : cd 214 84 = some (.iaload, 1) := by decide +kernel
theorem c_214_85 : cd 214 85 = some (.imul, 1) := by decide +kernel
theorem c_214_86 : cd 214 86 = some (.iadd, 1) := by decide +kernel
theorem c_214_87 : cd 214 87 = some (.iload 6, 2) := by decide +kernel
theorem c_214_89 : cd 214 89 = some (.iadd, 1) := by decide +kernel
theorem c_214_90 : cd 214 90 = some (.iaload, 1) := by decide +kernel
theorem c_214_91 : cd 214 91 = some (.ifCond .eq (14), 3) := by decide +kernel
theorem c_214_94 : cd 214 94 = some (.aload_n 0, 1) := by decide +kernel
theorem c_214_95 : cd 214 95 = some (.iload 6, 2) := by decide +kernel
theorem c_214_97 : cd 214 97 = some (.iload 5, 2) := by decide +kernel
theorem c_214_99 : cd 214 99 = some (.invokevirtual 121, 3) := by decide +kernel
theorem c_214_102 : cd 214 102 = some (.ifCond .eq (9), 3) := by decide +kernel
theorem c_214_105 : cd 214 105 = some (.iinc 6 (1), 3) := by decide +kernel
theorem c_214_108 : cd 214 108 = some (.goto (-52), 3) := by decide +kernel
theorem c_214_111 : cd 214 111 = some (.aload_n 0, 1) := by decide +kernel
theorem c_214_112 : cd 214 112 = some (.getfield 19, 3) := by decide +kernel
theorem c_214_115 : cd 214 115 = some (.iload 5, 2) := by decide +kernel
theorem c_214_117 : cd 214 117 = some (.iload 6, 2) := by decide +kernel
theorem c_214_119 : cd 214 119 = some (.iastore, 1) := by decide +kernel
theorem c_214_120 : cd 214 120 = some (.iload 6, 2) := by decide +kernel
theorem c_214_122 : cd 214 122 = some (.aload_n 0, 1) := by decide +kernel
theorem c_214_123 : cd 214 123 = some (.getfield 9, 3) := by decide +kernel
theorem c_214_126 : cd 214 126 = some (.iconst (3), 1) := by decide +kernel
theorem c_214_127 : cd 214 127 = some (.iaload, 1) := by decide +kernel
theorem c_214_128 : cd 214 128 = some (.if_icmp .ne (9), 3) := by decide +kernel
theorem c_214_131 : cd 214 131 = some (.iinc 5 (-1), 3) := by decide +kernel
theorem c_214_134 : cd 214 134 = some (.goto (-94), 3) := by decide +kernel
theorem c_214_137 : cd 214 137 = some (.aload_n 0, 1) := by decide +kernel
theorem c_214_138 : cd 214 138 = some (.getfield 22, 3) := by decide +kernel
theorem c_214_141 : cd 214 141 = some (.iload 5, 2) := by decide +kernel
theorem c_214_143 : cd 214 143 = some (.iconst (1), 1) := by decide +kernel
theorem c_214_144 : cd 214 144 = some (.isub, 1) := by decide +kernel
theorem c_214_145 : cd 214 145 = some (.iaload, 1) := by decide +kernel
theorem c_214_146 : cd 214 146 = some (.iload 4, 2) := by decide +kernel
theorem c_214_148 : cd 214 148 = some (.iadd, 1) := by decide +kernel
theorem c_214_149 : cd 214 149 = some (.istore 7, 2) := by decide +kernel
theorem c_214_151 : cd 214 151 = some (.aload_n 0, 1) := by decide +kernel
theorem c_214_152 : cd 214 152 = some (.iload 6, 2) := by decide +kernel
theorem c_214_154 : cd 214 154 = some (.iload 7, 2) := by decide +kernel
theorem c_214_156 : cd 214 156 = some (.invokevirtual 106, 3) := by decide +kernel
theorem c_214_159 : cd 214 159 = some (.ifCond .ne (9), 3) := by decide +kernel
theorem c_214_162 : cd 214 162 = some (.iinc 7 (1), 3) := by decide +kernel
theorem c_214_165 : cd 214 165 = some (.goto (-14), 3) := by decide +kernel
theorem c_214_168 : cd 214 168 = some (.aload_n 0, 1) := by decide +kernel
theorem c_214_169 : cd 214 169 = some (.getfield 22, 3) := by decide +kernel
theorem c_214_172 : cd 214 172 = some (.iload 5, 2) := by decide +kernel
theorem c_214_174 : cd 214 174 = some (.iload 7, 2) := by decide +kernel
theorem c_214_176 : cd 214 176 = some (.iastore, 1) := by decide +kernel
theorem c_214_177 : cd 214 177 = some (.iload 6, 2) := by decide +kernel
theorem c_214_179 : cd 214 179 = some (.iload_n 2, 1) := by decide +kernel
theorem c_214_180 : cd 214 180 = some (.if_icmp .ne (14), 3) := by decide +kernel
theorem c_214_183 : cd 214 183 = some (.aload_n 0, 1) := by decide +kernel
theorem c_214_184 : cd 214 184 = some (.iload 5, 2) := by decide +kernel
theorem c_214_186 : cd 214 186 = some (.iconst (1), 1) := by decide +kernel
theorem c_214_187 : cd 214 187 = some (.iadd, 1) := by decide +kernel
theorem c_214_188 : cd 214 188 = some (.invokevirtual 117, 3) := by decide +kernel
theorem c_214_191 : cd 214 191 = some (.goto (14), 3) := by decide +kernel
theorem c_214_194 : cd 214 194 = some (.iinc 5 (1), 3) := by decide +kernel
theorem c_214_197 : cd 214 197 = some (.aload_n 0, 1) := by decide +kernel
theorem c_214_198 : cd 214 198 = some (.getfield 19, 3) := by decide +kernel
theorem c_214_201 : cd 214 201 = some (.iload 5, 2) := by decide +kernel
theorem c_214_203 : cd 214 203 = some (.iconst (-1), 1) := by decide +kernel
theorem c_214_204 : cd 214 204 = some (.iastore, 1) := by decide +kernel
theorem c_214_205 : cd 214 205 = some (.goto (-165), 3) := by decide +kernel
theorem c_214_208 : cd 214 208 = some (.return_, 1) := by decide +kernel
def f_Mo_findWay_105 (k40 : Nat → Int32 → Int32 → Int32 → Mm → Option (Mm)) (k56 : Nat → Int32 → Int32 → Int32 → Int32 → Mm → Option (Mm)) (x0 : Nat) (x2 : Int32) (x4 : Int32) (x5 : Int32) (x6 : Int32) (σ : Mm) : Option Mm := k56 x0 x2 x4 x5 (x6 + (1 : Int32)) σ
set_option maxRecDepth 100000 in
set_option maxHeartbeats 4000000 in
theorem t_Mo_findWay_105 {X : Xt} {S : Sh} (hS : ShOK S) {d : Nat} (hd : 1 ≤ d + 1) {k40 : Nat → Int32 → Int32 → Int32 → Mm → Option (Mm)} (hk40 : ∀ (x0 : Nat) (x2 : Int32) (x4 : Int32) (x5 : Int32) (u1 : Value) (u3 : Value) (u6 : Value) (u7 : Value) (σ : Mm) (h_x0 : tgT x0 = 12), Rf X S emV (k40 x0 x2 x4 x5 σ) (d + 1) 214 40 [.ref x0, u1, .int x2, u3, .int x4, .int x5, u6, u7] [] σ) {k56 : Nat → Int32 → Int32 → Int32 → Int32 → Mm → Option (Mm)} (hk56 : ∀ (x0 : Nat) (x2 : Int32) (x4 : Int32) (x5 : Int32) (x6 : Int32) (u1 : Value) (u3 : Value) (u7 : Value) (σ : Mm) (h_x0 : tgT x0 = 12), Rf X S emV (k56 x0 x2 x4 x5 x6 σ) (d + 1) 214 56 [.ref x0, u1, .int x2, u3, .int x4, .int x5, .int x6, u7] [] σ) (x0 : Nat) (x2 : Int32) (x4 : Int32) (x5 : Int32) (x6 : Int32) (u1 : Value) (u3 : Value) (u7 : Value) (σ : Mm) (h_x0 : tgT x0 = 12) : Rf X S emV (f_Mo_findWay_105 k40 k56 x0 x2 x4 x5 x6 σ) (d + 1) 214 105 [.ref x0, u1, .int x2, u3, .int x4, .int x5, .int x6, u7] [] σ := by
  unfold f_Mo_findWay_105
  refine rf_iinc c_214_105 rfl ki_1 rfl ?_
  refine rf_goto c_214_108 rfl ?_
  exact hk56 x0 x2 x4 x5 (x6 + (1 : Int32)) (u1) (u3) (u7) σ h_x0
def f_Mo_findWay_205 (k40 : Nat → Int32 → Int32 → Int32 → Mm → Option (Mm)) (x0 : Nat) (x2 : Int32) (x4 : Int32) (x5 : Int32) (σ : Mm) : Option Mm := k40 x0 x2 x4 x5 σ
set_option maxRecDepth 100000 in
set_option maxHeartbeats 4000000 in
theorem t_Mo_findWay_205 {X : Xt} {S : Sh} (hS : ShOK S) {d : Nat} (hd : 1 ≤ d + 1) {k40 : Nat → Int32 → Int32 → Int32 → Mm → Option (Mm)} (hk40 : ∀ (x0 : Nat) (x2 : Int32) (x4 : Int32) (x5 : Int32) (u1 : Value) (u3 : Value) (u6 : Value) (u7 : Value) (σ : Mm) (h_x0 : tgT x0 = 12), Rf X S emV (k40 x0 x2 x4 x5 σ) (d + 1) 214 40 [.ref x0, u1, .int x2, u3, .int x4, .int x5, u6, u7] [] σ) (x0 : Nat) (x2 : Int32) (x4 : Int32) (x5 : Int32) (u1 : Value) (u3 : Value) (u6 : Value) (u7 : Value) (σ : Mm) (h_x0 : tgT x0 = 12) : Rf X S emV (f_Mo_findWay_205 k40 x0 x2 x4 x5 σ) (d + 1) 214 205 [.ref x0, u1, .int x2, u3, .int x4, .int x5, u6, u7] [] σ := by
  unfold f_Mo_findWay_205
  refine rf_goto c_214_205 rfl ?_
  exact hk40 x0 x2 x4 x5 (u1) (u3) (u6) (u7) σ h_x0
def f_Mo_findWay_151 (k40 : Nat → Int32 → Int32 → Int32 → Mm → Option (Mm)) : Nat → Nat → Int32 → Int32 → Int32 → Int32 → Int32 → Mm → Option Mm
  | 0, _, _, _, _, _, _, _ => none
  | n + 1, x0, x2, x4, x5, x6, x7, σ => (f_Mo_sitsOn σ x0 x6 x7).bind fun v156 => (if ¬ v156 = 0 then (if inbB x5 7 = true then nmM (up2 σ (rfT x0 5) (ix x5) x7) fun σ176 => (if ¬ x6 = x2 then (if inbB (x5 + (1 : Int32)) 7 = true then nmM (up2 σ176 (rfT x0 4) (ix (x5 + (1 : Int32))) (-1 : Int32)) fun σ204 => f_Mo_findWay_205 k40 x0 x2 x4 (x5 + (1 : Int32)) σ204 else none) else ((f_Mo_judgeWay x0 (x5 + (1 : Int32)) σ176).bind fun v188 => f_Mo_findWay_205 k40 x0 x2 x4 x5 v188)) else none) else (f_Mo_findWay_151 k40 n x0 x2 x4 x5 x6 (x7 + (1 : Int32)) σ))
set_option maxRecDepth 100000 in
set_option maxHeartbeats 4000000 in
theorem t_Mo_findWay_151 {X : Xt} {S : Sh} (hS : ShOK S) {d : Nat} (hd : 1 ≤ d + 1) {k40 : Nat → Int32 → Int32 → Int32 → Mm → Option (Mm)} (hk40 : ∀ (x0 : Nat) (x2 : Int32) (x4 : Int32) (x5 : Int32) (u1 : Value) (u3 : Value) (u6 : Value) (u7 : Value) (σ : Mm) (h_x0 : tgT x0 = 12), Rf X S emV (k40 x0 x2 x4 x5 σ) (d + 1) 214 40 [.ref x0, u1, .int x2, u3, .int x4, .int x5, u6, u7] [] σ) : ∀ (n : Nat) (x0 : Nat) (x2 : Int32) (x4 : Int32) (x5 : Int32) (x6 : Int32) (x7 : Int32) (u1 : Value) (u3 : Value) (σ : Mm) (h_x0 : tgT x0 = 12), Rf X S emV (f_Mo_findWay_151 k40 n x0 x2 x4 x5 x6 x7 σ) (d + 1) 214 151 [.ref x0, u1, .int x2, u3, .int x4, .int x5, .int x6, .int x7] [] σ := by
  intro n
  induction n with
  | zero => intro x0 x2 x4 x5 x6 x7 u1 u3 σ h_x0; exact rf_none
  | succ n ih =>
    intro x0 x2 x4 x5 x6 x7 u1 u3 σ h_x0
    rw [f_Mo_findWay_151]
    refine rf_ald (i := 0) (Or.inr ⟨0, rfl, rfl, rfl⟩) c_214_151 rfl ?_
    refine rf_ild (i := 6) (Or.inl ⟨rfl, rfl⟩) c_214_152 rfl ?_
    refine rf_ild (i := 7) (Or.inl ⟨rfl, rfl⟩) c_214_154 rfl ?_
    refine rf_callI (as := [.ref x0, .int x6, .int x7]) (kd := 1) c_214_156 rfl (by decide) rfl ml_12_106 (by decide) rfl (rcv_1 hS rfl rfl h_x0 (by decide)) (Nat.zero_le _) rfl rfl (t_Mo_sitsOn hS (by omega) σ x0 x6 x7 h_x0) (fun v156 => ?_)
    refine rf_ite (fun hc159 => ?_) (fun hc159 => ?_)
    · refine rf_b1t c_214_159 rfl (decide_eq_true hc159) ?_
      refine rf_ald (i := 0) (Or.inr ⟨0, rfl, rfl, rfl⟩) c_214_168 rfl ?_
      refine rf_getr hS c_214_169 rfl fl_12_22 rfl h_x0 ?_
      refine rf_ild (i := 5) (Or.inl ⟨rfl, rfl⟩) c_214_172 rfl ?_
      refine rf_ild (i := 7) (Or.inl ⟨rfl, rfl⟩) c_214_174 rfl ?_
      refine rf_ite (fun hb176 => ?_) (fun _ => rf_none)
      refine rf_iast hS c_214_176 (tf_12_5 h_x0) (lf_12_5 h_x0) hb176 ?_
      refine rf_nm (fun σ176 => ?_)
      refine rf_ild (i := 6) (Or.inl ⟨rfl, rfl⟩) c_214_177 rfl ?_
      refine rf_ild (i := 2) (Or.inr ⟨2, rfl, rfl, rfl⟩) c_214_179 rfl ?_
      refine rf_ite (fun hc180 => ?_) (fun hc180 => ?_)
      · refine rf_b2t c_214_180 rfl (decide_eq_true hc180) ?_
        refine rf_iinc c_214_194 rfl ki_1 rfl ?_
        refine rf_ald (i := 0) (Or.inr ⟨0, rfl, rfl, rfl⟩) c_214_197 rfl ?_
        refine rf_getr hS c_214_198 rfl fl_12_19 rfl h_x0 ?_
        refine rf_ild (i := 5) (Or.inl ⟨rfl, rfl⟩) c_214_201 rfl ?_
        refine rf_iconst c_214_203 ki_m1 ?_
        refine rf_ite (fun hb204 => ?_) (fun _ => rf_none)
        refine rf_iast hS c_214_204 (tf_12_4 h_x0) (lf_12_4 h_x0) hb204 ?_
        refine rf_nm (fun σ204 => ?_)
        exact t_Mo_findWay_205 hS hd hk40 x0 x2 x4 (x5 + (1 : Int32)) (u1) (u3) (.int x6) (.int x7) σ204 h_x0
      · refine rf_b2f c_214_180 rfl (decide_eq_false hc180) ?_
        refine rf_ald (i := 0) (Or.inr ⟨0, rfl, rfl, rfl⟩) c_214_183 rfl ?_
        refine rf_ild (i := 5) (Or.inl ⟨rfl, rfl⟩) c_214_184 rfl ?_
        refine rf_iconst c_214_186 ki_1 ?_
        refine rf_iadd c_214_187 ?_
        refine rf_callV (as := [.ref x0, .int (x5 + (1 : Int32))]) (kd := 1) c_214_188 rfl (by decide) rfl ml_12_117 (by decide) rfl (rcv_1 hS rfl rfl h_x0 (by decide)) (Nat.zero_le _) rfl rfl (t_Mo_judgeWay hS (by omega) x0 (x5 + (1 : Int32)) σ176 h_x0) (fun v188 => ?_)
        refine rf_goto c_214_191 rfl ?_
        exact t_Mo_findWay_205 hS hd hk40 x0 x2 x4 x5 (u1) (u3) (.int x6) (.int x7) v188 h_x0
    · refine rf_b1f c_214_159 rfl (decide_eq_false hc159) ?_
      refine rf_iinc c_214_162 rfl ki_1 rfl ?_
      refine rf_goto c_214_165 rfl ?_
      exact ih x0 x2 x4 x5 x6 (x7 + (1 : Int32)) (u1) (u3) σ h_x0
def f_Mo_findWay_111 (k40 : Nat → Int32 → Int32 → Int32 → Mm → Option (Mm)) (x0 : Nat) (x2 : Int32) (x4 : Int32) (x5 : Int32) (x6 : Int32) (σ : Mm) : Option Mm := if inbB x5 7 = true then nmM (up2 σ (rfT x0 4) (ix x5) x6) fun σ119 => (if ¬ x6 = (σ119 (rfT x0 0) (ix (3 : Int32))) then (if inbB (x5 - (1 : Int32)) 7 = true then f_Mo_findWay_151 k40 NN x0 x2 x4 x5 x6 ((σ119 (rfT x0 5) (ix (x5 - (1 : Int32)))) + x4) σ119 else none) else (k40 x0 x2 x4 (x5 + (-1 : Int32)) σ119)) else none
set_option maxRecDepth 100000 in
set_option maxHeartbeats 4000000 in
theorem t_Mo_findWay_111 {X : Xt} {S : Sh} (hS : ShOK S) {d : Nat} (hd : 1 ≤ d + 1) {k40 : Nat → Int32 → Int32 → Int32 → Mm → Option (Mm)} (hk40 : ∀ (x0 : Nat) (x2 : Int32) (x4 : Int32) (x5 : Int32) (u1 : Value) (u3 : Value) (u6 : Value) (u7 : Value) (σ : Mm) (h_x0 : tgT x0 = 12), Rf X S emV (k40 x0 x2 x4 x5 σ) (d + 1) 214 40 [.ref x0, u1, .int x2, u3, .int x4, .int x5, u6, u7] [] σ) (x0 : Nat) (x2 : Int32) (x4 : Int32) (x5 : Int32) (x6 : Int32) (u1 : Value) (u3 : Value) (u7 : Value) (σ : Mm) (h_x0 : tgT x0 = 12) : Rf X S emV (f_Mo_findWay_111 k40 x0 x2 x4 x5 x6 σ) (d + 1) 214 111 [.ref x0, u1, .int x2, u3, .int x4, .int x5, .int x6, u7] [] σ := by
  unfold f_Mo_findWay_111
  refine rf_ald (i := 0) (Or.inr ⟨0, rfl, rfl, rfl⟩) c_214_111 rfl ?_
  refine rf_getr hS c_214_112 rfl fl_12_19 rfl h_x0 ?_
  refine rf_ild (i := 5) (Or.inl ⟨rfl, rfl⟩) c_214_115 rfl ?_
  refine rf_ild (i := 6) (Or.inl ⟨rfl, rfl⟩) c_214_117 rfl ?_
  refine rf_ite (fun hb119 => ?_) (fun _ => rf_none)
  refine rf_iast hS c_214_119 (tf_12_4 h_x0) (lf_12_4 h_x0) hb119 ?_
  refine rf_nm (fun σ119 => ?_)
  refine rf_ild (i := 6) (Or.inl ⟨rfl, rfl⟩) c_214_120 rfl ?_
  refine rf_ald (i := 0) (Or.inr ⟨0, rfl, rfl, rfl⟩) c_214_122 rfl ?_
  refine rf_getr hS c_214_123 rfl fl_12_9 rfl h_x0 ?_
  refine rf_iconst c_214_126 ki_3 ?_
  refine rf_iald hS c_214_127 (tf_12_0 h_x0) (lf_12_0 h_x0) (by decide) ?_
  refine rf_ite (fun hc128 => ?_) (fun hc128 => ?_)
  · refine rf_b2t c_214_128 rfl (decide_eq_true hc128) ?_
    refine rf_ald (i := 0) (Or.inr ⟨0, rfl, rfl, rfl⟩) c_214_137 rfl ?_
    refine rf_getr hS c_214_138 rfl fl_12_22 rfl h_x0 ?_
    refine rf_ild (i := 5) (Or.inl ⟨rfl, rfl⟩) c_214_141 rfl ?_
    refine rf_iconst c_214_143 ki_1 ?_
    refine rf_isub c_214_144 ?_
    refine rf_ite (fun hb145 => ?_) (fun _ => rf_none)
    refine rf_iald hS c_214_145 (tf_12_5 h_x0) (lf_12_5 h_x0) hb145 ?_
    refine rf_ild (i := 4) (Or.inl ⟨rfl, rfl⟩) c_214_146 rfl ?_
    refine rf_iadd c_214_148 ?_
    refine rf_ist (i := 7) (Or.inl ⟨rfl, rfl⟩) c_214_149 (Nat.le_of_ble_eq_true rfl) rfl ?_
    exact t_Mo_findWay_151 hS hd hk40 NN x0 x2 x4 x5 x6 ((σ119 (rfT x0 5) (ix (x5 - (1 : Int32)))) + x4) (u1) (u3) σ119 h_x0
  · refine rf_b2f c_214_128 rfl (decide_eq_false hc128) ?_
    refine rf_iinc c_214_131 rfl ki_m1 rfl ?_
    refine rf_goto c_214_134 rfl ?_
    exact hk40 x0 x2 x4 (x5 + (-1 : Int32)) (u1) (u3) (.int x6) (u7) σ119 h_x0
def f_Mo_findWay_56 (k40 : Nat → Int32 → Int32 → Int32 → Mm → Option (Mm)) : Nat → Nat → Int32 → Int32 → Int32 → Int32 → Mm → Option Mm
  | 0, _, _, _, _, _, _ => none
  | n + 1, x0, x2, x4, x5, x6, σ => (if (σ (rfT x0 0) (ix (3 : Int32))) ≤ x6 then (f_Mo_findWay_111 k40 x0 x2 x4 x5 x6 σ) else (if inbB (x5 - (1 : Int32)) 7 = true then if inbB (((150 : Int32) + ((6 : Int32) * (σ (rfT x0 4) (ix (x5 - (1 : Int32)))))) + x6) 5528 = true then (if (σ (rfT x0 0) (ix (((150 : Int32) + ((6 : Int32) * (σ (rfT x0 4) (ix (x5 - (1 : Int32)))))) + x6))) = 0 then (f_Mo_findWay_105 k40 (f_Mo_findWay_56 k40 n) x0 x2 x4 x5 x6 σ) else ((f_Mo_isOnWay σ x0 x6 x5).bind fun v99 => (if v99 = 0 then (f_Mo_findWay_111 k40 x0 x2 x4 x5 x6 σ) else (f_Mo_findWay_105 k40 (f_Mo_findWay_56 k40 n) x0 x2 x4 x5 x6 σ)))) else none else none))
set_option maxRecDepth 100000 in
set_option maxHeartbeats 4000000 in
theorem t_Mo_findWay_56 {X : Xt} {S : Sh} (hS : ShOK S) {d : Nat} (hd : 1 ≤ d + 1) {k40 : Nat → Int32 → Int32 → Int32 → Mm → Option (Mm)} (hk40 : ∀ (x0 : Nat) (x2 : Int32) (x4 : Int32) (x5 : Int32) (u1 : Value) (u3 : Value) (u6 : Value) (u7 : Value) (σ : Mm) (h_x0 : tgT x0 = 12), Rf X S emV (k40 x0 x2 x4 x5 σ) (d + 1) 214 40 [.ref x0, u1, .int x2, u3, .int x4, .int x5, u6, u7] [] σ) : ∀ (n : Nat) (x0 : Nat) (x2 : Int32) (x4 : Int32) (x5 : Int32) (x6 : Int32) (u1 : Value) (u3 : Value) (u7 : Value) (σ : Mm) (h_x0 : tgT x0 = 12), Rf X S emV (f_Mo_findWay_56 k40 n x0 x2 x4 x5 x6 σ) (d + 1) 214 56 [.ref x0, u1, .int x2, u3, .int x4, .int x5, .int x6, u7] [] σ := by
  intro n
  induction n with
  | zero => intro x0 x2 x4 x5 x6 u1 u3 u7 σ h_x0; exact rf_none
  | succ n ih =>
    intro x0 x2 x4 x5 x6 u1 u3 u7 σ h_x0
    rw [f_Mo_findWay_56]
    refine rf_ild (i := 6) (Or.inl ⟨rfl, rfl⟩) c_214_56 rfl ?_
    refine rf_ald (i := 0) (Or.inr ⟨0, rfl, rfl, rfl⟩) c_214_58 rfl ?_
    refine rf_getr hS c_214_59 rfl fl_12_9 rfl h_x0 ?_
    refine rf_iconst c_214_62 ki_3 ?_
    refine rf_iald hS c_214_63 (tf_12_0 h_x0) (lf_12_0 h_x0) (by decide) ?_
    refine rf_ite (fun hc64 => ?_) (fun hc64 => ?_)
    · refine rf_b2t c_214_64 rfl (decide_eq_true hc64) ?_
      exact t_Mo_findWay_111 hS hd hk40 x0 x2 x4 x5 x6 (u1) (u3) (u7) σ h_x0
    · refine rf_b2f c_214_64 rfl (decide_eq_false hc64) ?_
      refine rf_ald (i := 0) (Or.inr ⟨0, rfl, rfl, rfl⟩) c_214_67 rfl ?_
      refine rf_getr hS c_214_68 rfl fl_12_9 rfl h_x0 ?_
      refine rf_sipush c_214_71 ks_150 ?_
      refine rf_bipush c_214_74 kb_6 ?_
      refine rf_ald (i := 0) (Or.inr ⟨0, rfl, rfl, rfl⟩) c_214_76 rfl ?_
      refine rf_getr hS c_214_77 rfl fl_12_19 rfl h_x0 ?_
      refine rf_ild (i := 5) (Or.inl ⟨rfl, rfl⟩) c_214_80 rfl ?_
      refine rf_iconst c_214_82 ki_1 ?_
      refine rf_isub c_214_83 ?_
      refine rf_ite (fun hb84 => ?_) (fun _ => rf_none)
      refine rf_iald hS c_214_84 (tf_12_4 h_x0) (lf_12_4 h_x0) hb84 ?_
      refine rf_imul c_214_85 ?_
      refine rf_iadd c_214_86 ?_
      refine rf_ild (i := 6) (Or.inl ⟨rfl, rfl⟩) c_214_87 rfl ?_
      refine rf_iadd c_214_89 ?_
      refine rf_ite (fun hb90 => ?_) (fun _ => rf_none)
      refine rf_iald hS c_214_90 (tf_12_0 h_x0) (lf_12_0 h_x0) hb90 ?_
      refine rf_ite (fun hc91 => ?_) (fun hc91 => ?_)
      · refine rf_b1t c_214_91 rfl (decide_eq_true hc91) ?_
        exact t_Mo_findWay_105 hS hd hk40 ih x0 x2 x4 x5 x6 (u1) (u3) (u7) σ h_x0
      · refine rf_b1f c_214_91 rfl (decide_eq_false hc91) ?_
        refine rf_ald (i := 0) (Or.inr ⟨0, rfl, rfl, rfl⟩) c_214_94 rfl ?_
        refine rf_ild (i := 6) (Or.inl ⟨rfl, rfl⟩) c_214_95 rfl ?_
        refine rf_ild (i := 5) (Or.inl ⟨rfl, rfl⟩) c_214_97 rfl ?_
        refine rf_callI (as := [.ref x0, .int x6, .int x5]) (kd := 1) c_214_99 rfl (by decide) rfl ml_12_121 (by decide) rfl (rcv_1 hS rfl rfl h_x0 (by decide)) (Nat.zero_le _) rfl rfl (t_Mo_isOnWay hS (by omega) σ x0 x6 x5 h_x0) (fun v99 => ?_)
        refine rf_ite (fun hc102 => ?_) (fun hc102 => ?_)
        · refine rf_b1t c_214_102 rfl (decide_eq_true hc102) ?_
          exact t_Mo_findWay_111 hS hd hk40 x0 x2 x4 x5 x6 (u1) (u3) (u7) σ h_x0
        · refine rf_b1f c_214_102 rfl (decide_eq_false hc102) ?_
          exact t_Mo_findWay_105 hS hd hk40 ih x0 x2 x4 x5 x6 (u1) (u3) (u7) σ h_x0
def f_Mo_findWay_40 : Nat → Nat → Int32 → Int32 → Int32 → Mm → Option Mm
  | 0, _, _, _, _, _ => none
  | n + 1, x0, x2, x4, x5, σ => (if x5 ≤ 0 then (some σ) else (if inbB x5 7 = true then f_Mo_findWay_56 (f_Mo_findWay_40  n) NN x0 x2 x4 x5 ((σ (rfT x0 4) (ix x5)) + (1 : Int32)) σ else none))
set_option maxRecDepth 100000 in
set_option maxHeartbeats 4000000 in
theorem t_Mo_findWay_40 {X : Xt} {S : Sh} (hS : ShOK S) {d : Nat} (hd : 1 ≤ d + 1) : ∀ (n : Nat) (x0 : Nat) (x2 : Int32) (x4 : Int32) (x5 : Int32) (u1 : Value) (u3 : Value) (u6 : Value) (u7 : Value) (σ : Mm) (h_x0 : tgT x0 = 12), Rf X S emV (f_Mo_findWay_40 n x0 x2 x4 x5 σ) (d + 1) 214 40 [.ref x0, u1, .int x2, u3, .int x4, .int x5, u6, u7] [] σ := by
  intro n
  induction n with
  | zero => intro x0 x2 x4 x5 u1 u3 u6 u7 σ h_x0; exact rf_none
  | succ n ih =>
    intro x0 x2 x4 x5 u1 u3 u6 u7 σ h_x0
    rw [f_Mo_findWay_40]
    refine rf_ild (i := 5) (Or.inl ⟨rfl, rfl⟩) c_214_40 rfl ?_
    refine rf_ite (fun hc42 => ?_) (fun hc42 => ?_)
    · refine rf_b1t c_214_42 rfl (decide_eq_true hc42) ?_
      exact rf_vret c_214_208 rfl rfl
    · refine rf_b1f c_214_42 rfl (decide_eq_false hc42) ?_
      refine rf_ald (i := 0) (Or.inr ⟨0, rfl, rfl, rfl⟩) c_214_45 rfl ?_
      refine rf_getr hS c_214_46 rfl fl_12_19 rfl h_x0 ?_
      refine rf_ild (i := 5) (Or.inl ⟨rfl, rfl⟩) c_214_49 rfl ?_
      refine rf_ite (fun hb51 => ?_) (fun _ => rf_none)
      refine rf_iald hS c_214_51 (tf_12_4 h_x0) (lf_12_4 h_x0) hb51 ?_
      refine rf_iconst c_214_52 ki_1 ?_
      refine rf_iadd c_214_53 ?_
      refine rf_ist (i := 6) (Or.inl ⟨rfl, rfl⟩) c_214_54 (Nat.le_of_ble_eq_true rfl) rfl ?_
      exact t_Mo_findWay_56 hS hd ih NN x0 x2 x4 x5 ((σ (rfT x0 4) (ix x5)) + (1 : Int32)) (u1) (u3) (u7) σ h_x0
def f_Mo_findWay (x0 : Nat) (x1 : Int32) (x2 : Int32) (x3 : Int32) (x4 : Int32) (σ : Mm) : Option Mm := nmM (up2 σ x0 7 (0 : Int32)) fun σ2 => nmM (up2 σ2 (rfT x0 4) (ix (0 : Int32)) x1) fun σ11 => nmM (up2 σ11 (rfT x0 5) (ix (0 : Int32)) x3) fun σ18 => (if ¬ x1 = x2 then (nmM (up2 σ18 (rfT x0 4) (ix (1 : Int32)) (-1 : Int32)) fun σ39 => f_Mo_findWay_40  NN x0 x2 x4 (1 : Int32) σ39) else ((f_Mo_judgeWay x0 (1 : Int32) σ18).bind fun v26 => some v26))
set_option maxRecDepth 100000 in
set_option maxHeartbeats 4000000 in
theorem t_Mo_findWay_e {X : Xt} {S : Sh} (hS : ShOK S) {d : Nat} (hd : 1 ≤ d + 1) (x0 : Nat) (x1 : Int32) (x2 : Int32) (x3 : Int32) (x4 : Int32) (σ : Mm) (h_x0 : tgT x0 = 12) : Rf X S emV (f_Mo_findWay x0 x1 x2 x3 x4 σ) (d + 1) 214 0 [.ref x0, .int x1, .int x2, .int x3, .int x4, unset0, unset0, unset0] [] σ := by
  unfold f_Mo_findWay
  refine rf_ald (i := 0) (Or.inr ⟨0, rfl, rfl, rfl⟩) c_214_0 rfl ?_
  refine rf_iconst c_214_1 ki_0 ?_
  refine rf_puti hS c_214_2 rfl fl_12_110 rfl rfl rfl rfl h_x0 ?_
  refine rf_nm (fun σ2 => ?_)
  refine rf_ald (i := 0) (Or.inr ⟨0, rfl, rfl, rfl⟩) c_214_5 rfl ?_
  refine rf_getr hS c_214_6 rfl fl_12_19 rfl h_x0 ?_
  refine rf_iconst c_214_9 ki_0 ?_
  refine rf_ild (i := 1) (Or.inr ⟨1, rfl, rfl, rfl⟩) c_214_10 rfl ?_
  refine rf_iast hS c_214_11 (tf_12_4 h_x0) (lf_12_4 h_x0) (by decide) ?_
  refine rf_nm (fun σ11 => ?_)
  refine rf_ald (i := 0) (Or.inr ⟨0, rfl, rfl, rfl⟩) c_214_12 rfl ?_
  refine rf_getr hS c_214_13 rfl fl_12_22 rfl h_x0 ?_
  refine rf_iconst c_214_16 ki_0 ?_
  refine rf_ild (i := 3) (Or.inr ⟨3, rfl, rfl, rfl⟩) c_214_17 rfl ?_
  refine rf_iast hS c_214_18 (tf_12_5 h_x0) (lf_12_5 h_x0) (by decide) ?_
  refine rf_nm (fun σ18 => ?_)
  refine rf_ild (i := 1) (Or.inr ⟨1, rfl, rfl, rfl⟩) c_214_19 rfl ?_
  refine rf_ild (i := 2) (Or.inr ⟨2, rfl, rfl, rfl⟩) c_214_20 rfl ?_
  refine rf_ite (fun hc21 => ?_) (fun hc21 => ?_)
  · refine rf_b2t c_214_21 rfl (decide_eq_true hc21) ?_
    refine rf_iconst c_214_30 ki_1 ?_
    refine rf_ist (i := 5) (Or.inl ⟨rfl, rfl⟩) c_214_31 (Nat.le_of_ble_eq_true rfl) rfl ?_
    refine rf_ald (i := 0) (Or.inr ⟨0, rfl, rfl, rfl⟩) c_214_33 rfl ?_
    refine rf_getr hS c_214_34 rfl fl_12_19 rfl h_x0 ?_
    refine rf_iconst c_214_37 ki_1 ?_
    refine rf_iconst c_214_38 ki_m1 ?_
    refine rf_iast hS c_214_39 (tf_12_4 h_x0) (lf_12_4 h_x0) (by decide) ?_
    refine rf_nm (fun σ39 => ?_)
    exact t_Mo_findWay_40 hS hd  NN x0 x2 x4 (1 : Int32) (.int x1) (.int x3) (unset0) (unset0) σ39 h_x0
  · refine rf_b2f c_214_21 rfl (decide_eq_false hc21) ?_
    refine rf_ald (i := 0) (Or.inr ⟨0, rfl, rfl, rfl⟩) c_214_24 rfl ?_
    refine rf_iconst c_214_25 ki_1 ?_
    refine rf_callV (as := [.ref x0, .int (1 : Int32)]) (kd := 1) c_214_26 rfl (by decide) rfl ml_12_117 (by decide) rfl (rcv_1 hS rfl rfl h_x0 (by decide)) (Nat.zero_le _) rfl rfl (t_Mo_judgeWay hS (by omega) x0 (1 : Int32) σ18 h_x0) (fun v26 => ?_)
    exact rf_vret c_214_29 rfl rfl
theorem t_Mo_findWay {X : Xt} {S : Sh} (hS : ShOK S) {d : Nat} (hd : 1 ≤ d) (x0 : Nat) (x1 : Int32) (x2 : Int32) (x3 : Int32) (x4 : Int32) (σ : Mm) (h_x0 : tgT x0 = 12) : Rf X S emV (f_Mo_findWay x0 x1 x2 x3 x4 σ) d 214 0 [.ref x0, .int x1, .int x2, .int x3, .int x4, unset0, unset0, unset0] [] σ := by
  obtain ⟨d1, rfl⟩ : ∃ d1, d = d1 + 1 := ⟨d - 1, by omega⟩
  exact t_Mo_findWay_e hS hd x0 x1 x2 x3 x4 σ h_x0
theorem c_215_0 : cd 215 0 = some (.iload_n 1, 1) := by decide +kernel
theorem c_215_1 : cd 215 1 = some (.ifCond .lt (47), 3) := by decide +kernel
theorem c_215_4 : cd 215 4 = some (.aload_n 0, 1) := by decide +kernel
theorem c_215_5 : cd 215 5 = some (.iload_n 1, 1) := by decide +kernel
theorem c_215_6 : cd 215 6 = some (.bipush (10), 2) := by decide +kernel
theorem c_215_8 : cd 215 8 = some (.idiv, 1) := by decide +kernel
theorem c_215_9 : cd 215 9 = some (.invokevirtual 103, 3) := by decide +kernel
theorem c_215_12 : cd 215 12 = some (.ifCond .eq (36), 3) := by decide +kernel
theorem c_215_15 : cd 215 15 = some (.aload_n 0, 1) := by decide +kernel
theorem c_215_16 : cd 215 16 = some (.iload_n 1, 1) := by decide +kernel
theorem c_215_17 : cd 215 17 = some (.bipush (10), 2) := by decide +kernel
theorem c_215_19 : cd 215 19 = some (.irem, 1) := by decide +kernel
theorem c_215_20 : cd 215 20 = some (.invokevirtual 103, 3) := by decide +kernel
theorem c_215_23 : cd 215 23 = some (.ifCond .eq (25), 3) := by decide +kernel
theorem c_215_26 : cd 215 26 = some (.iload_n 2, 1) := by decide +kernel
theorem c_215_27 : cd 215 27 = some (.invokestatic 100, 3) := by decide +kernel
theorem c_215_30 : cd 215 30 = some (.ifCond .eq (18), 3) := by decide +kernel
theorem c_215_33 : cd 215 33 = some (.iload_n 3, 1) := by decide +kernel
theorem c_215_34 : cd 215 34 = some (.iconst (0), 1) := by decide +kernel
theorem c_215_35 : cd 215 35 = some (.bipush (30), 2) := by decide +kernel
theorem c_215_37 : cd 215 37 = some (.invokestatic 82, 3) := by decide +kernel
theorem c_215_40 : cd 215 40 = some (.ifCond .eq (8), 3) := by decide +kernel
theorem c_215_43 : cd 215 43 = some (.iload 4, 2) := by decide +kernel
theorem c_215_45 : cd 215 45 = some (.ifCond .ge (6), 3) := by decide +kernel
theorem c_215_48 : cd 215 48 = some (.ldc 91, 2) := by decide +kernel
theorem c_215_50 : cd 215 50 = some (.ireturn, 1) := by decide +kernel
theorem c_215_51 : cd 215 51 = some (.aload_n 0, 1) := by decide +kernel
theorem c_215_52 : cd 215 52 = some (.iload_n 1, 1) := by decide +kernel
theorem c_215_53 : cd 215 53 = some (.bipush (10), 2) := by decide +kernel
theorem c_215_55 : cd 215 55 = some (.idiv, 1) := by decide +kernel
theorem c_215_56 : cd 215 56 = some (.iload_n 1, 1) := by decide +kernel
theorem c_215_57 : cd 215 57 = some (.bipush (10), 2) := by decide +kernel
theorem c_215_59 : cd 215 59 = some (.irem, 1) := by decide +kernel
theorem c_215_60 : cd 215 60 = some (.iload_n 2, 1) := by decide +kernel
theorem c_215_61 : cd 215 61 = some (.iload_n 3, 1) := by decide +kernel
theorem c_215_62 : cd 215 62 = some (.invokevirtual 124, 3) := by decide +kernel
theorem c_215_65 : cd 215 65 = some (.aload_n 0, 1) := by decide +kernel
theorem c_215_66 : cd 215 66 = some (.getfield 110, 3) := by decide +kernel
theorem c_215_69 : cd 215 69 = some (.ifCond .ne (6), 3) := by decide +kernel
theorem c_215_72 : cd 215 72 = some (.ldc 81, 2) := by decide +kernel
theorem c_215_74 : cd 215 74 = some (.ireturn, 1) := by decide +kernel
theorem c_215_75 : cd 215 75 = some (.iload 4, 2) := by decide +kernel
theorem c_215_77 : cd 215 77 = some (.ifCond .ne (10), 3) := by decide +kernel
theorem c_215_80 : cd 215 80 = some (.aload_n 0, 1) := by decide +kernel
theorem c_215_81 : cd 215 81 = some (.getfield 114, 3) := by decide +kernel
theorem c_215_84 : cd 215 84 = some (.goto (41), 3) := by decide +kernel
theorem c_215_87 : cd 215 87 = some (.iload 4, 2) := by decide +kernel
theorem c_215_89 : cd 215 89 = some (.iconst (1), 1) := by decide +kernel
theorem c_215_90 : cd 215 90 = some (.if_icmp .ne (10), 3) := by decide +kernel
theorem c_215_93 : cd 215 93 = some (.aload_n 0, 1) := by decide +kernel
theorem c_215_94 : cd 215 94 = some (.getfield 110, 3) := by decide +kernel
theorem c_215_97 : cd 215 97 = some (.goto (28), 3) := by decide +kernel
theorem c_215_100 : cd 215 100 = some (.iload 4, 2) := by decide +kernel
theorem c_215_102 : cd 215 102 = some (.iconst (2), 1) := by decide +kernel
theorem c_215_103 : cd 215 103 = some (.isub, 1) := by decide +kernel
theorem c_215_104 : cd 215 104 = some (.aload_n 0, 1) := by decide +kernel
theorem c_215_105 : cd 215 105 = some (.getfield 110, 3) := by decide +kernel
theorem c_215_108 : cd 215 108 = some (.if_icmp .ge (15), 3) := by decide +kernel
theorem c_215_111 : cd 215 111 = some (.aload_n 0, 1) := by decide +kernel
theorem c_215_112 : cd 215 112 = some (.getfield 25, 3) := by decide +kernel
theorem c_215_115 : cd 215 115 = some (.iload 4, 2) := by decide +kernel
theorem c_215_117 : cd 215 117 = some (.iconst (2), 1) := by decide +kernel
theorem c_215_118 : cd 215 118 = some (.isub, 1) := by decide +kernel
theorem c_215_119 : cd 215 119 = some (.iaload, 1) := by decide +kernel
theorem c_215_120 : cd 215 120 = some (.goto (5), 3) := by decide +kernel
theorem c_215_123 : cd 215 123 = some (.ldc 81, 2) := by decide +kernel
theorem c_215_125 : cd 215 125 = some (.ireturn, 1) := by decide +kernel
def f_Mo_way_48 (σ : Mm) : Option (Int32 × Mm) := some ((-1000000001 : Int32), σ)
set_option maxRecDepth 100000 in
set_option maxHeartbeats 4000000 in
theorem t_Mo_way_48 {X : Xt} {S : Sh} (hS : ShOK S) {d : Nat} (hd : 2 ≤ d + 1) (u0 : Value) (u1 : Value) (u2 : Value) (u3 : Value) (u4 : Value) (σ : Mm) : Rf X S emM (f_Mo_way_48 σ) (d + 1) 215 48 [u0, u1, u2, u3, u4] [] σ := by
  unfold f_Mo_way_48
  refine rf_ldc (Or.inl ⟨rfl, rfl⟩) c_215_48 rfl kl_12_91 ?_
  exact rf_ret c_215_50 rfl rfl rfl rfl
def f_Mo_way_125 (y0 : Int32) (σ : Mm) : Option (Int32 × Mm) := some (y0, σ)
set_option maxRecDepth 100000 in
set_option maxHeartbeats 4000000 in
theorem t_Mo_way_125 {X : Xt} {S : Sh} (hS : ShOK S) {d : Nat} (hd : 2 ≤ d + 1) (y0 : Int32) (u0 : Value) (u1 : Value) (u2 : Value) (u3 : Value) (u4 : Value) (σ : Mm) : Rf X S emM (f_Mo_way_125 y0 σ) (d + 1) 215 125 [u0, u1, u2, u3, u4] [.int y0] σ := by
  unfold f_Mo_way_125
  exact rf_ret c_215_125 rfl rfl rfl rfl
def f_Mo_way (x0 : Nat) (x1 : Int32) (x2 : Int32) (x3 : Int32) (x4 : Int32) (σ : Mm) : Option (Int32 × Mm) := (if x1 < 0 then (f_Mo_way_48  σ) else ((f_Mo_isTable σ x0 (x1 / (10 : Int32))).bind fun v9 => (if v9 = 0 then (f_Mo_way_48  σ) else ((f_Mo_isTable σ x0 (irm x1 (10 : Int32))).bind fun v20 => (if v20 = 0 then (f_Mo_way_48  σ) else ((f_Mo_isDay σ x2).bind fun v27 => (if v27 = 0 then (f_Mo_way_48  σ) else ((f_Mo_in σ x3 (0 : Int32) (30 : Int32)).bind fun v37 => (if v37 = 0 then (f_Mo_way_48  σ) else (if 0 ≤ x4 then ((f_Mo_findWay x0 (x1 / (10 : Int32)) (irm x1 (10 : Int32)) x2 x3 σ).bind fun v62 => (if ¬ (v62 x0 7) = 0 then (if ¬ x4 = 0 then (if ¬ x4 = (1 : Int32) then (if (v62 x0 7) ≤ (x4 - (2 : Int32)) then (f_Mo_way_125  (-1000000005 : Int32) v62) else (if inbB (x4 - (2 : Int32)) 6 = true then f_Mo_way_125  (v62 (rfT x0 6) (ix (x4 - (2 : Int32)))) v62 else none)) else (f_Mo_way_125  (v62 x0 7) v62)) else (f_Mo_way_125  (v62 x0 8) v62)) else (some ((-1000000005 : Int32), v62)))) else (f_Mo_way_48  σ)))))))))))
set_option maxRecDepth 100000 in
set_option maxHeartbeats 4000000 in
theorem t_Mo_way_e {X : Xt} {S : Sh} (hS : ShOK S) {d : Nat} (hd : 2 ≤ d + 1) (x0 : Nat) (x1 : Int32) (x2 : Int32) (x3 : Int32) (x4 : Int32) (σ : Mm) (h_x0 : tgT x0 = 12) : Rf X S emM (f_Mo_way x0 x1 x2 x3 x4 σ) (d + 1) 215 0 [.ref x0, .int x1, .int x2, .int x3, .int x4] [] σ := by
  unfold f_Mo_way
  refine rf_ild (i := 1) (Or.inr ⟨1, rfl, rfl, rfl⟩) c_215_0 rfl ?_
  refine rf_ite (fun hc1 => ?_) (fun hc1 => ?_)
  · refine rf_b1t c_215_1 rfl (decide_eq_true hc1) ?_
    exact t_Mo_way_48 hS hd  (.ref x0) (.int x1) (.int x2) (.int x3) (.int x4) σ
  · refine rf_b1f c_215_1 rfl (decide_eq_false hc1) ?_
    refine rf_ald (i := 0) (Or.inr ⟨0, rfl, rfl, rfl⟩) c_215_4 rfl ?_
    refine rf_ild (i := 1) (Or.inr ⟨1, rfl, rfl, rfl⟩) c_215_5 rfl ?_
    refine rf_bipush c_215_6 kb_10 ?_
    refine rf_idiv c_215_8 (by decide) ?_
    refine rf_callI (as := [.ref x0, .int (x1 / (10 : Int32))]) (kd := 1) c_215_9 rfl (by decide) rfl ml_12_103 (by decide) rfl (rcv_1 hS rfl rfl h_x0 (by decide)) (Nat.zero_le _) rfl rfl (t_Mo_isTable hS (by omega) σ x0 (x1 / (10 : Int32)) h_x0) (fun v9 => ?_)
    refine rf_ite (fun hc12 => ?_) (fun hc12 => ?_)
    · refine rf_b1t c_215_12 rfl (decide_eq_true hc12) ?_
      exact t_Mo_way_48 hS hd  (.ref x0) (.int x1) (.int x2) (.int x3) (.int x4) σ
    · refine rf_b1f c_215_12 rfl (decide_eq_false hc12) ?_
      refine rf_ald (i := 0) (Or.inr ⟨0, rfl, rfl, rfl⟩) c_215_15 rfl ?_
      refine rf_ild (i := 1) (Or.inr ⟨1, rfl, rfl, rfl⟩) c_215_16 rfl ?_
      refine rf_bipush c_215_17 kb_10 ?_
      refine rf_irem c_215_19 (by decide) ?_
      refine rf_callI (as := [.ref x0, .int (irm x1 (10 : Int32))]) (kd := 1) c_215_20 rfl (by decide) rfl ml_12_103 (by decide) rfl (rcv_1 hS rfl rfl h_x0 (by decide)) (Nat.zero_le _) rfl rfl (t_Mo_isTable hS (by omega) σ x0 (irm x1 (10 : Int32)) h_x0) (fun v20 => ?_)
      refine rf_ite (fun hc23 => ?_) (fun hc23 => ?_)
      · refine rf_b1t c_215_23 rfl (decide_eq_true hc23) ?_
        exact t_Mo_way_48 hS hd  (.ref x0) (.int x1) (.int x2) (.int x3) (.int x4) σ
      · refine rf_b1f c_215_23 rfl (decide_eq_false hc23) ?_
        refine rf_ild (i := 2) (Or.inr ⟨2, rfl, rfl, rfl⟩) c_215_26 rfl ?_
        refine rf_callI (as := [.int x2]) (kd := 0) c_215_27 rfl (by decide) rfl ml_12_100 (by decide) rfl (rcv_0 rfl) (Nat.zero_le _) rfl rfl (t_Mo_isDay hS (by omega) σ x2) (fun v27 => ?_)
        refine rf_ite (fun hc30 => ?_) (fun hc30 => ?_)
        · refine rf_b1t c_215_30 rfl (decide_eq_true hc30) ?_
          exact t_Mo_way_48 hS hd  (.ref x0) (.int x1) (.int x2) (.int x3) (.int x4) σ
        · refine rf_b1f c_215_30 rfl (decide_eq_false hc30) ?_
          refine rf_ild (i := 3) (Or.inr ⟨3, rfl, rfl, rfl⟩) c_215_33 rfl ?_
          refine rf_iconst c_215_34 ki_0 ?_
          refine rf_bipush c_215_35 kb_30 ?_
          refine rf_callI (as := [.int x3, .int (0 : Int32), .int (30 : Int32)]) (kd := 0) c_215_37 rfl (by decide) rfl ml_12_82 (by decide) rfl (rcv_0 rfl) (Nat.zero_le _) rfl rfl (t_Mo_in hS (by omega) σ x3 (0 : Int32) (30 : Int32)) (fun v37 => ?_)
          refine rf_ite (fun hc40 => ?_) (fun hc40 => ?_)
          · refine rf_b1t c_215_40 rfl (decide_eq_true hc40) ?_
            exact t_Mo_way_48 hS hd  (.ref x0) (.int x1) (.int x2) (.int x3) (.int x4) σ
          · refine rf_b1f c_215_40 rfl (decide_eq_false hc40) ?_
            refine rf_ild (i := 4) (Or.inl ⟨rfl, rfl⟩) c_215_43 rfl ?_
            refine rf_ite (fun hc45 => ?_) (fun hc45 => ?_)
            · refine rf_b1t c_215_45 rfl (decide_eq_true hc45) ?_
              refine rf_ald (i := 0) (Or.inr ⟨0, rfl, rfl, rfl⟩) c_215_51 rfl ?_
              refine rf_ild (i := 1) (Or.inr ⟨1, rfl, rfl, rfl⟩) c_215_52 rfl ?_
              refine rf_bipush c_215_53 kb_10 ?_
              refine rf_idiv c_215_55 (by decide) ?_
              refine rf_ild (i := 1) (Or.inr ⟨1, rfl, rfl, rfl⟩) c_215_56 rfl ?_
              refine rf_bipush c_215_57 kb_10 ?_
              refine rf_irem c_215_59 (by decide) ?_
              refine rf_ild (i := 2) (Or.inr ⟨2, rfl, rfl, rfl⟩) c_215_60 rfl ?_
              refine rf_ild (i := 3) (Or.inr ⟨3, rfl, rfl, rfl⟩) c_215_61 rfl ?_
              refine rf_callV (as := [.ref x0, .int (x1 / (10 : Int32)), .int (irm x1 (10 : Int32)), .int x2, .int x3]) (kd := 1) c_215_62 rfl (by decide) rfl ml_12_124 (by decide) rfl (rcv_1 hS rfl rfl h_x0 (by decide)) (Nat.zero_le _) rfl rfl (t_Mo_findWay hS (by omega) x0 (x1 / (10 : Int32)) (irm x1 (10 : Int32)) x2 x3 σ h_x0) (fun v62 => ?_)
              refine rf_ald (i := 0) (Or.inr ⟨0, rfl, rfl, rfl⟩) c_215_65 rfl ?_
              refine rf_geti hS c_215_66 rfl fl_12_110 rfl h_x0 ?_
              refine rf_ite (fun hc69 => ?_) (fun hc69 => ?_)
              · refine rf_b1t c_215_69 rfl (decide_eq_true hc69) ?_
                refine rf_ild (i := 4) (Or.inl ⟨rfl, rfl⟩) c_215_75 rfl ?_
                refine rf_ite (fun hc77 => ?_) (fun hc77 => ?_)
                · refine rf_b1t c_215_77 rfl (decide_eq_true hc77) ?_
                  refine rf_ild (i := 4) (Or.inl ⟨rfl, rfl⟩) c_215_87 rfl ?_
                  refine rf_iconst c_215_89 ki_1 ?_
                  refine rf_ite (fun hc90 => ?_) (fun hc90 => ?_)
                  · refine rf_b2t c_215_90 rfl (decide_eq_true hc90) ?_
                    refine rf_ild (i := 4) (Or.inl ⟨rfl, rfl⟩) c_215_100 rfl ?_
                    refine rf_iconst c_215_102 ki_2 ?_
                    refine rf_isub c_215_103 ?_
                    refine rf_ald (i := 0) (Or.inr ⟨0, rfl, rfl, rfl⟩) c_215_104 rfl ?_
                    refine rf_geti hS c_215_105 rfl fl_12_110 rfl h_x0 ?_
                    refine rf_ite (fun hc108 => ?_) (fun hc108 => ?_)
                    · refine rf_b2t c_215_108 rfl (decide_eq_true hc108) ?_
                      refine rf_ldc (Or.inl ⟨rfl, rfl⟩) c_215_123 rfl kl_12_81 ?_
                      exact t_Mo_way_125 hS hd  (-1000000005 : Int32) (.ref x0) (.int x1) (.int x2) (.int x3) (.int x4) v62
                    · refine rf_b2f c_215_108 rfl (decide_eq_false hc108) ?_
                      refine rf_ald (i := 0) (Or.inr ⟨0, rfl, rfl, rfl⟩) c_215_111 rfl ?_
                      refine rf_getr hS c_215_112 rfl fl_12_25 rfl h_x0 ?_
                      refine rf_ild (i := 4) (Or.inl ⟨rfl, rfl⟩) c_215_115 rfl ?_
                      refine rf_iconst c_215_117 ki_2 ?_
                      refine rf_isub c_215_118 ?_
                      refine rf_ite (fun hb119 => ?_) (fun _ => rf_none)
                      refine rf_iald hS c_215_119 (tf_12_6 h_x0) (lf_12_6 h_x0) hb119 ?_
                      refine rf_goto c_215_120 rfl ?_
                      exact t_Mo_way_125 hS hd  (v62 (rfT x0 6) (ix (x4 - (2 : Int32)))) (.ref x0) (.int x1) (.int x2) (.int x3) (.int x4) v62
                  · refine rf_b2f c_215_90 rfl (decide_eq_false hc90) ?_
                    refine rf_ald (i := 0) (Or.inr ⟨0, rfl, rfl, rfl⟩) c_215_93 rfl ?_
                    refine rf_geti hS c_215_94 rfl fl_12_110 rfl h_x0 ?_
                    refine rf_goto c_215_97 rfl ?_
                    exact t_Mo_way_125 hS hd  (v62 x0 7) (.ref x0) (.int x1) (.int x2) (.int x3) (.int x4) v62
                · refine rf_b1f c_215_77 rfl (decide_eq_false hc77) ?_
                  refine rf_ald (i := 0) (Or.inr ⟨0, rfl, rfl, rfl⟩) c_215_80 rfl ?_
                  refine rf_geti hS c_215_81 rfl fl_12_114 rfl h_x0 ?_
                  refine rf_goto c_215_84 rfl ?_
                  exact t_Mo_way_125 hS hd  (v62 x0 8) (.ref x0) (.int x1) (.int x2) (.int x3) (.int x4) v62
              · refine rf_b1f c_215_69 rfl (decide_eq_false hc69) ?_
                refine rf_ldc (Or.inl ⟨rfl, rfl⟩) c_215_72 rfl kl_12_81 ?_
                exact rf_ret c_215_74 rfl rfl rfl rfl
            · refine rf_b1f c_215_45 rfl (decide_eq_false hc45) ?_
              exact t_Mo_way_48 hS hd  (.ref x0) (.int x1) (.int x2) (.int x3) (.int x4) σ
theorem t_Mo_way {X : Xt} {S : Sh} (hS : ShOK S) {d : Nat} (hd : 2 ≤ d) (x0 : Nat) (x1 : Int32) (x2 : Int32) (x3 : Int32) (x4 : Int32) (σ : Mm) (h_x0 : tgT x0 = 12) : Rf X S emM (f_Mo_way x0 x1 x2 x3 x4 σ) d 215 0 [.ref x0, .int x1, .int x2, .int x3, .int x4] [] σ := by
  obtain ⟨d1, rfl⟩ : ∃ d1, d = d1 + 1 := ⟨d - 1, by omega⟩
  exact t_Mo_way_e hS hd x0 x1 x2 x3 x4 σ h_x0
theorem c_216_0 : cd 216 0 = some (.iload_n 1, 1) := by decide +kernel
theorem c_216_1 : cd 216 1 = some (.ifCond .eq (28), 3) := by decide +kernel
theorem c_216_4 : cd 216 4 = some (.iload_n 0, 1) := by decide +kernel
theorem c_216_5 : cd 216 5 = some (.iload_n 1, 1) := by decide +kernel
theorem c_216_6 : cd 216 6 = some (.if_icmp .eq (23), 3) := by decide +kernel
theorem c_216_9 : cd 216 9 = some (.iload_n 1, 1) := by decide +kernel
theorem c_216_10 : cd 216 10 = some (.iconst (2), 1) := by decide +kernel
theorem c_216_11 : cd 216 11 = some (.if_icmp .ne (8), 3) := by decide +kernel
theorem c_216_14 : cd 216 14 = some (.iload_n 0, 1) := by decide +kernel
theorem c_216_15 : cd 216 15 = some (.iconst (3), 1) := by decide +kernel
theorem c_216_16 : cd 216 16 = some (.if_icmp .eq (13), 3) := by decide +kernel
theorem c_216_19 : cd 216 19 = some (.iload_n 1, 1) := by decide +kernel
theorem c_216_20 : cd 216 20 = some (.iconst (1), 1) := by decide +kernel
theorem c_216_21 : cd 216 21 = some (.if_icmp .ne (12), 3) := by decide +kernel
theorem c_216_24 : cd 216 24 = some (.iload_n 0, 1) := by decide +kernel
theorem c_216_25 : cd 216 25 = some (.iconst (4), 1) := by decide +kernel
theorem c_216_26 : cd 216 26 = some (.if_icmp .ne (7), 3) := by decide +kernel
theorem c_216_29 : cd 216 29 = some (.iconst (1), 1) := by decide +kernel
theorem c_216_30 : cd 216 30 = some (.goto (4), 3) := by decide +kernel
theorem c_216_33 : cd 216 33 = some (.iconst (0), 1) := by decide +kernel
theorem c_216_34 : cd 216 34 = some (.ireturn, 1) := by decide +kernel
def f_Mo_isUnder_34 (σ : Mm) (y0 : Int32) : Option Int32 := if zB y0 = true then some y0 else none
set_option maxRecDepth 100000 in
set_option maxHeartbeats 4000000 in
theorem t_Mo_isUnder_34 {X : Xt} {S : Sh} (hS : ShOK S) {d : Nat} (hd : 0 ≤ d) (σ : Mm) (y0 : Int32) (u0 : Value) (u1 : Value) : Rf X S (emI σ) (f_Mo_isUnder_34 σ y0) d 216 34 [u0, u1] [.int y0] σ := by
  unfold f_Mo_isUnder_34
  refine rf_ite (fun hq34 => ?_) (fun _ => rf_none)
  exact rf_ret c_216_34 rfl (zB_n hq34) rfl rfl
def f_Mo_isUnder_29 (σ : Mm) : Option Int32 := f_Mo_isUnder_34 σ (1 : Int32)
set_option maxRecDepth 100000 in
set_option maxHeartbeats 4000000 in
theorem t_Mo_isUnder_29 {X : Xt} {S : Sh} (hS : ShOK S) {d : Nat} (hd : 0 ≤ d) (σ : Mm) (u0 : Value) (u1 : Value) : Rf X S (emI σ) (f_Mo_isUnder_29 σ) d 216 29 [u0, u1] [] σ := by
  unfold f_Mo_isUnder_29
  refine rf_iconst c_216_29 ki_1 ?_
  refine rf_goto c_216_30 rfl ?_
  exact t_Mo_isUnder_34 hS hd σ  (1 : Int32) (u0) (u1)
def f_Mo_isUnder_33 (σ : Mm) : Option Int32 := f_Mo_isUnder_34 σ (0 : Int32)
set_option maxRecDepth 100000 in
set_option maxHeartbeats 4000000 in
theorem t_Mo_isUnder_33 {X : Xt} {S : Sh} (hS : ShOK S) {d : Nat} (hd : 0 ≤ d) (σ : Mm) (u0 : Value) (u1 : Value) : Rf X S (emI σ) (f_Mo_isUnder_33 σ) d 216 33 [u0, u1] [] σ := by
  unfold f_Mo_isUnder_33
  refine rf_iconst c_216_33 ki_0 ?_
  exact t_Mo_isUnder_34 hS hd σ  (0 : Int32) (u0) (u1)
def f_Mo_isUnder_19 (σ : Mm) (x0 : Int32) (x1 : Int32) : Option Int32 := (if ¬ x1 = (1 : Int32) then (f_Mo_isUnder_33 σ ) else (if ¬ x0 = (4 : Int32) then (f_Mo_isUnder_33 σ ) else (f_Mo_isUnder_29 σ )))
set_option maxRecDepth 100000 in
set_option maxHeartbeats 4000000 in
theorem t_Mo_isUnder_19 {X : Xt} {S : Sh} (hS : ShOK S) {d : Nat} (hd : 0 ≤ d) (σ : Mm) (x0 : Int32) (x1 : Int32) : Rf X S (emI σ) (f_Mo_isUnder_19 σ x0 x1) d 216 19 [.int x0, .int x1] [] σ := by
  unfold f_Mo_isUnder_19
  refine rf_ild (i := 1) (Or.inr ⟨1, rfl, rfl, rfl⟩) c_216_19 rfl ?_
  refine rf_iconst c_216_20 ki_1 ?_
  refine rf_ite (fun hc21 => ?_) (fun hc21 => ?_)
  · refine rf_b2t c_216_21 rfl (decide_eq_true hc21) ?_
    exact t_Mo_isUnder_33 hS hd σ  (.int x0) (.int x1)
  · refine rf_b2f c_216_21 rfl (decide_eq_false hc21) ?_
    refine rf_ild (i := 0) (Or.inr ⟨0, rfl, rfl, rfl⟩) c_216_24 rfl ?_
    refine rf_iconst c_216_25 ki_4 ?_
    refine rf_ite (fun hc26 => ?_) (fun hc26 => ?_)
    · refine rf_b2t c_216_26 rfl (decide_eq_true hc26) ?_
      exact t_Mo_isUnder_33 hS hd σ  (.int x0) (.int x1)
    · refine rf_b2f c_216_26 rfl (decide_eq_false hc26) ?_
      exact t_Mo_isUnder_29 hS hd σ  (.int x0) (.int x1)
def f_Mo_isUnder (σ : Mm) (x0 : Int32) (x1 : Int32) : Option Int32 := (if x1 = 0 then (f_Mo_isUnder_29 σ ) else (if x0 = x1 then (f_Mo_isUnder_29 σ ) else (if ¬ x1 = (2 : Int32) then (f_Mo_isUnder_19 σ x0 x1) else (if x0 = (3 : Int32) then (f_Mo_isUnder_29 σ ) else (f_Mo_isUnder_19 σ x0 x1)))))
set_option maxRecDepth 100000 in
set_option maxHeartbeats 4000000 in
theorem t_Mo_isUnder {X : Xt} {S : Sh} (hS : ShOK S) {d : Nat} (hd : 0 ≤ d) (σ : Mm) (x0 : Int32) (x1 : Int32) : Rf X S (emI σ) (f_Mo_isUnder σ x0 x1) d 216 0 [.int x0, .int x1] [] σ := by
  unfold f_Mo_isUnder
  refine rf_ild (i := 1) (Or.inr ⟨1, rfl, rfl, rfl⟩) c_216_0 rfl ?_
  refine rf_ite (fun hc1 => ?_) (fun hc1 => ?_)
  · refine rf_b1t c_216_1 rfl (decide_eq_true hc1) ?_
    exact t_Mo_isUnder_29 hS hd σ  (.int x0) (.int x1)
  · refine rf_b1f c_216_1 rfl (decide_eq_false hc1) ?_
    refine rf_ild (i := 0) (Or.inr ⟨0, rfl, rfl, rfl⟩) c_216_4 rfl ?_
    refine rf_ild (i := 1) (Or.inr ⟨1, rfl, rfl, rfl⟩) c_216_5 rfl ?_
    refine rf_ite (fun hc6 => ?_) (fun hc6 => ?_)
    · refine rf_b2t c_216_6 rfl (decide_eq_true hc6) ?_
      exact t_Mo_isUnder_29 hS hd σ  (.int x0) (.int x1)
    · refine rf_b2f c_216_6 rfl (decide_eq_false hc6) ?_
      refine rf_ild (i := 1) (Or.inr ⟨1, rfl, rfl, rfl⟩) c_216_9 rfl ?_
      refine rf_iconst c_216_10 ki_2 ?_
      refine rf_ite (fun hc11 => ?_) (fun hc11 => ?_)
      · refine rf_b2t c_216_11 rfl (decide_eq_true hc11) ?_
        exact t_Mo_isUnder_19 hS hd σ  x0 x1
      · refine rf_b2f c_216_11 rfl (decide_eq_false hc11) ?_
        refine rf_ild (i := 0) (Or.inr ⟨0, rfl, rfl, rfl⟩) c_216_14 rfl ?_
        refine rf_iconst c_216_15 ki_3 ?_
        refine rf_ite (fun hc16 => ?_) (fun hc16 => ?_)
        · refine rf_b2t c_216_16 rfl (decide_eq_true hc16) ?_
          exact t_Mo_isUnder_29 hS hd σ  (.int x0) (.int x1)
        · refine rf_b2f c_216_16 rfl (decide_eq_false hc16) ?_
          exact t_Mo_isUnder_19 hS hd σ  x0 x1
theorem c_217_0 : cd 217 0 = some (.iconst (5), 1) := by decide +kernel
theorem c_217_1 : cd 217 1 = some (.iload_n 1, 1) := by decide +kernel
theorem c_217_2 : cd 217 2 = some (.bipush (10), 2) := by decide +kernel
theorem c_217_4 : cd 217 4 = some (.idiv, 1) := by decide +kernel
theorem c_217_5 : cd 217 5 = some (.iadd, 1) := by decide +kernel
theorem c_217_6 : cd 217 6 = some (.istore_n 2, 1) := by decide +kernel
theorem c_217_7 : cd 217 7 = some (.iload_n 0, 1) := by decide +kernel
theorem c_217_8 : cd 217 8 = some (.tableswitch (61) (1) (4) #[32, 36, 40, 46], 32) := by decide +kernel
theorem c_217_40 : cd 217 40 = some (.iload_n 2, 1) := by decide +kernel
theorem c_217_41 : cd 217 41 = some (.iconst (2), 1) := by decide +kernel
theorem c_217_42 : cd 217 42 = some (.isub, 1) := by decide +kernel
theorem c_217_43 : cd 217 43 = some (.ireturn, 1) := by decide +kernel
theorem c_217_44 : cd 217 44 = some (.iload_n 2, 1) := by decide +kernel
theorem c_217_45 : cd 217 45 = some (.iconst (1), 1) := by decide +kernel
theorem c_217_46 : cd 217 46 = some (.iadd, 1) := by decide +kernel
theorem c_217_47 : cd 217 47 = some (.ireturn, 1) := by decide +kernel
theorem c_217_48 : cd 217 48 = some (.iload_n 2, 1) := by decide +kernel
theorem c_217_49 : cd 217 49 = some (.iconst (1), 1) := by decide +kernel
theorem c_217_50 : cd 217 50 = some (.iadd, 1) := by decide +kernel
theorem c_217_51 : cd 217 51 = some (.iconst (2), 1) := by decide +kernel
theorem c_217_52 : cd 217 52 = some (.idiv, 1) := by decide +kernel
theorem c_217_53 : cd 217 53 = some (.ireturn, 1) := by decide +kernel
theorem c_217_54 : cd 217 54 = some (.iload_n 2, 1) := by decide +kernel
theorem c_217_55 : cd 217 55 = some (.bipush (6), 2) := by decide +kernel
theorem c_217_57 : cd 217 57 = some (.if_icmp .le (10), 3) := by decide +kernel
theorem c_217_60 : cd 217 60 = some (.iload_n 2, 1) := by decide +kernel
theorem c_217_61 : cd 217 61 = some (.bipush (6), 2) := by decide +kernel
theorem c_217_63 : cd 217 63 = some (.isub, 1) := by decide +kernel
theorem c_217_64 : cd 217 64 = some (.goto (4), 3) := by decide +kernel
theorem c_217_67 : cd 217 67 = some (.iconst (0), 1) := by decide +kernel
theorem c_217_68 : cd 217 68 = some (.ireturn, 1) := by decide +kernel
theorem c_217_69 : cd 217 69 = some (.iload_n 2, 1) := by decide +kernel
theorem c_217_70 : cd 217 70 = some (.ireturn, 1) := by decide +kernel
def f_Mo_reach_68 (σ : Mm) (y0 : Int32) : Option Int32 := some y0
set_option maxRecDepth 100000 in
set_option maxHeartbeats 4000000 in
theorem t_Mo_reach_68 {X : Xt} {S : Sh} (hS : ShOK S) {d : Nat} (hd : 0 ≤ d) (σ : Mm) (y0 : Int32) (u0 : Value) (u1 : Value) (u2 : Value) : Rf X S (emI σ) (f_Mo_reach_68 σ y0) d 217 68 [u0, u1, u2] [.int y0] σ := by
  unfold f_Mo_reach_68
  exact rf_ret c_217_68 rfl rfl rfl rfl
def f_Mo_reach (σ : Mm) (x0 : Int32) (x1 : Int32) : Option Int32 := (if x0 = (1 : Int32) then (some (((5 : Int32) + (x1 / (10 : Int32))) - (2 : Int32))) else (if x0 = (2 : Int32) then (some (((5 : Int32) + (x1 / (10 : Int32))) + (1 : Int32))) else (if x0 = (3 : Int32) then (some ((((5 : Int32) + (x1 / (10 : Int32))) + (1 : Int32)) / (2 : Int32))) else (if x0 = (4 : Int32) then (if ((5 : Int32) + (x1 / (10 : Int32))) ≤ (6 : Int32) then (f_Mo_reach_68 σ (0 : Int32)) else (f_Mo_reach_68 σ (((5 : Int32) + (x1 / (10 : Int32))) - (6 : Int32)))) else (some ((5 : Int32) + (x1 / (10 : Int32))))))))
set_option maxRecDepth 100000 in
set_option maxHeartbeats 4000000 in
theorem t_Mo_reach {X : Xt} {S : Sh} (hS : ShOK S) {d : Nat} (hd : 0 ≤ d) (σ : Mm) (x0 : Int32) (x1 : Int32) : Rf X S (emI σ) (f_Mo_reach σ x0 x1) d 217 0 [.int x0, .int x1, unset0] [] σ := by
  unfold f_Mo_reach
  refine rf_iconst c_217_0 ki_5 ?_
  refine rf_ild (i := 1) (Or.inr ⟨1, rfl, rfl, rfl⟩) c_217_1 rfl ?_
  refine rf_bipush c_217_2 kb_10 ?_
  refine rf_idiv c_217_4 (by decide) ?_
  refine rf_iadd c_217_5 ?_
  refine rf_ist (i := 2) (Or.inr ⟨2, rfl, rfl, rfl⟩) c_217_6 (Nat.le_of_ble_eq_true rfl) rfl ?_
  refine rf_ild (i := 0) (Or.inr ⟨0, rfl, rfl, rfl⟩) c_217_7 rfl ?_
  refine rf_ite (fun hs8_1 => ?_) (fun hs8_1 => ?_)
  · refine rf_tsw (o := 32) c_217_8 (by rw [hs8_1]; decide) rfl ?_
    refine rf_ild (i := 2) (Or.inr ⟨2, rfl, rfl, rfl⟩) c_217_40 rfl ?_
    refine rf_iconst c_217_41 ki_2 ?_
    refine rf_isub c_217_42 ?_
    exact rf_ret c_217_43 rfl rfl rfl rfl
  · refine rf_ite (fun hs8_2 => ?_) (fun hs8_2 => ?_)
    · refine rf_tsw (o := 36) c_217_8 (by rw [hs8_2]; decide) rfl ?_
      refine rf_ild (i := 2) (Or.inr ⟨2, rfl, rfl, rfl⟩) c_217_44 rfl ?_
      refine rf_iconst c_217_45 ki_1 ?_
      refine rf_iadd c_217_46 ?_
      exact rf_ret c_217_47 rfl rfl rfl rfl
    · refine rf_ite (fun hs8_3 => ?_) (fun hs8_3 => ?_)
      · refine rf_tsw (o := 40) c_217_8 (by rw [hs8_3]; decide) rfl ?_
        refine rf_ild (i := 2) (Or.inr ⟨2, rfl, rfl, rfl⟩) c_217_48 rfl ?_
        refine rf_iconst c_217_49 ki_1 ?_
        refine rf_iadd c_217_50 ?_
        refine rf_iconst c_217_51 ki_2 ?_
        refine rf_idiv c_217_52 (by decide) ?_
        exact rf_ret c_217_53 rfl rfl rfl rfl
      · refine rf_ite (fun hs8_4 => ?_) (fun hs8_4 => ?_)
        · refine rf_tsw (o := 46) c_217_8 (by rw [hs8_4]; decide) rfl ?_
          refine rf_ild (i := 2) (Or.inr ⟨2, rfl, rfl, rfl⟩) c_217_54 rfl ?_
          refine rf_bipush c_217_55 kb_6 ?_
          refine rf_ite (fun hc57 => ?_) (fun hc57 => ?_)
          · refine rf_b2t c_217_57 rfl (decide_eq_true hc57) ?_
            refine rf_iconst c_217_67 ki_0 ?_
            exact t_Mo_reach_68 hS hd σ  (0 : Int32) (.int x0) (.int x1) (.int ((5 : Int32) + (x1 / (10 : Int32))))
          · refine rf_b2f c_217_57 rfl (decide_eq_false hc57) ?_
            refine rf_ild (i := 2) (Or.inr ⟨2, rfl, rfl, rfl⟩) c_217_60 rfl ?_
            refine rf_bipush c_217_61 kb_6 ?_
            refine rf_isub c_217_63 ?_
            refine rf_goto c_217_64 rfl ?_
            exact t_Mo_reach_68 hS hd σ  (((5 : Int32) + (x1 / (10 : Int32))) - (6 : Int32)) (.int x0) (.int x1) (.int ((5 : Int32) + (x1 / (10 : Int32))))
        · refine rf_tsw c_217_8 (if_pos (by have e1 := lv_neT hs8_1 (a := 1) (by decide); have e2 := lv_neT hs8_2 (a := 2) (by decide); have e3 := lv_neT hs8_3 (a := 3) (by decide); have e4 := lv_neT hs8_4 (a := 4) (by decide); omega)) rfl ?_
          refine rf_ild (i := 2) (Or.inr ⟨2, rfl, rfl, rfl⟩) c_217_69 rfl ?_
          exact rf_ret c_217_70 rfl rfl rfl rfl
theorem c_218_0 : cd 218 0 = some (.iload_n 0, 1) := by decide +kernel
theorem c_218_1 : cd 218 1 = some (.tableswitch (69) (1) (4) #[31, 37, 45, 61], 31) := by decide +kernel
theorem c_218_32 : cd 218 32 = some (.sipush (300), 3) := by decide +kernel
theorem c_218_35 : cd 218 35 = some (.iload_n 1, 1) := by decide +kernel
theorem c_218_36 : cd 218 36 = some (.isub, 1) := by decide +kernel
theorem c_218_37 : cd 218 37 = some (.ireturn, 1) := by decide +kernel
theorem c_218_38 : cd 218 38 = some (.sipush (300), 3) := by decide +kernel
theorem c_218_41 : cd 218 41 = some (.iconst (2), 1) := by decide +kernel
theorem c_218_42 : cd 218 42 = some (.iload_n 1, 1) := by decide +kernel
theorem c_218_43 : cd 218 43 = some (.imul, 1) := by decide +kernel
theorem c_218_44 : cd 218 44 = some (.iadd, 1) := by decide +kernel
theorem c_218_45 : cd 218 45 = some (.ireturn, 1) := by decide +kernel
theorem c_218_46 : cd 218 46 = some (.iconst (2), 1) := by decide +kernel
theorem c_218_47 : cd 218 47 = some (.sipush (300), 3) := by decide +kernel
theorem c_218_50 : cd 218 50 = some (.iconst (2), 1) := by decide +kernel
theorem c_218_51 : cd 218 51 = some (.iload_n 1, 1) := by decide +kernel
theorem c_218_52 : cd 218 52 = some (.imul, 1) := by decide +kernel
theorem c_218_53 : cd 218 53 = some (.iadd, 1) := by decide +kernel
theorem c_218_54 : cd 218 54 = some (.imul, 1) := by decide +kernel
theorem c_218_55 : cd 218 55 = some (.iconst (3), 1) := by decide +kernel
theorem c_218_56 : cd 218 56 = some (.iload_n 1, 1) := by decide +kernel
theorem c_218_57 : cd 218 57 = some (.invokestatic 128, 3) := by decide +kernel
theorem c_218_60 : cd 218 60 = some (.isub, 1) := by decide +kernel
theorem c_218_61 : cd 218 61 = some (.ireturn, 1) := by decide +kernel
theorem c_218_62 : cd 218 62 = some (.sipush (300), 3) := by decide +kernel
theorem c_218_65 : cd 218 65 = some (.iload_n 1, 1) := by decide +kernel
theorem c_218_66 : cd 218 66 = some (.isub, 1) := by decide +kernel
theorem c_218_67 : cd 218 67 = some (.iconst (3), 1) := by decide +kernel
theorem c_218_68 : cd 218 68 = some (.idiv, 1) := by decide +kernel
theorem c_218_69 : cd 218 69 = some (.ireturn, 1) := by decide +kernel
theorem c_218_70 : cd 218 70 = some (.sipush (300), 3) := by decide +kernel
theorem c_218_73 : cd 218 73 = some (.ireturn, 1) := by decide +kernel
def f_Mo_shuts (σ : Mm) (x0 : Int32) (x1 : Int32) : Option Int32 := (if x0 = (1 : Int32) then (some ((300 : Int32) - x1)) else (if x0 = (2 : Int32) then (some ((300 : Int32) + ((2 : Int32) * x1))) else (if x0 = (3 : Int32) then ((f_Mo_reach σ (3 : Int32) x1).bind fun v57 => some (((2 : Int32) * ((300 : Int32) + ((2 : Int32) * x1))) - v57)) else (if x0 = (4 : Int32) then (some (((300 : Int32) - x1) / (3 : Int32))) else (some (300 : Int32))))))
set_option maxRecDepth 100000 in
set_option maxHeartbeats 4000000 in
theorem t_Mo_shuts_e {X : Xt} {S : Sh} (hS : ShOK S) {d : Nat} (hd : 1 ≤ d + 1) (σ : Mm) (x0 : Int32) (x1 : Int32) : Rf X S (emI σ) (f_Mo_shuts σ x0 x1) (d + 1) 218 0 [.int x0, .int x1] [] σ := by
  unfold f_Mo_shuts
  refine rf_ild (i := 0) (Or.inr ⟨0, rfl, rfl, rfl⟩) c_218_0 rfl ?_
  refine rf_ite (fun hs1_1 => ?_) (fun hs1_1 => ?_)
  · refine rf_tsw (o := 31) c_218_1 (by rw [hs1_1]; decide) rfl ?_
    refine rf_sipush c_218_32 ks_300 ?_
    refine rf_ild (i := 1) (Or.inr ⟨1, rfl, rfl, rfl⟩) c_218_35 rfl ?_
    refine rf_isub c_218_36 ?_
    exact rf_ret c_218_37 rfl rfl rfl rfl
  · refine rf_ite (fun hs1_2 => ?_) (fun hs1_2 => ?_)
    · refine rf_tsw (o := 37) c_218_1 (by rw [hs1_2]; decide) rfl ?_
      refine rf_sipush c_218_38 ks_300 ?_
      refine rf_iconst c_218_41 ki_2 ?_
      refine rf_ild (i := 1) (Or.inr ⟨1, rfl, rfl, rfl⟩) c_218_42 rfl ?_
      refine rf_imul c_218_43 ?_
      refine rf_iadd c_218_44 ?_
      exact rf_ret c_218_45 rfl rfl rfl rfl
    · refine rf_ite (fun hs1_3 => ?_) (fun hs1_3 => ?_)
      · refine rf_tsw (o := 45) c_218_1 (by rw [hs1_3]; decide) rfl ?_
        refine rf_iconst c_218_46 ki_2 ?_
        refine rf_sipush c_218_47 ks_300 ?_
        refine rf_iconst c_218_50 ki_2 ?_
        refine rf_ild (i := 1) (Or.inr ⟨1, rfl, rfl, rfl⟩) c_218_51 rfl ?_
        refine rf_imul c_218_52 ?_
        refine rf_iadd c_218_53 ?_
        refine rf_imul c_218_54 ?_
        refine rf_iconst c_218_55 ki_3 ?_
        refine rf_ild (i := 1) (Or.inr ⟨1, rfl, rfl, rfl⟩) c_218_56 rfl ?_
        refine rf_callI (as := [.int (3 : Int32), .int x1]) (kd := 0) c_218_57 rfl (by decide) rfl ml_12_128 (by decide) rfl (rcv_0 rfl) (by simp [Value.category]) rfl rfl (t_Mo_reach hS (by omega) σ (3 : Int32) x1) (fun v57 => ?_)
        refine rf_isub c_218_60 ?_
        exact rf_ret c_218_61 rfl rfl rfl rfl
      · refine rf_ite (fun hs1_4 => ?_) (fun hs1_4 => ?_)
        · refine rf_tsw (o := 61) c_218_1 (by rw [hs1_4]; decide) rfl ?_
          refine rf_sipush c_218_62 ks_300 ?_
          refine rf_ild (i := 1) (Or.inr ⟨1, rfl, rfl, rfl⟩) c_218_65 rfl ?_
          refine rf_isub c_218_66 ?_
          refine rf_iconst c_218_67 ki_3 ?_
          refine rf_idiv c_218_68 (by decide) ?_
          exact rf_ret c_218_69 rfl rfl rfl rfl
        · refine rf_tsw c_218_1 (if_pos (by have e1 := lv_neT hs1_1 (a := 1) (by decide); have e2 := lv_neT hs1_2 (a := 2) (by decide); have e3 := lv_neT hs1_3 (a := 3) (by decide); have e4 := lv_neT hs1_4 (a := 4) (by decide); omega)) rfl ?_
          refine rf_sipush c_218_70 ks_300 ?_
          exact rf_ret c_218_73 rfl rfl rfl rfl
theorem t_Mo_shuts {X : Xt} {S : Sh} (hS : ShOK S) {d : Nat} (hd : 1 ≤ d) (σ : Mm) (x0 : Int32) (x1 : Int32) : Rf X S (emI σ) (f_Mo_shuts σ x0 x1) d 218 0 [.int x0, .int x1] [] σ := by
  obtain ⟨d1, rfl⟩ : ∃ d1, d = d1 + 1 := ⟨d - 1, by omega⟩
  exact t_Mo_shuts_e hS hd σ x0 x1
theorem c_219_0 : cd 219 0 = some (.iload_n 1, 1) := by decide +kernel
theorem c_219_1 : cd 219 1 = some (.bipush (100), 2) := by decide +kernel
theorem c_219_3 : cd 219 3 = some (.idiv, 1) := by decide +kernel
theorem c_219_4 : cd 219 4 = some (.iload_n 2, 1) := by decide +kernel
theorem c_219_5 : cd 219 5 = some (.iadd, 1) := by decide +kernel
theorem c_219_6 : cd 219 6 = some (.istore_n 3, 1) := by decide +kernel
theorem c_219_7 : cd 219 7 = some (.iload_n 0, 1) := by decide +kernel
theorem c_219_8 : cd 219 8 = some (.iconst (3), 1) := by decide +kernel
theorem c_219_9 : cd 219 9 = some (.if_icmp .ne (13), 3) := by decide +kernel
theorem c_219_12 : cd 219 12 = some (.iload_n 3, 1) := by decide +kernel
theorem c_219_13 : cd 219 13 = some (.iconst (3), 1) := by decide +kernel
theorem c_219_14 : cd 219 14 = some (.iload_n 2, 1) := by decide +kernel
theorem c_219_15 : cd 219 15 = some (.invokestatic 131, 3) := by decide +kernel
theorem c_219_18 : cd 219 18 = some (.iadd, 1) := by decide +kernel
theorem c_219_19 : cd 219 19 = some (.goto (21), 3) := by decide +kernel
theorem c_219_22 : cd 219 22 = some (.iload_n 0, 1) := by decide +kernel
theorem c_219_23 : cd 219 23 = some (.iconst (4), 1) := by decide +kernel
theorem c_219_24 : cd 219 24 = some (.if_icmp .ne (15), 3) := by decide +kernel
theorem c_219_27 : cd 219 27 = some (.iload_n 3, 1) := by decide +kernel
theorem c_219_28 : cd 219 28 = some (.iconst (2), 1) := by decide +kernel
theorem c_219_29 : cd 219 29 = some (.iconst (4), 1) := by decide +kernel
theorem c_219_30 : cd 219 30 = some (.iload_n 2, 1) := by decide +kernel
theorem c_219_31 : cd 219 31 = some (.invokestatic 128, 3) := by decide +kernel
theorem c_219_34 : cd 219 34 = some (.imul, 1) := by decide +kernel
theorem c_219_35 : cd 219 35 = some (.isub, 1) := by decide +kernel
theorem c_219_36 : cd 219 36 = some (.goto (4), 3) := by decide +kernel
theorem c_219_39 : cd 219 39 = some (.iload_n 3, 1) := by decide +kernel
theorem c_219_40 : cd 219 40 = some (.ireturn, 1) := by decide +kernel
def f_Mo_weighs_40 (σ : Mm) (y0 : Int32) : Option Int32 := some y0
set_option maxRecDepth 100000 in
set_option maxHeartbeats 4000000 in
theorem t_Mo_weighs_40 {X : Xt} {S : Sh} (hS : ShOK S) {d : Nat} (hd : 2 ≤ d + 1) (σ : Mm) (y0 : Int32) (u0 : Value) (u1 : Value) (u2 : Value) (u3 : Value) : Rf X S (emI σ) (f_Mo_weighs_40 σ y0) (d + 1) 219 40 [u0, u1, u2, u3] [.int y0] σ := by
  unfold f_Mo_weighs_40
  exact rf_ret c_219_40 rfl rfl rfl rfl
def f_Mo_weighs (σ : Mm) (x0 : Int32) (x1 : Int32) (x2 : Int32) : Option Int32 := (if ¬ x0 = (3 : Int32) then (if ¬ x0 = (4 : Int32) then (f_Mo_weighs_40 σ ((x1 / (100 : Int32)) + x2)) else ((f_Mo_reach σ (4 : Int32) x2).bind fun v31 => f_Mo_weighs_40 σ (((x1 / (100 : Int32)) + x2) - ((2 : Int32) * v31)))) else ((f_Mo_shuts σ (3 : Int32) x2).bind fun v15 => f_Mo_weighs_40 σ (((x1 / (100 : Int32)) + x2) + v15)))
set_option maxRecDepth 100000 in
set_option maxHeartbeats 4000000 in
theorem t_Mo_weighs_e {X : Xt} {S : Sh} (hS : ShOK S) {d : Nat} (hd : 2 ≤ d + 1) (σ : Mm) (x0 : Int32) (x1 : Int32) (x2 : Int32) : Rf X S (emI σ) (f_Mo_weighs σ x0 x1 x2) (d + 1) 219 0 [.int x0, .int x1, .int x2, unset0] [] σ := by
  unfold f_Mo_weighs
  refine rf_ild (i := 1) (Or.inr ⟨1, rfl, rfl, rfl⟩) c_219_0 rfl ?_
  refine rf_bipush c_219_1 kb_100 ?_
  refine rf_idiv c_219_3 (by decide) ?_
  refine rf_ild (i := 2) (Or.inr ⟨2, rfl, rfl, rfl⟩) c_219_4 rfl ?_
  refine rf_iadd c_219_5 ?_
  refine rf_ist (i := 3) (Or.inr ⟨3, rfl, rfl, rfl⟩) c_219_6 (Nat.le_of_ble_eq_true rfl) rfl ?_
  refine rf_ild (i := 0) (Or.inr ⟨0, rfl, rfl, rfl⟩) c_219_7 rfl ?_
  refine rf_iconst c_219_8 ki_3 ?_
  refine rf_ite (fun hc9 => ?_) (fun hc9 => ?_)
  · refine rf_b2t c_219_9 rfl (decide_eq_true hc9) ?_
    refine rf_ild (i := 0) (Or.inr ⟨0, rfl, rfl, rfl⟩) c_219_22 rfl ?_
    refine rf_iconst c_219_23 ki_4 ?_
    refine rf_ite (fun hc24 => ?_) (fun hc24 => ?_)
    · refine rf_b2t c_219_24 rfl (decide_eq_true hc24) ?_
      refine rf_ild (i := 3) (Or.inr ⟨3, rfl, rfl, rfl⟩) c_219_39 rfl ?_
      exact t_Mo_weighs_40 hS hd σ  ((x1 / (100 : Int32)) + x2) (.int x0) (.int x1) (.int x2) (.int ((x1 / (100 : Int32)) + x2))
    · refine rf_b2f c_219_24 rfl (decide_eq_false hc24) ?_
      refine rf_ild (i := 3) (Or.inr ⟨3, rfl, rfl, rfl⟩) c_219_27 rfl ?_
      refine rf_iconst c_219_28 ki_2 ?_
      refine rf_iconst c_219_29 ki_4 ?_
      refine rf_ild (i := 2) (Or.inr ⟨2, rfl, rfl, rfl⟩) c_219_30 rfl ?_
      refine rf_callI (as := [.int (4 : Int32), .int x2]) (kd := 0) c_219_31 rfl (by decide) rfl ml_12_128 (by decide) rfl (rcv_0 rfl) (by simp [Value.category]) rfl rfl (t_Mo_reach hS (by omega) σ (4 : Int32) x2) (fun v31 => ?_)
      refine rf_imul c_219_34 ?_
      refine rf_isub c_219_35 ?_
      refine rf_goto c_219_36 rfl ?_
      exact t_Mo_weighs_40 hS hd σ  (((x1 / (100 : Int32)) + x2) - ((2 : Int32) * v31)) (.int x0) (.int x1) (.int x2) (.int ((x1 / (100 : Int32)) + x2))
  · refine rf_b2f c_219_9 rfl (decide_eq_false hc9) ?_
    refine rf_ild (i := 3) (Or.inr ⟨3, rfl, rfl, rfl⟩) c_219_12 rfl ?_
    refine rf_iconst c_219_13 ki_3 ?_
    refine rf_ild (i := 2) (Or.inr ⟨2, rfl, rfl, rfl⟩) c_219_14 rfl ?_
    refine rf_callI (as := [.int (3 : Int32), .int x2]) (kd := 0) c_219_15 rfl (by decide) rfl ml_12_131 (by decide) rfl (rcv_0 rfl) (by simp [Value.category]) rfl rfl (t_Mo_shuts hS (by omega) σ (3 : Int32) x2) (fun v15 => ?_)
    refine rf_iadd c_219_18 ?_
    refine rf_goto c_219_19 rfl ?_
    exact t_Mo_weighs_40 hS hd σ  (((x1 / (100 : Int32)) + x2) + v15) (.int x0) (.int x1) (.int x2) (.int ((x1 / (100 : Int32)) + x2))
theorem t_Mo_weighs {X : Xt} {S : Sh} (hS : ShOK S) {d : Nat} (hd : 2 ≤ d) (σ : Mm) (x0 : Int32) (x1 : Int32) (x2 : Int32) : Rf X S (emI σ) (f_Mo_weighs σ x0 x1 x2) d 219 0 [.int x0, .int x1, .int x2, unset0] [] σ := by
  obtain ⟨d1, rfl⟩ : ∃ d1, d = d1 + 1 := ⟨d - 1, by omega⟩
  exact t_Mo_weighs_e hS hd σ x0 x1 x2
theorem c_220_0 : cd 220 0 = some (.aload_n 0, 1) := by decide +kernel
theorem c_220_1 : cd 220 1 = some (.getfield 9, 3) := by decide +kernel
theorem c_220_4 : cd 220 4 = some (.sipush (186), 3) := by decide +kernel
theorem c_220_7 : cd 220 7 = some (.bipush (14), 2) := by decide +kernel
theorem c_220_9 : cd 220 9 = some (.iload_n 1, 1) := by decide +kernel
theorem c_220_10 : cd 220 10 = some (.imul, 1) := by decide +kernel
theorem c_220_11 : cd 220 11 = some (.iadd, 1) := by decide +kernel
theorem c_220_12 : cd 220 12 = some (.iload_n 2, 1) := by decide +kernel
theorem c_220_13 : cd 220 13 = some (.iadd, 1) := by decide +kernel
theorem c_220_14 : cd 220 14 = some (.iaload, 1) := by decide +kernel
theorem c_220_15 : cd 220 15 = some (.ireturn, 1) := by decide +kernel
def f_Mo_paperOf (σ : Mm) (x0 : Nat) (x1 : Int32) (x2 : Int32) : Option Int32 := if inbB (((186 : Int32) + ((14 : Int32) * x1)) + x2) 5528 = true then some (σ (rfT x0 0) (ix (((186 : Int32) + ((14 : Int32) * x1)) + x2))) else none
set_option maxRecDepth 100000 in
set_option maxHeartbeats 4000000 in
theorem t_Mo_paperOf {X : Xt} {S : Sh} (hS : ShOK S) {d : Nat} (hd : 0 ≤ d) (σ : Mm) (x0 : Nat) (x1 : Int32) (x2 : Int32) (h_x0 : tgT x0 = 12) : Rf X S (emI σ) (f_Mo_paperOf σ x0 x1 x2) d 220 0 [.ref x0, .int x1, .int x2] [] σ := by
  unfold f_Mo_paperOf
  refine rf_ald (i := 0) (Or.inr ⟨0, rfl, rfl, rfl⟩) c_220_0 rfl ?_
  refine rf_getr hS c_220_1 rfl fl_12_9 rfl h_x0 ?_
  refine rf_sipush c_220_4 ks_186 ?_
  refine rf_bipush c_220_7 kb_14 ?_
  refine rf_ild (i := 1) (Or.inr ⟨1, rfl, rfl, rfl⟩) c_220_9 rfl ?_
  refine rf_imul c_220_10 ?_
  refine rf_iadd c_220_11 ?_
  refine rf_ild (i := 2) (Or.inr ⟨2, rfl, rfl, rfl⟩) c_220_12 rfl ?_
  refine rf_iadd c_220_13 ?_
  refine rf_ite (fun hb14 => ?_) (fun _ => rf_none)
  refine rf_iald hS c_220_14 (tf_12_0 h_x0) (lf_12_0 h_x0) hb14 ?_
  exact rf_ret c_220_15 rfl rfl rfl rfl
theorem c_221_0 : cd 221 0 = some (.aload_n 0, 1) := by decide +kernel
theorem c_221_1 : cd 221 1 = some (.getfield 9, 3) := by decide +kernel
theorem c_221_4 : cd 221 4 = some (.sipush (186), 3) := by decide +kernel
theorem c_221_7 : cd 221 7 = some (.bipush (14), 2) := by decide +kernel
theorem c_221_9 : cd 221 9 = some (.iload_n 1, 1) := by decide +kernel
theorem c_221_10 : cd 221 10 = some (.imul, 1) := by decide +kernel
theorem c_221_11 : cd 221 11 = some (.iadd, 1) := by decide +kernel
theorem c_221_12 : cd 221 12 = some (.iload_n 2, 1) := by decide +kernel
theorem c_221_13 : cd 221 13 = some (.iadd, 1) := by decide +kernel
theorem c_221_14 : cd 221 14 = some (.iload_n 3, 1) := by decide +kernel
theorem c_221_15 : cd 221 15 = some (.iastore, 1) := by decide +kernel
theorem c_221_16 : cd 221 16 = some (.return_, 1) := by decide +kernel
def f_Mo_set (x0 : Nat) (x1 : Int32) (x2 : Int32) (x3 : Int32) (σ : Mm) : Option Mm := if inbB (((186 : Int32) + ((14 : Int32) * x1)) + x2) 5528 = true then nmM (up2 σ (rfT x0 0) (ix (((186 : Int32) + ((14 : Int32) * x1)) + x2)) x3) fun σ15 => some σ15 else none
set_option maxRecDepth 100000 in
set_option maxHeartbeats 4000000 in
theorem t_Mo_set {X : Xt} {S : Sh} (hS : ShOK S) {d : Nat} (hd : 0 ≤ d) (x0 : Nat) (x1 : Int32) (x2 : Int32) (x3 : Int32) (σ : Mm) (h_x0 : tgT x0 = 12) : Rf X S emV (f_Mo_set x0 x1 x2 x3 σ) d 221 0 [.ref x0, .int x1, .int x2, .int x3] [] σ := by
  unfold f_Mo_set
  refine rf_ald (i := 0) (Or.inr ⟨0, rfl, rfl, rfl⟩) c_221_0 rfl ?_
  refine rf_getr hS c_221_1 rfl fl_12_9 rfl h_x0 ?_
  refine rf_sipush c_221_4 ks_186 ?_
  refine rf_bipush c_221_7 kb_14 ?_
  refine rf_ild (i := 1) (Or.inr ⟨1, rfl, rfl, rfl⟩) c_221_9 rfl ?_
  refine rf_imul c_221_10 ?_
  refine rf_iadd c_221_11 ?_
  refine rf_ild (i := 2) (Or.inr ⟨2, rfl, rfl, rfl⟩) c_221_12 rfl ?_
  refine rf_iadd c_221_13 ?_
  refine rf_ild (i := 3) (Or.inr ⟨3, rfl, rfl, rfl⟩) c_221_14 rfl ?_
  refine rf_ite (fun hb15 => ?_) (fun _ => rf_none)
  refine rf_iast hS c_221_15 (tf_12_0 h_x0) (lf_12_0 h_x0) hb15 ?_
  refine rf_nm (fun σ15 => ?_)
  exact rf_vret c_221_16 rfl rfl
theorem c_222_0 : cd 222 0 = some (.iload_n 1, 1) := by decide +kernel
theorem c_222_1 : cd 222 1 = some (.iconst (0), 1) := by decide +kernel
theorem c_222_2 : cd 222 2 = some (.iconst (4), 1) := by decide +kernel
theorem c_222_3 : cd 222 3 = some (.invokestatic 82, 3) := by decide +kernel
theorem c_222_6 : cd 222 6 = some (.ifCond .eq (41), 3) := by decide +kernel
theorem c_222_9 : cd 222 9 = some (.aload_n 0, 1) := by decide +kernel
theorem c_222_10 : cd 222 10 = some (.iload_n 2, 1) := by decide +kernel
theorem c_222_11 : cd 222 11 = some (.invokevirtual 87, 3) := by decide +kernel
theorem c_222_14 : cd 222 14 = some (.ifCond .eq (33), 3) := by decide +kernel
theorem c_222_17 : cd 222 17 = some (.iload_n 3, 1) := by decide +kernel
theorem c_222_18 : cd 222 18 = some (.invokestatic 134, 3) := by decide +kernel
theorem c_222_21 : cd 222 21 = some (.ifCond .eq (26), 3) := by decide +kernel
theorem c_222_24 : cd 222 24 = some (.iload 4, 2) := by decide +kernel
theorem c_222_26 : cd 222 26 = some (.iconst (0), 1) := by decide +kernel
theorem c_222_27 : cd 222 27 = some (.sipush (9999), 3) := by decide +kernel
theorem c_222_30 : cd 222 30 = some (.invokestatic 82, 3) := by decide +kernel
theorem c_222_33 : cd 222 33 = some (.ifCond .eq (14), 3) := by decide +kernel
theorem c_222_36 : cd 222 36 = some (.iload 5, 2) := by decide +kernel
theorem c_222_38 : cd 222 38 = some (.iconst (0), 1) := by decide +kernel
theorem c_222_39 : cd 222 39 = some (.bipush (99), 2) := by decide +kernel
theorem c_222_41 : cd 222 41 = some (.invokestatic 82, 3) := by decide +kernel
theorem c_222_44 : cd 222 44 = some (.ifCond .ne (6), 3) := by decide +kernel
theorem c_222_47 : cd 222 47 = some (.ldc 91, 2) := by decide +kernel
theorem c_222_49 : cd 222 49 = some (.ireturn, 1) := by decide +kernel
theorem c_222_50 : cd 222 50 = some (.aload_n 0, 1) := by decide +kernel
theorem c_222_51 : cd 222 51 = some (.getfield 9, 3) := by decide +kernel
theorem c_222_54 : cd 222 54 = some (.iconst (4), 1) := by decide +kernel
theorem c_222_55 : cd 222 55 = some (.iaload, 1) := by decide +kernel
theorem c_222_56 : cd 222 56 = some (.bipush (24), 2) := by decide +kernel
theorem c_222_58 : cd 222 58 = some (.if_icmp .ne (6), 3) := by decide +kernel
theorem c_222_61 : cd 222 61 = some (.ldc 86, 2) := by decide +kernel
theorem c_222_63 : cd 222 63 = some (.ireturn, 1) := by decide +kernel
theorem c_222_64 : cd 222 64 = some (.aload_n 0, 1) := by decide +kernel
theorem c_222_65 : cd 222 65 = some (.getfield 9, 3) := by decide +kernel
theorem c_222_68 : cd 222 68 = some (.iconst (4), 1) := by decide +kernel
theorem c_222_69 : cd 222 69 = some (.iaload, 1) := by decide +kernel
theorem c_222_70 : cd 222 70 = some (.istore 6, 2) := by decide +kernel
theorem c_222_72 : cd 222 72 = some (.aload_n 0, 1) := by decide +kernel
theorem c_222_73 : cd 222 73 = some (.iload 6, 2) := by decide +kernel
theorem c_222_75 : cd 222 75 = some (.iconst (0), 1) := by decide +kernel
theorem c_222_76 : cd 222 76 = some (.iload_n 1, 1) := by decide +kernel
theorem c_222_77 : cd 222 77 = some (.invokevirtual 137, 3) := by decide +kernel
theorem c_222_80 : cd 222 80 = some (.aload_n 0, 1) := by decide +kernel
theorem c_222_81 : cd 222 81 = some (.iload 6, 2) := by decide +kernel
theorem c_222_83 : cd 222 83 = some (.iconst (1), 1) := by decide +kernel
theorem c_222_84 : cd 222 84 = some (.iload_n 2, 1) := by decide +kernel
theorem c_222_85 : cd 222 85 = some (.invokevirtual 137, 3) := by decide +kernel
theorem c_222_88 : cd 222 88 = some (.aload_n 0, 1) := by decide +kernel
theorem c_222_89 : cd 222 89 = some (.iload 6, 2) := by decide +kernel
theorem c_222_91 : cd 222 91 = some (.iconst (2), 1) := by decide +kernel
theorem c_222_92 : cd 222 92 = some (.iload_n 3, 1) := by decide +kernel
theorem c_222_93 : cd 222 93 = some (.invokevirtual 137, 3) := by decide +kernel
theorem c_222_96 : cd 222 96 = some (.aload_n 0, 1) := by decide +kernel
theorem c_222_97 : cd 222 97 = some (.iload 6, 2) := by decide +kernel
theorem c_222_99 : cd 222 99 = some (.iconst (3), 1) := by decide +kernel
theorem c_222_100 : cd 222 100 = some (.iload 4, 2) := by decide +kernel
theorem c_222_102 : cd 222 102 = some (.invokevirtual 137, 3) := by decide +kernel
theorem c_222_105 : cd 222 105 = some (.aload_n 0, 1) := by decide +kernel
theorem c_222_106 : cd 222 106 = some (.iload 6, 2) := by decide +kernel
theorem c_222_108 : cd 222 108 = some (.iconst (4), 1) := by decide +kernel
theorem c_222_109 : cd 222 109 = some (.iload 5, 2) := by decide +kernel
theorem c_222_111 : cd 222 111 = some (.invokevirtual 137, 3) := by decide +kernel
theorem c_222_114 : cd 222 114 = some (.aload_n 0, 1) := by decide +kernel
theorem c_222_115 : cd 222 115 = some (.iload 6, 2) := by decide +kernel
theorem c_222_117 : cd 222 117 = some (.iconst (5), 1) := by decide +kernel
theorem c_222_118 : cd 222 118 = some (.iconst (-1), 1) := by decide +kernel
theorem c_222_119 : cd 222 119 = some (.invokevirtual 137, 3) := by decide +kernel
theorem c_222_122 : cd 222 122 = some (.aload_n 0, 1) := by decide +kernel
theorem c_222_123 : cd 222 123 = some (.iload 6, 2) := by decide +kernel
theorem c_222_125 : cd 222 125 = some (.bipush (6), 2) := by decide +kernel
theorem c_222_127 : cd 222 127 = some (.iconst (0), 1) := by decide +kernel
theorem c_222_128 : cd 222 128 = some (.invokevirtual 137, 3) := by decide +kernel
theorem c_222_131 : cd 222 131 = some (.aload_n 0, 1) := by decide +kernel
theorem c_222_132 : cd 222 132 = some (.iload 6, 2) := by decide +kernel
theorem c_222_134 : cd 222 134 = some (.bipush (7), 2) := by decide +kernel
theorem c_222_136 : cd 222 136 = some (.iconst (0), 1) := by decide +kernel
theorem c_222_137 : cd 222 137 = some (.invokevirtual 137, 3) := by decide +kernel
theorem c_222_140 : cd 222 140 = some (.aload_n 0, 1) := by decide +kernel
theorem c_222_141 : cd 222 141 = some (.iload 6, 2) := by decide +kernel
theorem c_222_143 : cd 222 143 = some (.bipush (8), 2) := by decide +kernel
theorem c_222_145 : cd 222 145 = some (.iconst (0), 1) := by decide +kernel
theorem c_222_146 : cd 222 146 = some (.invokevirtual 137, 3) := by decide +kernel
theorem c_222_149 : cd 222 149 = some (.aload_n 0, 1) := by decide +kernel
theorem c_222_150 : cd 222 150 = some (.iload 6, 2) := by decide +kernel
theorem c_222_152 : cd 222 152 = some (.bipush (9), 2) := by decide +kernel
theorem c_222_154 : cd 222 154 = some (.iconst (-1), 1) := by decide +kernel
theorem c_222_155 : cd 222 155 = some (.invokevirtual 137, 3) := by decide +kernel
theorem c_222_158 : cd 222 158 = some (.aload_n 0, 1) := by decide +kernel
theorem c_222_159 : cd 222 159 = some (.iload 6, 2) := by decide +kernel
theorem c_222_161 : cd 222 161 = some (.bipush (10), 2) := by decide +kernel
theorem c_222_163 : cd 222 163 = some (.iconst (-1), 1) := by decide +kernel
theorem c_222_164 : cd 222 164 = some (.invokevirtual 137, 3) := by decide +kernel
theorem c_222_167 : cd 222 167 = some (.aload_n 0, 1) := by decide +kernel
theorem c_222_168 : cd 222 168 = some (.iload 6, 2) := by decide +kernel
theorem c_222_170 : cd 222 170 = some (.bipush (11), 2) := by decide +kernel
theorem c_222_172 : cd 222 172 = some (.iconst (-1), 1) := by decide +kernel
theorem c_222_173 : cd 222 173 = some (.invokevirtual 137, 3) := by decide +kernel
theorem c_222_176 : cd 222 176 = some (.aload_n 0, 1) := by decide +kernel
theorem c_222_177 : cd 222 177 = some (.iload 6, 2) := by decide +kernel
theorem c_222_179 : cd 222 179 = some (.bipush (12), 2) := by decide +kernel
theorem c_222_181 : cd 222 181 = some (.iconst (0), 1) := by decide +kernel
theorem c_222_182 : cd 222 182 = some (.invokevirtual 137, 3) := by decide +kernel
theorem c_222_185 : cd 222 185 = some (.aload_n 0, 1) := by decide +kernel
theorem c_222_186 : cd 222 186 = some (.iload 6, 2) := by decide +kernel
theorem c_222_188 : cd 222 188 = some (.bipush (13), 2) := by decide +kernel
theorem c_222_190 : cd 222 190 = some (.iconst (0), 1) := by decide +kernel
theorem c_222_191 : cd 222 191 = some (.invokevirtual 137, 3) := by decide +kernel
theorem c_222_194 : cd 222 194 = some (.aload_n 0, 1) := by decide +kernel
theorem c_222_195 : cd 222 195 = some (.getfield 9, 3) := by decide +kernel
theorem c_222_198 : cd 222 198 = some (.iconst (4), 1) := by decide +kernel
theorem c_222_199 : cd 222 199 = some (.dup2, 1) := by decide +kernel
theorem c_222_200 : cd 222 200 = some (.iaload, 1) := by decide +kernel
theorem c_222_201 : cd 222 201 = some (.iconst (1), 1) := by decide +kernel
theorem c_222_202 : cd 222 202 = some (.iadd, 1) := by decide +kernel
theorem c_222_203 : cd 222 203 = some (.iastore, 1) := by decide +kernel
theorem c_222_204 : cd 222 204 = some (.iload 6, 2) := by decide +kernel
theorem c_222_206 : cd 222 206 = some (.ireturn, 1) := by decide +kernel
def f_Mo_paper_47 (σ : Mm) : Option (Int32 × Mm) := some ((-1000000001 : Int32), σ)
set_option maxRecDepth 100000 in
set_option maxHeartbeats 4000000 in
theorem t_Mo_paper_47 {X : Xt} {S : Sh} (hS : ShOK S) {d : Nat} (hd : 2 ≤ d + 1) (u0 : Value) (u1 : Value) (u2 : Value) (u3 : Value) (u4 : Value) (u5 : Value) (u6 : Value) (σ : Mm) : Rf X S emM (f_Mo_paper_47 σ) (d + 1) 222 47 [u0, u1, u2, u3, u4, u5, u6] [] σ := by
  unfold f_Mo_paper_47
  refine rf_ldc (Or.inl ⟨rfl, rfl⟩) c_222_47 rfl kl_12_91 ?_
  exact rf_ret c_222_49 rfl rfl rfl rfl
def f_Mo_paper (x0 : Nat) (x1 : Int32) (x2 : Int32) (x3 : Int32) (x4 : Int32) (x5 : Int32) (σ : Mm) : Option (Int32 × Mm) := (f_Mo_in σ x1 (0 : Int32) (4 : Int32)).bind fun v3 => (if v3 = 0 then (f_Mo_paper_47  σ) else ((f_Mo_isOffice σ x0 x2).bind fun v11 => (if v11 = 0 then (f_Mo_paper_47  σ) else ((f_Mo_isThing σ x3).bind fun v18 => (if v18 = 0 then (f_Mo_paper_47  σ) else ((f_Mo_in σ x4 (0 : Int32) (9999 : Int32)).bind fun v30 => (if v30 = 0 then (f_Mo_paper_47  σ) else ((f_Mo_in σ x5 (0 : Int32) (99 : Int32)).bind fun v41 => (if ¬ v41 = 0 then (if ¬ (σ (rfT x0 0) (ix (4 : Int32))) = (24 : Int32) then ((f_Mo_set x0 (σ (rfT x0 0) (ix (4 : Int32))) (0 : Int32) x1 σ).bind fun v77 => (f_Mo_set x0 (σ (rfT x0 0) (ix (4 : Int32))) (1 : Int32) x2 v77).bind fun v85 => (f_Mo_set x0 (σ (rfT x0 0) (ix (4 : Int32))) (2 : Int32) x3 v85).bind fun v93 => (f_Mo_set x0 (σ (rfT x0 0) (ix (4 : Int32))) (3 : Int32) x4 v93).bind fun v102 => (f_Mo_set x0 (σ (rfT x0 0) (ix (4 : Int32))) (4 : Int32) x5 v102).bind fun v111 => (f_Mo_set x0 (σ (rfT x0 0) (ix (4 : Int32))) (5 : Int32) (-1 : Int32) v111).bind fun v119 => (f_Mo_set x0 (σ (rfT x0 0) (ix (4 : Int32))) (6 : Int32) (0 : Int32) v119).bind fun v128 => (f_Mo_set x0 (σ (rfT x0 0) (ix (4 : Int32))) (7 : Int32) (0 : Int32) v128).bind fun v137 => (f_Mo_set x0 (σ (rfT x0 0) (ix (4 : Int32))) (8 : Int32) (0 : Int32) v137).bind fun v146 => (f_Mo_set x0 (σ (rfT x0 0) (ix (4 : Int32))) (9 : Int32) (-1 : Int32) v146).bind fun v155 => (f_Mo_set x0 (σ (rfT x0 0) (ix (4 : Int32))) (10 : Int32) (-1 : Int32) v155).bind fun v164 => (f_Mo_set x0 (σ (rfT x0 0) (ix (4 : Int32))) (11 : Int32) (-1 : Int32) v164).bind fun v173 => (f_Mo_set x0 (σ (rfT x0 0) (ix (4 : Int32))) (12 : Int32) (0 : Int32) v173).bind fun v182 => (f_Mo_set x0 (σ (rfT x0 0) (ix (4 : Int32))) (13 : Int32) (0 : Int32) v182).bind fun v191 => nmM (up2 v191 (rfT x0 0) (ix (4 : Int32)) ((v191 (rfT x0 0) (ix (4 : Int32))) + (1 : Int32))) fun σ203 => some ((σ (rfT x0 0) (ix (4 : Int32))), σ203)) else (some ((-1000000003 : Int32), σ))) else (f_Mo_paper_47  σ))))))))))
set_option maxRecDepth 100000 in
set_option maxHeartbeats 4000000 in
theorem t_Mo_paper_e {X : Xt} {S : Sh} (hS : ShOK S) {d : Nat} (hd : 2 ≤ d + 1) (x0 : Nat) (x1 : Int32) (x2 : Int32) (x3 : Int32) (x4 : Int32) (x5 : Int32) (σ : Mm) (h_x0 : tgT x0 = 12) : Rf X S emM (f_Mo_paper x0 x1 x2 x3 x4 x5 σ) (d + 1) 222 0 [.ref x0, .int x1, .int x2, .int x3, .int x4, .int x5, unset0] [] σ := by
  unfold f_Mo_paper
  refine rf_ild (i := 1) (Or.inr ⟨1, rfl, rfl, rfl⟩) c_222_0 rfl ?_
  refine rf_iconst c_222_1 ki_0 ?_
  refine rf_iconst c_222_2 ki_4 ?_
  refine rf_callI (as := [.int x1, .int (0 : Int32), .int (4 : Int32)]) (kd := 0) c_222_3 rfl (by decide) rfl ml_12_82 (by decide) rfl (rcv_0 rfl) (Nat.zero_le _) rfl rfl (t_Mo_in hS (by omega) σ x1 (0 : Int32) (4 : Int32)) (fun v3 => ?_)
  refine rf_ite (fun hc6 => ?_) (fun hc6 => ?_)
  · refine rf_b1t c_222_6 rfl (decide_eq_true hc6) ?_
    exact t_Mo_paper_47 hS hd  (.ref x0) (.int x1) (.int x2) (.int x3) (.int x4) (.int x5) (unset0) σ
  · refine rf_b1f c_222_6 rfl (decide_eq_false hc6) ?_
    refine rf_ald (i := 0) (Or.inr ⟨0, rfl, rfl, rfl⟩) c_222_9 rfl ?_
    refine rf_ild (i := 2) (Or.inr ⟨2, rfl, rfl, rfl⟩) c_222_10 rfl ?_
    refine rf_callI (as := [.ref x0, .int x2]) (kd := 1) c_222_11 rfl (by decide) rfl ml_12_87 (by decide) rfl (rcv_1 hS rfl rfl h_x0 (by decide)) (Nat.zero_le _) rfl rfl (t_Mo_isOffice hS (by omega) σ x0 x2 h_x0) (fun v11 => ?_)
    refine rf_ite (fun hc14 => ?_) (fun hc14 => ?_)
    · refine rf_b1t c_222_14 rfl (decide_eq_true hc14) ?_
      exact t_Mo_paper_47 hS hd  (.ref x0) (.int x1) (.int x2) (.int x3) (.int x4) (.int x5) (unset0) σ
    · refine rf_b1f c_222_14 rfl (decide_eq_false hc14) ?_
      refine rf_ild (i := 3) (Or.inr ⟨3, rfl, rfl, rfl⟩) c_222_17 rfl ?_
      refine rf_callI (as := [.int x3]) (kd := 0) c_222_18 rfl (by decide) rfl ml_12_134 (by decide) rfl (rcv_0 rfl) (Nat.zero_le _) rfl rfl (t_Mo_isThing hS (by omega) σ x3) (fun v18 => ?_)
      refine rf_ite (fun hc21 => ?_) (fun hc21 => ?_)
      · refine rf_b1t c_222_21 rfl (decide_eq_true hc21) ?_
        exact t_Mo_paper_47 hS hd  (.ref x0) (.int x1) (.int x2) (.int x3) (.int x4) (.int x5) (unset0) σ
      · refine rf_b1f c_222_21 rfl (decide_eq_false hc21) ?_
        refine rf_ild (i := 4) (Or.inl ⟨rfl, rfl⟩) c_222_24 rfl ?_
        refine rf_iconst c_222_26 ki_0 ?_
        refine rf_sipush c_222_27 ks_9999 ?_
        refine rf_callI (as := [.int x4, .int (0 : Int32), .int (9999 : Int32)]) (kd := 0) c_222_30 rfl (by decide) rfl ml_12_82 (by decide) rfl (rcv_0 rfl) (Nat.zero_le _) rfl rfl (t_Mo_in hS (by omega) σ x4 (0 : Int32) (9999 : Int32)) (fun v30 => ?_)
        refine rf_ite (fun hc33 => ?_) (fun hc33 => ?_)
        · refine rf_b1t c_222_33 rfl (decide_eq_true hc33) ?_
          exact t_Mo_paper_47 hS hd  (.ref x0) (.int x1) (.int x2) (.int x3) (.int x4) (.int x5) (unset0) σ
        · refine rf_b1f c_222_33 rfl (decide_eq_false hc33) ?_
          refine rf_ild (i := 5) (Or.inl ⟨rfl, rfl⟩) c_222_36 rfl ?_
          refine rf_iconst c_222_38 ki_0 ?_
          refine rf_bipush c_222_39 kb_99 ?_
          refine rf_callI (as := [.int x5, .int (0 : Int32), .int (99 : Int32)]) (kd := 0) c_222_41 rfl (by decide) rfl ml_12_82 (by decide) rfl (rcv_0 rfl) (Nat.zero_le _) rfl rfl (t_Mo_in hS (by omega) σ x5 (0 : Int32) (99 : Int32)) (fun v41 => ?_)
          refine rf_ite (fun hc44 => ?_) (fun hc44 => ?_)
          · refine rf_b1t c_222_44 rfl (decide_eq_true hc44) ?_
            refine rf_ald (i := 0) (Or.inr ⟨0, rfl, rfl, rfl⟩) c_222_50 rfl ?_
            refine rf_getr hS c_222_51 rfl fl_12_9 rfl h_x0 ?_
            refine rf_iconst c_222_54 ki_4 ?_
            refine rf_iald hS c_222_55 (tf_12_0 h_x0) (lf_12_0 h_x0) (by decide) ?_
            refine rf_bipush c_222_56 kb_24 ?_
            refine rf_ite (fun hc58 => ?_) (fun hc58 => ?_)
            · refine rf_b2t c_222_58 rfl (decide_eq_true hc58) ?_
              refine rf_ald (i := 0) (Or.inr ⟨0, rfl, rfl, rfl⟩) c_222_64 rfl ?_
              refine rf_getr hS c_222_65 rfl fl_12_9 rfl h_x0 ?_
              refine rf_iconst c_222_68 ki_4 ?_
              refine rf_iald hS c_222_69 (tf_12_0 h_x0) (lf_12_0 h_x0) (by decide) ?_
              refine rf_ist (i := 6) (Or.inl ⟨rfl, rfl⟩) c_222_70 (Nat.le_of_ble_eq_true rfl) rfl ?_
              refine rf_ald (i := 0) (Or.inr ⟨0, rfl, rfl, rfl⟩) c_222_72 rfl ?_
              refine rf_ild (i := 6) (Or.inl ⟨rfl, rfl⟩) c_222_73 rfl ?_
              refine rf_iconst c_222_75 ki_0 ?_
              refine rf_ild (i := 1) (Or.inr ⟨1, rfl, rfl, rfl⟩) c_222_76 rfl ?_
              refine rf_callV (as := [.ref x0, .int (σ (rfT x0 0) (ix (4 : Int32))), .int (0 : Int32), .int x1]) (kd := 1) c_222_77 rfl (by decide) rfl ml_12_137 (by decide) rfl (rcv_1 hS rfl rfl h_x0 (by decide)) (Nat.zero_le _) rfl rfl (t_Mo_set hS (by omega) x0 (σ (rfT x0 0) (ix (4 : Int32))) (0 : Int32) x1 σ h_x0) (fun v77 => ?_)
              refine rf_ald (i := 0) (Or.inr ⟨0, rfl, rfl, rfl⟩) c_222_80 rfl ?_
              refine rf_ild (i := 6) (Or.inl ⟨rfl, rfl⟩) c_222_81 rfl ?_
              refine rf_iconst c_222_83 ki_1 ?_
              refine rf_ild (i := 2) (Or.inr ⟨2, rfl, rfl, rfl⟩) c_222_84 rfl ?_
              refine rf_callV (as := [.ref x0, .int (σ (rfT x0 0) (ix (4 : Int32))), .int (1 : Int32), .int x2]) (kd := 1) c_222_85 rfl (by decide) rfl ml_12_137 (by decide) rfl (rcv_1 hS rfl rfl h_x0 (by decide)) (Nat.zero_le _) rfl rfl (t_Mo_set hS (by omega) x0 (σ (rfT x0 0) (ix (4 : Int32))) (1 : Int32) x2 v77 h_x0) (fun v85 => ?_)
              refine rf_ald (i := 0) (Or.inr ⟨0, rfl, rfl, rfl⟩) c_222_88 rfl ?_
              refine rf_ild (i := 6) (Or.inl ⟨rfl, rfl⟩) c_222_89 rfl ?_
              refine rf_iconst c_222_91 ki_2 ?_
              refine rf_ild (i := 3) (Or.inr ⟨3, rfl, rfl, rfl⟩) c_222_92 rfl ?_
              refine rf_callV (as := [.ref x0, .int (σ (rfT x0 0) (ix (4 : Int32))), .int (2 : Int32), .int x3]) (kd := 1) c_222_93 rfl (by decide) rfl ml_12_137 (by decide) rfl (rcv_1 hS rfl rfl h_x0 (by decide)) (Nat.zero_le _) rfl rfl (t_Mo_set hS (by omega) x0 (σ (rfT x0 0) (ix (4 : Int32))) (2 : Int32) x3 v85 h_x0) (fun v93 => ?_)
              refine rf_ald (i := 0) (Or.inr ⟨0, rfl, rfl, rfl⟩) c_222_96 rfl ?_
              refine rf_ild (i := 6) (Or.inl ⟨rfl, rfl⟩) c_222_97 rfl ?_
              refine rf_iconst c_222_99 ki_3 ?_
              refine rf_ild (i := 4) (Or.inl ⟨rfl, rfl⟩) c_222_100 rfl ?_
              refine rf_callV (as := [.ref x0, .int (σ (rfT x0 0) (ix (4 : Int32))), .int (3 : Int32), .int x4]) (kd := 1) c_222_102 rfl (by decide) rfl ml_12_137 (by decide) rfl (rcv_1 hS rfl rfl h_x0 (by decide)) (Nat.zero_le _) rfl rfl (t_Mo_set hS (by omega) x0 (σ (rfT x0 0) (ix (4 : Int32))) (3 : Int32) x4 v93 h_x0) (fun v102 => ?_)
              refine rf_ald (i := 0) (Or.inr ⟨0, rfl, rfl, rfl⟩) c_222_105 rfl ?_
              refine rf_ild (i := 6) (Or.inl ⟨rfl, rfl⟩) c_222_106 rfl ?_
              refine rf_iconst c_222_108 ki_4 ?_
              refine rf_ild (i := 5) (Or.inl ⟨rfl, rfl⟩) c_222_109 rfl ?_
              refine rf_callV (as := [.ref x0, .int (σ (rfT x0 0) (ix (4 : Int32))), .int (4 : Int32), .int x5]) (kd := 1) c_222_111 rfl (by decide) rfl ml_12_137 (by decide) rfl (rcv_1 hS rfl rfl h_x0 (by decide)) (Nat.zero_le _) rfl rfl (t_Mo_set hS (by omega) x0 (σ (rfT x0 0) (ix (4 : Int32))) (4 : Int32) x5 v102 h_x0) (fun v111 => ?_)
              refine rf_ald (i := 0) (Or.inr ⟨0, rfl, rfl, rfl⟩) c_222_114 rfl ?_
              refine rf_ild (i := 6) (Or.inl ⟨rfl, rfl⟩) c_222_115 rfl ?_
              refine rf_iconst c_222_117 ki_5 ?_
              refine rf_iconst c_222_118 ki_m1 ?_
              refine rf_callV (as := [.ref x0, .int (σ (rfT x0 0) (ix (4 : Int32))), .int (5 : Int32), .int (-1 : Int32)]) (kd := 1) c_222_119 rfl (by decide) rfl ml_12_137 (by decide) rfl (rcv_1 hS rfl rfl h_x0 (by decide)) (Nat.zero_le _) rfl rfl (t_Mo_set hS (by omega) x0 (σ (rfT x0 0) (ix (4 : Int32))) (5 : Int32) (-1 : Int32) v111 h_x0) (fun v119 => ?_)
              refine rf_ald (i := 0) (Or.inr ⟨0, rfl, rfl, rfl⟩) c_222_122 rfl ?_
              refine rf_ild (i := 6) (Or.inl ⟨rfl, rfl⟩) c_222_123 rfl ?_
              refine rf_bipush c_222_125 kb_6 ?_
              refine rf_iconst c_222_127 ki_0 ?_
              refine rf_callV (as := [.ref x0, .int (σ (rfT x0 0) (ix (4 : Int32))), .int (6 : Int32), .int (0 : Int32)]) (kd := 1) c_222_128 rfl (by decide) rfl ml_12_137 (by decide) rfl (rcv_1 hS rfl rfl h_x0 (by decide)) (Nat.zero_le _) rfl rfl (t_Mo_set hS (by omega) x0 (σ (rfT x0 0) (ix (4 : Int32))) (6 : Int32) (0 : Int32) v119 h_x0) (fun v128 => ?_)
              refine rf_ald (i := 0) (Or.inr ⟨0, rfl, rfl, rfl⟩) c_222_131 rfl ?_
              refine rf_ild (i := 6) (Or.inl ⟨rfl, rfl⟩) c_222_132 rfl ?_
              refine rf_bipush c_222_134 kb_7 ?_
              refine rf_iconst c_222_136 ki_0 ?_
              refine rf_callV (as := [.ref x0, .int (σ (rfT x0 0) (ix (4 : Int32))), .int (7 : Int32), .int (0 : Int32)]) (kd := 1) c_222_137 rfl (by decide) rfl ml_12_137 (by decide) rfl (rcv_1 hS rfl rfl h_x0 (by decide)) (Nat.zero_le _) rfl rfl (t_Mo_set hS (by omega) x0 (σ (rfT x0 0) (ix (4 : Int32))) (7 : Int32) (0 : Int32) v128 h_x0) (fun v137 => ?_)
              refine rf_ald (i := 0) (Or.inr ⟨0, rfl, rfl, rfl⟩) c_222_140 rfl ?_
              refine rf_ild (i := 6) (Or.inl ⟨rfl, rfl⟩) c_222_141 rfl ?_
              refine rf_bipush c_222_143 kb_8 ?_
              refine rf_iconst c_222_145 ki_0 ?_
              refine rf_callV (as := [.ref x0, .int (σ (rfT x0 0) (ix (4 : Int32))), .int (8 : Int32), .int (0 : Int32)]) (kd := 1) c_222_146 rfl (by decide) rfl ml_12_137 (by decide) rfl (rcv_1 hS rfl rfl h_x0 (by decide)) (Nat.zero_le _) rfl rfl (t_Mo_set hS (by omega) x0 (σ (rfT x0 0) (ix (4 : Int32))) (8 : Int32) (0 : Int32) v137 h_x0) (fun v146 => ?_)
              refine rf_ald (i := 0) (Or.inr ⟨0, rfl, rfl, rfl⟩) c_222_149 rfl ?_
              refine rf_ild (i := 6) (Or.inl ⟨rfl, rfl⟩) c_222_150 rfl ?_
              refine rf_bipush c_222_152 kb_9 ?_
              refine rf_iconst c_222_154 ki_m1 ?_
              refine rf_callV (as := [.ref x0, .int (σ (rfT x0 0) (ix (4 : Int32))), .int (9 : Int32), .int (-1 : Int32)]) (kd := 1) c_222_155 rfl (by decide) rfl ml_12_137 (by decide) rfl (rcv_1 hS rfl rfl h_x0 (by decide)) (Nat.zero_le _) rfl rfl (t_Mo_set hS (by omega) x0 (σ (rfT x0 0) (ix (4 : Int32))) (9 : Int32) (-1 : Int32) v146 h_x0) (fun v155 => ?_)
              refine rf_ald (i := 0) (Or.inr ⟨0, rfl, rfl, rfl⟩) c_222_158 rfl ?_
              refine rf_ild (i := 6) (Or.inl ⟨rfl, rfl⟩) c_222_159 rfl ?_
              refine rf_bipush c_222_161 kb_10 ?_
              refine rf_iconst c_222_163 ki_m1 ?_
              refine rf_callV (as := [.ref x0, .int (σ (rfT x0 0) (ix (4 : Int32))), .int (10 : Int32), .int (-1 : Int32)]) (kd := 1) c_222_164 rfl (by decide) rfl ml_12_137 (by decide) rfl (rcv_1 hS rfl rfl h_x0 (by decide)) (Nat.zero_le _) rfl rfl (t_Mo_set hS (by omega) x0 (σ (rfT x0 0) (ix (4 : Int32))) (10 : Int32) (-1 : Int32) v155 h_x0) (fun v164 => ?_)
              refine rf_ald (i := 0) (Or.inr ⟨0, rfl, rfl, rfl⟩) c_222_167 rfl ?_
              refine rf_ild (i := 6) (Or.inl ⟨rfl, rfl⟩) c_222_168 rfl ?_
              refine rf_bipush c_222_170 kb_11 ?_
              refine rf_iconst c_222_172 ki_m1 ?_
              refine rf_callV (as := [.ref x0, .int (σ (rfT x0 0) (ix (4 : Int32))), .int (11 : Int32), .int (-1 : Int32)]) (kd := 1) c_222_173 rfl (by decide) rfl ml_12_137 (by decide) rfl (rcv_1 hS rfl rfl h_x0 (by decide)) (Nat.zero_le _) rfl rfl (t_Mo_set hS (by omega) x0 (σ (rfT x0 0) (ix (4 : Int32))) (11 : Int32) (-1 : Int32) v164 h_x0) (fun v173 => ?_)
              refine rf_ald (i := 0) (Or.inr ⟨0, rfl, rfl, rfl⟩) c_222_176 rfl ?_
              refine rf_ild (i := 6) (Or.inl ⟨rfl, rfl⟩) c_222_177 rfl ?_
              refine rf_bipush c_222_179 kb_12 ?_
              refine rf_iconst c_222_181 ki_0 ?_
              refine rf_callV (as := [.ref x0, .int (σ (rfT x0 0) (ix (4 : Int32))), .int (12 : Int32), .int (0 : Int32)]) (kd := 1) c_222_182 rfl (by decide) rfl ml_12_137 (by decide) rfl (rcv_1 hS rfl rfl h_x0 (by decide)) (Nat.zero_le _) rfl rfl (t_Mo_set hS (by omega) x0 (σ (rfT x0 0) (ix (4 : Int32))) (12 : Int32) (0 : Int32) v173 h_x0) (fun v182 => ?_)
              refine rf_ald (i := 0) (Or.inr ⟨0, rfl, rfl, rfl⟩) c_222_185 rfl ?_
              refine rf_ild (i := 6) (Or.inl ⟨rfl, rfl⟩) c_222_186 rfl ?_
              refine rf_bipush c_222_188 kb_13 ?_
              refine rf_iconst c_222_190 ki_0 ?_
              refine rf_callV (as := [.ref x0, .int (σ (rfT x0 0) (ix (4 : Int32))), .int (13 : Int32), .int (0 : Int32)]) (kd := 1) c_222_191 rfl (by decide) rfl ml_12_137 (by decide) rfl (rcv_1 hS rfl rfl h_x0 (by decide)) (Nat.zero_le _) rfl rfl (t_Mo_set hS (by omega) x0 (σ (rfT x0 0) (ix (4 : Int32))) (13 : Int32) (0 : Int32) v182 h_x0) (fun v191 => ?_)
              refine rf_ald (i := 0) (Or.inr ⟨0, rfl, rfl, rfl⟩) c_222_194 rfl ?_
              refine rf_getr hS c_222_195 rfl fl_12_9 rfl h_x0 ?_
              refine rf_iconst c_222_198 ki_4 ?_
              refine rf_dup2 c_222_199 rfl rfl ?_
              refine rf_iald hS c_222_200 (tf_12_0 h_x0) (lf_12_0 h_x0) (by decide) ?_
              refine rf_iconst c_222_201 ki_1 ?_
              refine rf_iadd c_222_202 ?_
              refine rf_iast hS c_222_203 (tf_12_0 h_x0) (lf_12_0 h_x0) (by decide) ?_
              refine rf_nm (fun σ203 => ?_)
              refine rf_ild (i := 6) (Or.inl ⟨rfl, rfl⟩) c_222_204 rfl ?_
              exact rf_ret c_222_206 rfl rfl rfl rfl
            · refine rf_b2f c_222_58 rfl (decide_eq_false hc58) ?_
              refine rf_ldc (Or.inl ⟨rfl, rfl⟩) c_222_61 rfl kl_12_86 ?_
              exact rf_ret c_222_63 rfl rfl rfl rfl
          · refine rf_b1f c_222_44 rfl (decide_eq_false hc44) ?_
            exact t_Mo_paper_47 hS hd  (.ref x0) (.int x1) (.int x2) (.int x3) (.int x4) (.int x5) (unset0) σ
theorem t_Mo_paper {X : Xt} {S : Sh} (hS : ShOK S) {d : Nat} (hd : 2 ≤ d) (x0 : Nat) (x1 : Int32) (x2 : Int32) (x3 : Int32) (x4 : Int32) (x5 : Int32) (σ : Mm) (h_x0 : tgT x0 = 12) : Rf X S emM (f_Mo_paper x0 x1 x2 x3 x4 x5 σ) d 222 0 [.ref x0, .int x1, .int x2, .int x3, .int x4, .int x5, unset0] [] σ := by
  obtain ⟨d1, rfl⟩ : ∃ d1, d = d1 + 1 := ⟨d - 1, by omega⟩
  exact t_Mo_paper_e hS hd x0 x1 x2 x3 x4 x5 σ h_x0
