/-! methods: Mo_isBadHead Mo_takesHead Mo_takesRule Mo_rule Mo_ruleOf Mo_of Mo_isAtom Mo_worth Mo_wouldCount Mo_findCounted Mo_counts Mo_countsFor Mo_needOf Mo_dueOf Mo_due Mo_why Mo_quarrel Mo_lacksOf -/
theorem c_246_0 : cd 246 0 = some (.aload_n 0, 1) := by decide +kernel
theorem c_246_1 : cd 246 1 = some (.getfield 250, 3) := by decide +kernel
theorem c_246_4 : cd 246 4 = some (.iconst (5), 1) := by decide +kernel
theorem c_246_5 : cd 246 5 = some (.if_icmp .ne (20), 3) := by decide +kernel
theorem c_246_8 : cd 246 8 = some (.aload_n 0, 1) := by decide +kernel
theorem c_246_9 : cd 246 9 = some (.aload_n 0, 1) := by decide +kernel
theorem c_246_10 : cd 246 10 = some (.getfield 253, 3) := by decide +kernel
theorem c_246_13 : cd 246 13 = some (.invokevirtual 256, 3) := by decide +kernel
theorem c_246_16 : cd 246 16 = some (.ifCond .ne (7), 3) := by decide +kernel
theorem c_246_19 : cd 246 19 = some (.iconst (1), 1) := by decide +kernel
theorem c_246_20 : cd 246 20 = some (.goto (4), 3) := by decide +kernel
theorem c_246_23 : cd 246 23 = some (.iconst (0), 1) := by decide +kernel
theorem c_246_24 : cd 246 24 = some (.ireturn, 1) := by decide +kernel
theorem c_246_25 : cd 246 25 = some (.aload_n 0, 1) := by decide +kernel
theorem c_246_26 : cd 246 26 = some (.getfield 250, 3) := by decide +kernel
theorem c_246_29 : cd 246 29 = some (.iconst (4), 1) := by decide +kernel
theorem c_246_30 : cd 246 30 = some (.if_icmp .ne (9), 3) := by decide +kernel
theorem c_246_33 : cd 246 33 = some (.sipush (999), 3) := by decide +kernel
theorem c_246_36 : cd 246 36 = some (.goto (5), 3) := by decide +kernel
theorem c_246_39 : cd 246 39 = some (.bipush (99), 2) := by decide +kernel
theorem c_246_41 : cd 246 41 = some (.istore_n 1, 1) := by decide +kernel
theorem c_246_42 : cd 246 42 = some (.aload_n 0, 1) := by decide +kernel
theorem c_246_43 : cd 246 43 = some (.getfield 253, 3) := by decide +kernel
theorem c_246_46 : cd 246 46 = some (.iconst (4), 1) := by decide +kernel
theorem c_246_47 : cd 246 47 = some (.if_icmp .gt (54), 3) := by decide +kernel
theorem c_246_50 : cd 246 50 = some (.aload_n 0, 1) := by decide +kernel
theorem c_246_51 : cd 246 51 = some (.getfield 250, 3) := by decide +kernel
theorem c_246_54 : cd 246 54 = some (.ifCond .ne (17), 3) := by decide +kernel
theorem c_246_57 : cd 246 57 = some (.aload_n 0, 1) := by decide +kernel
theorem c_246_58 : cd 246 58 = some (.aload_n 0, 1) := by decide +kernel
theorem c_246_59 : cd 246 59 = some (.getfield 259, 3) := by decide +kernel
theorem c_246_62 : cd 246 62 = some (.invokevirtual 103, 3) := by decide +kernel
theorem c_246_65 : cd 246 65 = some (.ifCond .ne (40), 3) := by decide +kernel
theorem c_246_68 : cd 246 68 = some (.goto (33), 3) := by decide +kernel
theorem c_246_71 : cd 246 71 = some (.aload_n 0, 1) := by decide +kernel
theorem c_246_72 : cd 246 72 = some (.getfield 250, 3) := by decide +kernel
theorem c_246_75 : cd 246 75 = some (.iconst (2), 1) := by decide +kernel
theorem c_246_76 : cd 246 76 = some (.if_icmp .ne (17), 3) := by decide +kernel
theorem c_246_79 : cd 246 79 = some (.aload_n 0, 1) := by decide +kernel
theorem c_246_80 : cd 246 80 = some (.aload_n 0, 1) := by decide +kernel
theorem c_246_81 : cd 246 81 = some (.getfield 259, 3) := by decide +kernel
theorem c_246_84 : cd 246 84 = some (.invokevirtual 87, 3) := by decide +kernel
theorem c_246_87 : cd 246 87 = some (.ifCond .ne (18), 3) := by decide +kernel
theorem c_246_90 : cd 246 90 = some (.goto (11), 3) := by decide +kernel
theorem c_246_93 : cd 246 93 = some (.aload_n 0, 1) := by decide +kernel
theorem c_246_94 : cd 246 94 = some (.getfield 259, 3) := by decide +kernel
theorem c_246_97 : cd 246 97 = some (.iload_n 1, 1) := by decide +kernel
theorem c_246_98 : cd 246 98 = some (.if_icmp .le (7), 3) := by decide +kernel
theorem c_246_101 : cd 246 101 = some (.iconst (1), 1) := by decide +kernel
theorem c_246_102 : cd 246 102 = some (.goto (4), 3) := by decide +kernel
theorem c_246_105 : cd 246 105 = some (.iconst (0), 1) := by decide +kernel
theorem c_246_106 : cd 246 106 = some (.ireturn, 1) := by decide +kernel
def f_Mo_isBadHead_24 (σ : Mm) (y0 : Int32) : Option Int32 := if zB y0 = true then some y0 else none
set_option maxRecDepth 100000 in
set_option maxHeartbeats 4000000 in
theorem t_Mo_isBadHead_24 {X : Xt} {S : Sh} (hS : ShOK S) {d : Nat} (hd : 2 ≤ d + 1) (σ : Mm) (y0 : Int32) (u0 : Value) (u1 : Value) : Rf X S (emI σ) (f_Mo_isBadHead_24 σ y0) (d + 1) 246 24 [u0, u1] [.int y0] σ := by
  unfold f_Mo_isBadHead_24
  refine rf_ite (fun hq24 => ?_) (fun _ => rf_none)
  exact rf_ret c_246_24 rfl (zB_n hq24) rfl rfl
def f_Mo_isBadHead_106 (σ : Mm) (y0 : Int32) : Option Int32 := if zB y0 = true then some y0 else none
set_option maxRecDepth 100000 in
set_option maxHeartbeats 4000000 in
theorem t_Mo_isBadHead_106 {X : Xt} {S : Sh} (hS : ShOK S) {d : Nat} (hd : 2 ≤ d + 1) (σ : Mm) (y0 : Int32) (u0 : Value) (u1 : Value) : Rf X S (emI σ) (f_Mo_isBadHead_106 σ y0) (d + 1) 246 106 [u0, u1] [.int y0] σ := by
  unfold f_Mo_isBadHead_106
  refine rf_ite (fun hq106 => ?_) (fun _ => rf_none)
  exact rf_ret c_246_106 rfl (zB_n hq106) rfl rfl
def f_Mo_isBadHead_101 (σ : Mm) : Option Int32 := f_Mo_isBadHead_106 σ (1 : Int32)
set_option maxRecDepth 100000 in
set_option maxHeartbeats 4000000 in
theorem t_Mo_isBadHead_101 {X : Xt} {S : Sh} (hS : ShOK S) {d : Nat} (hd : 2 ≤ d + 1) (σ : Mm) (u0 : Value) (u1 : Value) : Rf X S (emI σ) (f_Mo_isBadHead_101 σ) (d + 1) 246 101 [u0, u1] [] σ := by
  unfold f_Mo_isBadHead_101
  refine rf_iconst c_246_101 ki_1 ?_
  refine rf_goto c_246_102 rfl ?_
  exact t_Mo_isBadHead_106 hS hd σ  (1 : Int32) (u0) (u1)
def f_Mo_isBadHead_105 (σ : Mm) : Option Int32 := f_Mo_isBadHead_106 σ (0 : Int32)
set_option maxRecDepth 100000 in
set_option maxHeartbeats 4000000 in
theorem t_Mo_isBadHead_105 {X : Xt} {S : Sh} (hS : ShOK S) {d : Nat} (hd : 2 ≤ d + 1) (σ : Mm) (u0 : Value) (u1 : Value) : Rf X S (emI σ) (f_Mo_isBadHead_105 σ) (d + 1) 246 105 [u0, u1] [] σ := by
  unfold f_Mo_isBadHead_105
  refine rf_iconst c_246_105 ki_0 ?_
  exact t_Mo_isBadHead_106 hS hd σ  (0 : Int32) (u0) (u1)
def f_Mo_isBadHead_41 (σ : Mm) (x0 : Nat) (y0 : Int32) : Option Int32 := (if (4 : Int32) < (σ x0 20) then (f_Mo_isBadHead_101 σ ) else (if ¬ (σ x0 19) = 0 then (if ¬ (σ x0 19) = (2 : Int32) then (if (σ x0 21) ≤ y0 then (f_Mo_isBadHead_105 σ ) else (f_Mo_isBadHead_101 σ )) else ((f_Mo_isOffice σ x0 (σ x0 21)).bind fun v84 => (if ¬ v84 = 0 then (f_Mo_isBadHead_105 σ ) else (f_Mo_isBadHead_101 σ )))) else ((f_Mo_isTable σ x0 (σ x0 21)).bind fun v62 => (if ¬ v62 = 0 then (f_Mo_isBadHead_105 σ ) else (f_Mo_isBadHead_101 σ )))))
set_option maxRecDepth 100000 in
set_option maxHeartbeats 4000000 in
theorem t_Mo_isBadHead_41 {X : Xt} {S : Sh} (hS : ShOK S) {d : Nat} (hd : 2 ≤ d + 1) (σ : Mm) (x0 : Nat) (y0 : Int32) (u1 : Value) (h_x0 : tgT x0 = 12) : Rf X S (emI σ) (f_Mo_isBadHead_41 σ x0 y0) (d + 1) 246 41 [.ref x0, u1] [.int y0] σ := by
  unfold f_Mo_isBadHead_41
  refine rf_ist (i := 1) (Or.inr ⟨1, rfl, rfl, rfl⟩) c_246_41 (Nat.le_of_ble_eq_true rfl) rfl ?_
  refine rf_ald (i := 0) (Or.inr ⟨0, rfl, rfl, rfl⟩) c_246_42 rfl ?_
  refine rf_geti hS c_246_43 rfl fl_12_253 rfl h_x0 ?_
  refine rf_iconst c_246_46 ki_4 ?_
  refine rf_ite (fun hc47 => ?_) (fun hc47 => ?_)
  · refine rf_b2t c_246_47 rfl (decide_eq_true hc47) ?_
    exact t_Mo_isBadHead_101 hS hd σ  (.ref x0) (.int y0)
  · refine rf_b2f c_246_47 rfl (decide_eq_false hc47) ?_
    refine rf_ald (i := 0) (Or.inr ⟨0, rfl, rfl, rfl⟩) c_246_50 rfl ?_
    refine rf_geti hS c_246_51 rfl fl_12_250 rfl h_x0 ?_
    refine rf_ite (fun hc54 => ?_) (fun hc54 => ?_)
    · refine rf_b1t c_246_54 rfl (decide_eq_true hc54) ?_
      refine rf_ald (i := 0) (Or.inr ⟨0, rfl, rfl, rfl⟩) c_246_71 rfl ?_
      refine rf_geti hS c_246_72 rfl fl_12_250 rfl h_x0 ?_
      refine rf_iconst c_246_75 ki_2 ?_
      refine rf_ite (fun hc76 => ?_) (fun hc76 => ?_)
      · refine rf_b2t c_246_76 rfl (decide_eq_true hc76) ?_
        refine rf_ald (i := 0) (Or.inr ⟨0, rfl, rfl, rfl⟩) c_246_93 rfl ?_
        refine rf_geti hS c_246_94 rfl fl_12_259 rfl h_x0 ?_
        refine rf_ild (i := 1) (Or.inr ⟨1, rfl, rfl, rfl⟩) c_246_97 rfl ?_
        refine rf_ite (fun hc98 => ?_) (fun hc98 => ?_)
        · refine rf_b2t c_246_98 rfl (decide_eq_true hc98) ?_
          exact t_Mo_isBadHead_105 hS hd σ  (.ref x0) (.int y0)
        · refine rf_b2f c_246_98 rfl (decide_eq_false hc98) ?_
          exact t_Mo_isBadHead_101 hS hd σ  (.ref x0) (.int y0)
      · refine rf_b2f c_246_76 rfl (decide_eq_false hc76) ?_
        refine rf_ald (i := 0) (Or.inr ⟨0, rfl, rfl, rfl⟩) c_246_79 rfl ?_
        refine rf_ald (i := 0) (Or.inr ⟨0, rfl, rfl, rfl⟩) c_246_80 rfl ?_
        refine rf_geti hS c_246_81 rfl fl_12_259 rfl h_x0 ?_
        refine rf_callI (as := [.ref x0, .int (σ x0 21)]) (kd := 1) c_246_84 rfl (by decide) rfl ml_12_87 (by decide) rfl (rcv_1 hS rfl rfl h_x0 (by decide)) (Nat.zero_le _) rfl rfl (t_Mo_isOffice hS (by omega) σ x0 (σ x0 21) h_x0) (fun v84 => ?_)
        refine rf_ite (fun hc87 => ?_) (fun hc87 => ?_)
        · refine rf_b1t c_246_87 rfl (decide_eq_true hc87) ?_
          exact t_Mo_isBadHead_105 hS hd σ  (.ref x0) (.int y0)
        · refine rf_b1f c_246_87 rfl (decide_eq_false hc87) ?_
          refine rf_goto c_246_90 rfl ?_
          exact t_Mo_isBadHead_101 hS hd σ  (.ref x0) (.int y0)
    · refine rf_b1f c_246_54 rfl (decide_eq_false hc54) ?_
      refine rf_ald (i := 0) (Or.inr ⟨0, rfl, rfl, rfl⟩) c_246_57 rfl ?_
      refine rf_ald (i := 0) (Or.inr ⟨0, rfl, rfl, rfl⟩) c_246_58 rfl ?_
      refine rf_geti hS c_246_59 rfl fl_12_259 rfl h_x0 ?_
      refine rf_callI (as := [.ref x0, .int (σ x0 21)]) (kd := 1) c_246_62 rfl (by decide) rfl ml_12_103 (by decide) rfl (rcv_1 hS rfl rfl h_x0 (by decide)) (Nat.zero_le _) rfl rfl (t_Mo_isTable hS (by omega) σ x0 (σ x0 21) h_x0) (fun v62 => ?_)
      refine rf_ite (fun hc65 => ?_) (fun hc65 => ?_)
      · refine rf_b1t c_246_65 rfl (decide_eq_true hc65) ?_
        exact t_Mo_isBadHead_105 hS hd σ  (.ref x0) (.int y0)
      · refine rf_b1f c_246_65 rfl (decide_eq_false hc65) ?_
        refine rf_goto c_246_68 rfl ?_
        exact t_Mo_isBadHead_101 hS hd σ  (.ref x0) (.int y0)
def f_Mo_isBadHead (σ : Mm) (x0 : Nat) : Option Int32 := (if ¬ (σ x0 19) = (5 : Int32) then (if ¬ (σ x0 19) = (4 : Int32) then (f_Mo_isBadHead_41 σ x0 (99 : Int32)) else (f_Mo_isBadHead_41 σ x0 (999 : Int32))) else ((f_Mo_isRule σ x0 (σ x0 20)).bind fun v13 => (if ¬ v13 = 0 then (f_Mo_isBadHead_24 σ (0 : Int32)) else (f_Mo_isBadHead_24 σ (1 : Int32)))))
set_option maxRecDepth 100000 in
set_option maxHeartbeats 4000000 in
theorem t_Mo_isBadHead_e {X : Xt} {S : Sh} (hS : ShOK S) {d : Nat} (hd : 2 ≤ d + 1) (σ : Mm) (x0 : Nat) (h_x0 : tgT x0 = 12) : Rf X S (emI σ) (f_Mo_isBadHead σ x0) (d + 1) 246 0 [.ref x0, unset0] [] σ := by
  unfold f_Mo_isBadHead
  refine rf_ald (i := 0) (Or.inr ⟨0, rfl, rfl, rfl⟩) c_246_0 rfl ?_
  refine rf_geti hS c_246_1 rfl fl_12_250 rfl h_x0 ?_
  refine rf_iconst c_246_4 ki_5 ?_
  refine rf_ite (fun hc5 => ?_) (fun hc5 => ?_)
  · refine rf_b2t c_246_5 rfl (decide_eq_true hc5) ?_
    refine rf_ald (i := 0) (Or.inr ⟨0, rfl, rfl, rfl⟩) c_246_25 rfl ?_
    refine rf_geti hS c_246_26 rfl fl_12_250 rfl h_x0 ?_
    refine rf_iconst c_246_29 ki_4 ?_
    refine rf_ite (fun hc30 => ?_) (fun hc30 => ?_)
    · refine rf_b2t c_246_30 rfl (decide_eq_true hc30) ?_
      refine rf_bipush c_246_39 kb_99 ?_
      exact t_Mo_isBadHead_41 hS hd σ  x0 (99 : Int32) (unset0) h_x0
    · refine rf_b2f c_246_30 rfl (decide_eq_false hc30) ?_
      refine rf_sipush c_246_33 ks_999 ?_
      refine rf_goto c_246_36 rfl ?_
      exact t_Mo_isBadHead_41 hS hd σ  x0 (999 : Int32) (unset0) h_x0
  · refine rf_b2f c_246_5 rfl (decide_eq_false hc5) ?_
    refine rf_ald (i := 0) (Or.inr ⟨0, rfl, rfl, rfl⟩) c_246_8 rfl ?_
    refine rf_ald (i := 0) (Or.inr ⟨0, rfl, rfl, rfl⟩) c_246_9 rfl ?_
    refine rf_geti hS c_246_10 rfl fl_12_253 rfl h_x0 ?_
    refine rf_callI (as := [.ref x0, .int (σ x0 20)]) (kd := 1) c_246_13 rfl (by decide) rfl ml_12_256 (by decide) rfl (rcv_1 hS rfl rfl h_x0 (by decide)) (Nat.zero_le _) rfl rfl (t_Mo_isRule hS (by omega) σ x0 (σ x0 20) h_x0) (fun v13 => ?_)
    refine rf_ite (fun hc16 => ?_) (fun hc16 => ?_)
    · refine rf_b1t c_246_16 rfl (decide_eq_true hc16) ?_
      refine rf_iconst c_246_23 ki_0 ?_
      exact t_Mo_isBadHead_24 hS hd σ  (0 : Int32) (.ref x0) (unset0)
    · refine rf_b1f c_246_16 rfl (decide_eq_false hc16) ?_
      refine rf_iconst c_246_19 ki_1 ?_
      refine rf_goto c_246_20 rfl ?_
      exact t_Mo_isBadHead_24 hS hd σ  (1 : Int32) (.ref x0) (unset0)
theorem t_Mo_isBadHead {X : Xt} {S : Sh} (hS : ShOK S) {d : Nat} (hd : 2 ≤ d) (σ : Mm) (x0 : Nat) (h_x0 : tgT x0 = 12) : Rf X S (emI σ) (f_Mo_isBadHead σ x0) d 246 0 [.ref x0, unset0] [] σ := by
  obtain ⟨d1, rfl⟩ : ∃ d1, d = d1 + 1 := ⟨d - 1, by omega⟩
  exact t_Mo_isBadHead_e hS hd σ x0 h_x0
theorem c_247_0 : cd 247 0 = some (.aload_n 0, 1) := by decide +kernel
theorem c_247_1 : cd 247 1 = some (.getfield 171, 3) := by decide +kernel
theorem c_247_4 : cd 247 4 = some (.iconst (1), 1) := by decide +kernel
theorem c_247_5 : cd 247 5 = some (.if_icmp .ne (11), 3) := by decide +kernel
theorem c_247_8 : cd 247 8 = some (.aload_n 0, 1) := by decide +kernel
theorem c_247_9 : cd 247 9 = some (.getfield 177, 3) := by decide +kernel
theorem c_247_12 : cd 247 12 = some (.iconst (5), 1) := by decide +kernel
theorem c_247_13 : cd 247 13 = some (.if_icmp .le (5), 3) := by decide +kernel
theorem c_247_16 : cd 247 16 = some (.iconst (0), 1) := by decide +kernel
theorem c_247_17 : cd 247 17 = some (.ireturn, 1) := by decide +kernel
theorem c_247_18 : cd 247 18 = some (.aload_n 0, 1) := by decide +kernel
theorem c_247_19 : cd 247 19 = some (.aload_n 0, 1) := by decide +kernel
theorem c_247_20 : cd 247 20 = some (.getfield 177, 3) := by decide +kernel
theorem c_247_23 : cd 247 23 = some (.putfield 250, 3) := by decide +kernel
theorem c_247_26 : cd 247 26 = some (.aload_n 0, 1) := by decide +kernel
theorem c_247_27 : cd 247 27 = some (.invokevirtual 195, 3) := by decide +kernel
theorem c_247_30 : cd 247 30 = some (.aload_n 0, 1) := by decide +kernel
theorem c_247_31 : cd 247 31 = some (.invokevirtual 207, 3) := by decide +kernel
theorem c_247_34 : cd 247 34 = some (.ifCond .ne (5), 3) := by decide +kernel
theorem c_247_37 : cd 247 37 = some (.iconst (0), 1) := by decide +kernel
theorem c_247_38 : cd 247 38 = some (.ireturn, 1) := by decide +kernel
theorem c_247_39 : cd 247 39 = some (.aload_n 0, 1) := by decide +kernel
theorem c_247_40 : cd 247 40 = some (.aload_n 0, 1) := by decide +kernel
theorem c_247_41 : cd 247 41 = some (.getfield 192, 3) := by decide +kernel
theorem c_247_44 : cd 247 44 = some (.putfield 253, 3) := by decide +kernel
theorem c_247_47 : cd 247 47 = some (.aload_n 0, 1) := by decide +kernel
theorem c_247_48 : cd 247 48 = some (.iconst (-1), 1) := by decide +kernel
theorem c_247_49 : cd 247 49 = some (.putfield 259, 3) := by decide +kernel
theorem c_247_52 : cd 247 52 = some (.aload_n 0, 1) := by decide +kernel
theorem c_247_53 : cd 247 53 = some (.getfield 250, 3) := by decide +kernel
theorem c_247_56 : cd 247 56 = some (.iconst (5), 1) := by decide +kernel
theorem c_247_57 : cd 247 57 = some (.if_icmp .eq (20), 3) := by decide +kernel
theorem c_247_60 : cd 247 60 = some (.aload_n 0, 1) := by decide +kernel
theorem c_247_61 : cd 247 61 = some (.invokevirtual 207, 3) := by decide +kernel
theorem c_247_64 : cd 247 64 = some (.ifCond .ne (5), 3) := by decide +kernel
theorem c_247_67 : cd 247 67 = some (.iconst (0), 1) := by decide +kernel
theorem c_247_68 : cd 247 68 = some (.ireturn, 1) := by decide +kernel
theorem c_247_69 : cd 247 69 = some (.aload_n 0, 1) := by decide +kernel
theorem c_247_70 : cd 247 70 = some (.aload_n 0, 1) := by decide +kernel
theorem c_247_71 : cd 247 71 = some (.getfield 192, 3) := by decide +kernel
theorem c_247_74 : cd 247 74 = some (.putfield 259, 3) := by decide +kernel
theorem c_247_77 : cd 247 77 = some (.aload_n 0, 1) := by decide +kernel
theorem c_247_78 : cd 247 78 = some (.aload_n 0, 1) := by decide +kernel
theorem c_247_79 : cd 247 79 = some (.invokevirtual 262, 3) := by decide +kernel
theorem c_247_82 : cd 247 82 = some (.putfield 211, 3) := by decide +kernel
theorem c_247_85 : cd 247 85 = some (.iconst (1), 1) := by decide +kernel
theorem c_247_86 : cd 247 86 = some (.ireturn, 1) := by decide +kernel
def f_Mo_takesHead_16 (σ : Mm) : Option (Int32 × Mm) := some ((0 : Int32), σ)
set_option maxRecDepth 100000 in
set_option maxHeartbeats 4000000 in
theorem t_Mo_takesHead_16 {X : Xt} {S : Sh} (hS : ShOK S) {d : Nat} (hd : 4 ≤ d + 1) (u0 : Value) (σ : Mm) : Rf X S emM (f_Mo_takesHead_16 σ) (d + 1) 247 16 [u0] [] σ := by
  unfold f_Mo_takesHead_16
  refine rf_iconst c_247_16 ki_0 ?_
  exact rf_ret c_247_17 rfl (by decide) rfl rfl
def f_Mo_takesHead_77 (x0 : Nat) (σ : Mm) : Option (Int32 × Mm) := (f_Mo_isBadHead σ x0).bind fun v79 => if zB v79 = true then nmM (up2 σ x0 28 v79) fun σ82 => some ((1 : Int32), σ82) else none
set_option maxRecDepth 100000 in
set_option maxHeartbeats 4000000 in
theorem t_Mo_takesHead_77 {X : Xt} {S : Sh} (hS : ShOK S) {d : Nat} (hd : 4 ≤ d + 1) (x0 : Nat) (σ : Mm) (h_x0 : tgT x0 = 12) : Rf X S emM (f_Mo_takesHead_77 x0 σ) (d + 1) 247 77 [.ref x0] [] σ := by
  unfold f_Mo_takesHead_77
  refine rf_ald (i := 0) (Or.inr ⟨0, rfl, rfl, rfl⟩) c_247_77 rfl ?_
  refine rf_ald (i := 0) (Or.inr ⟨0, rfl, rfl, rfl⟩) c_247_78 rfl ?_
  refine rf_callI (as := [.ref x0]) (kd := 1) c_247_79 rfl (by decide) rfl ml_12_262 (by decide) rfl (rcv_1 hS rfl rfl h_x0 (by decide)) (by simp [Value.category]) rfl rfl (t_Mo_isBadHead hS (by omega) σ x0 h_x0) (fun v79 => ?_)
  refine rf_ite (fun hq82 => ?_) (fun _ => rf_none)
  refine rf_puti hS c_247_82 rfl fl_12_211 rfl rfl (zB_n hq82) (zB_f hq82) h_x0 ?_
  refine rf_nm (fun σ82 => ?_)
  refine rf_iconst c_247_85 ki_1 ?_
  exact rf_ret c_247_86 rfl (by decide) rfl rfl
def f_Mo_takesHead (x0 : Nat) (σ : Mm) : Option (Int32 × Mm) := (if ¬ (σ x0 16) = (1 : Int32) then (f_Mo_takesHead_16  σ) else (if (σ x0 17) ≤ (5 : Int32) then (nmM (up2 σ x0 19 (σ x0 17)) fun σ23 => (f_Mo_go x0 σ23).bind fun v27 => (f_Mo_takesNumber x0 v27).bind fun v31 => (if ¬ v31.1 = 0 then (nmM (up2 v31.2 x0 20 (v31.2 x0 29)) fun σ44 => nmM (up2 σ44 x0 21 (-1 : Int32)) fun σ49 => (if (σ49 x0 19) = (5 : Int32) then (f_Mo_takesHead_77  x0 σ49) else ((f_Mo_takesNumber x0 σ49).bind fun v61 => (if ¬ v61.1 = 0 then (nmM (up2 v61.2 x0 21 (v61.2 x0 29)) fun σ74 => f_Mo_takesHead_77  x0 σ74) else (some ((0 : Int32), v61.2)))))) else (some ((0 : Int32), v31.2)))) else (f_Mo_takesHead_16  σ)))
set_option maxRecDepth 100000 in
set_option maxHeartbeats 4000000 in
theorem t_Mo_takesHead_e {X : Xt} {S : Sh} (hS : ShOK S) {d : Nat} (hd : 4 ≤ d + 1) (x0 : Nat) (σ : Mm) (h_x0 : tgT x0 = 12) : Rf X S emM (f_Mo_takesHead x0 σ) (d + 1) 247 0 [.ref x0] [] σ := by
  unfold f_Mo_takesHead
  refine rf_ald (i := 0) (Or.inr ⟨0, rfl, rfl, rfl⟩) c_247_0 rfl ?_
  refine rf_geti hS c_247_1 rfl fl_12_171 rfl h_x0 ?_
  refine rf_iconst c_247_4 ki_1 ?_
  refine rf_ite (fun hc5 => ?_) (fun hc5 => ?_)
  · refine rf_b2t c_247_5 rfl (decide_eq_true hc5) ?_
    exact t_Mo_takesHead_16 hS hd  (.ref x0) σ
  · refine rf_b2f c_247_5 rfl (decide_eq_false hc5) ?_
    refine rf_ald (i := 0) (Or.inr ⟨0, rfl, rfl, rfl⟩) c_247_8 rfl ?_
    refine rf_geti hS c_247_9 rfl fl_12_177 rfl h_x0 ?_
    refine rf_iconst c_247_12 ki_5 ?_
    refine rf_ite (fun hc13 => ?_) (fun hc13 => ?_)
    · refine rf_b2t c_247_13 rfl (decide_eq_true hc13) ?_
      refine rf_ald (i := 0) (Or.inr ⟨0, rfl, rfl, rfl⟩) c_247_18 rfl ?_
      refine rf_ald (i := 0) (Or.inr ⟨0, rfl, rfl, rfl⟩) c_247_19 rfl ?_
      refine rf_geti hS c_247_20 rfl fl_12_177 rfl h_x0 ?_
      refine rf_puti hS c_247_23 rfl fl_12_250 rfl rfl rfl rfl h_x0 ?_
      refine rf_nm (fun σ23 => ?_)
      refine rf_ald (i := 0) (Or.inr ⟨0, rfl, rfl, rfl⟩) c_247_26 rfl ?_
      refine rf_callV (as := [.ref x0]) (kd := 1) c_247_27 rfl (by decide) rfl ml_12_195 (by decide) rfl (rcv_1 hS rfl rfl h_x0 (by decide)) (Nat.zero_le _) rfl rfl (t_Mo_go hS (by omega) x0 σ23 h_x0) (fun v27 => ?_)
      refine rf_ald (i := 0) (Or.inr ⟨0, rfl, rfl, rfl⟩) c_247_30 rfl ?_
      refine rf_callM (as := [.ref x0]) (kd := 1) c_247_31 rfl (by decide) rfl ml_12_207 (by decide) rfl (rcv_1 hS rfl rfl h_x0 (by decide)) (Nat.zero_le _) rfl rfl (t_Mo_takesNumber hS (by omega) x0 v27 h_x0) (fun v31 => ?_)
      refine rf_ite (fun hc34 => ?_) (fun hc34 => ?_)
      · refine rf_b1t c_247_34 rfl (decide_eq_true hc34) ?_
        refine rf_ald (i := 0) (Or.inr ⟨0, rfl, rfl, rfl⟩) c_247_39 rfl ?_
        refine rf_ald (i := 0) (Or.inr ⟨0, rfl, rfl, rfl⟩) c_247_40 rfl ?_
        refine rf_geti hS c_247_41 rfl fl_12_192 rfl h_x0 ?_
        refine rf_puti hS c_247_44 rfl fl_12_253 rfl rfl rfl rfl h_x0 ?_
        refine rf_nm (fun σ44 => ?_)
        refine rf_ald (i := 0) (Or.inr ⟨0, rfl, rfl, rfl⟩) c_247_47 rfl ?_
        refine rf_iconst c_247_48 ki_m1 ?_
        refine rf_puti hS c_247_49 rfl fl_12_259 rfl rfl rfl rfl h_x0 ?_
        refine rf_nm (fun σ49 => ?_)
        refine rf_ald (i := 0) (Or.inr ⟨0, rfl, rfl, rfl⟩) c_247_52 rfl ?_
        refine rf_geti hS c_247_53 rfl fl_12_250 rfl h_x0 ?_
        refine rf_iconst c_247_56 ki_5 ?_
        refine rf_ite (fun hc57 => ?_) (fun hc57 => ?_)
        · refine rf_b2t c_247_57 rfl (decide_eq_true hc57) ?_
          exact t_Mo_takesHead_77 hS hd  x0 σ49 h_x0
        · refine rf_b2f c_247_57 rfl (decide_eq_false hc57) ?_
          refine rf_ald (i := 0) (Or.inr ⟨0, rfl, rfl, rfl⟩) c_247_60 rfl ?_
          refine rf_callM (as := [.ref x0]) (kd := 1) c_247_61 rfl (by decide) rfl ml_12_207 (by decide) rfl (rcv_1 hS rfl rfl h_x0 (by decide)) (Nat.zero_le _) rfl rfl (t_Mo_takesNumber hS (by omega) x0 σ49 h_x0) (fun v61 => ?_)
          refine rf_ite (fun hc64 => ?_) (fun hc64 => ?_)
          · refine rf_b1t c_247_64 rfl (decide_eq_true hc64) ?_
            refine rf_ald (i := 0) (Or.inr ⟨0, rfl, rfl, rfl⟩) c_247_69 rfl ?_
            refine rf_ald (i := 0) (Or.inr ⟨0, rfl, rfl, rfl⟩) c_247_70 rfl ?_
            refine rf_geti hS c_247_71 rfl fl_12_192 rfl h_x0 ?_
            refine rf_puti hS c_247_74 rfl fl_12_259 rfl rfl rfl rfl h_x0 ?_
            refine rf_nm (fun σ74 => ?_)
            exact t_Mo_takesHead_77 hS hd  x0 σ74 h_x0
          · refine rf_b1f c_247_64 rfl (decide_eq_false hc64) ?_
            refine rf_iconst c_247_67 ki_0 ?_
            exact rf_ret c_247_68 rfl (by decide) rfl rfl
      · refine rf_b1f c_247_34 rfl (decide_eq_false hc34) ?_
        refine rf_iconst c_247_37 ki_0 ?_
        exact rf_ret c_247_38 rfl (by decide) rfl rfl
    · refine rf_b2f c_247_13 rfl (decide_eq_false hc13) ?_
      exact t_Mo_takesHead_16 hS hd  (.ref x0) σ
theorem t_Mo_takesHead {X : Xt} {S : Sh} (hS : ShOK S) {d : Nat} (hd : 4 ≤ d) (x0 : Nat) (σ : Mm) (h_x0 : tgT x0 = 12) : Rf X S emM (f_Mo_takesHead x0 σ) d 247 0 [.ref x0] [] σ := by
  obtain ⟨d1, rfl⟩ : ∃ d1, d = d1 + 1 := ⟨d - 1, by omega⟩
  exact t_Mo_takesHead_e hS hd x0 σ h_x0
theorem c_248_0 : cd 248 0 = some (.aload_n 0, 1) := by decide +kernel
theorem c_248_1 : cd 248 1 = some (.aload_n 0, 1) := by decide +kernel
theorem c_248_2 : cd 248 2 = some (.getfield 159, 3) := by decide +kernel
theorem c_248_5 : cd 248 5 = some (.putfield 162, 3) := by decide +kernel
theorem c_248_8 : cd 248 8 = some (.aload_n 0, 1) := by decide +kernel
theorem c_248_9 : cd 248 9 = some (.iconst (0), 1) := by decide +kernel
theorem c_248_10 : cd 248 10 = some (.putfield 165, 3) := by decide +kernel
theorem c_248_13 : cd 248 13 = some (.aload_n 0, 1) := by decide +kernel
theorem c_248_14 : cd 248 14 = some (.iconst (-1), 1) := by decide +kernel
theorem c_248_15 : cd 248 15 = some (.putfield 183, 3) := by decide +kernel
theorem c_248_18 : cd 248 18 = some (.aload_n 0, 1) := by decide +kernel
theorem c_248_19 : cd 248 19 = some (.iconst (-1), 1) := by decide +kernel
theorem c_248_20 : cd 248 20 = some (.putfield 265, 3) := by decide +kernel
theorem c_248_23 : cd 248 23 = some (.aload_n 0, 1) := by decide +kernel
theorem c_248_24 : cd 248 24 = some (.iconst (-1), 1) := by decide +kernel
theorem c_248_25 : cd 248 25 = some (.putfield 268, 3) := by decide +kernel
theorem c_248_28 : cd 248 28 = some (.aload_n 0, 1) := by decide +kernel
theorem c_248_29 : cd 248 29 = some (.iconst (0), 1) := by decide +kernel
theorem c_248_30 : cd 248 30 = some (.putfield 218, 3) := by decide +kernel
theorem c_248_33 : cd 248 33 = some (.aload_n 0, 1) := by decide +kernel
theorem c_248_34 : cd 248 34 = some (.invokevirtual 195, 3) := by decide +kernel
theorem c_248_37 : cd 248 37 = some (.aload_n 0, 1) := by decide +kernel
theorem c_248_38 : cd 248 38 = some (.invokevirtual 271, 3) := by decide +kernel
theorem c_248_41 : cd 248 41 = some (.ifCond .ne (5), 3) := by decide +kernel
theorem c_248_44 : cd 248 44 = some (.iconst (0), 1) := by decide +kernel
theorem c_248_45 : cd 248 45 = some (.ireturn, 1) := by decide +kernel
theorem c_248_46 : cd 248 46 = some (.aload_n 0, 1) := by decide +kernel
theorem c_248_47 : cd 248 47 = some (.bipush (6), 2) := by decide +kernel
theorem c_248_49 : cd 248 49 = some (.invokevirtual 230, 3) := by decide +kernel
theorem c_248_52 : cd 248 52 = some (.ifCond .eq (25), 3) := by decide +kernel
theorem c_248_55 : cd 248 55 = some (.aload_n 0, 1) := by decide +kernel
theorem c_248_56 : cd 248 56 = some (.invokevirtual 195, 3) := by decide +kernel
theorem c_248_59 : cd 248 59 = some (.aload_n 0, 1) := by decide +kernel
theorem c_248_60 : cd 248 60 = some (.iconst (0), 1) := by decide +kernel
theorem c_248_61 : cd 248 61 = some (.invokevirtual 274, 3) := by decide +kernel
theorem c_248_64 : cd 248 64 = some (.ifCond .ne (5), 3) := by decide +kernel
theorem c_248_67 : cd 248 67 = some (.iconst (0), 1) := by decide +kernel
theorem c_248_68 : cd 248 68 = some (.ireturn, 1) := by decide +kernel
theorem c_248_69 : cd 248 69 = some (.aload_n 0, 1) := by decide +kernel
theorem c_248_70 : cd 248 70 = some (.aload_n 0, 1) := by decide +kernel
theorem c_248_71 : cd 248 71 = some (.getfield 201, 3) := by decide +kernel
theorem c_248_74 : cd 248 74 = some (.putfield 265, 3) := by decide +kernel
theorem c_248_77 : cd 248 77 = some (.aload_n 0, 1) := by decide +kernel
theorem c_248_78 : cd 248 78 = some (.bipush (7), 2) := by decide +kernel
theorem c_248_80 : cd 248 80 = some (.invokevirtual 230, 3) := by decide +kernel
theorem c_248_83 : cd 248 83 = some (.ifCond .eq (25), 3) := by decide +kernel
theorem c_248_86 : cd 248 86 = some (.aload_n 0, 1) := by decide +kernel
theorem c_248_87 : cd 248 87 = some (.invokevirtual 195, 3) := by decide +kernel
theorem c_248_90 : cd 248 90 = some (.aload_n 0, 1) := by decide +kernel
theorem c_248_91 : cd 248 91 = some (.iconst (1), 1) := by decide +kernel
theorem c_248_92 : cd 248 92 = some (.invokevirtual 274, 3) := by decide +kernel
theorem c_248_95 : cd 248 95 = some (.ifCond .ne (5), 3) := by decide +kernel
theorem c_248_98 : cd 248 98 = some (.iconst (0), 1) := by decide +kernel
theorem c_248_99 : cd 248 99 = some (.ireturn, 1) := by decide +kernel
theorem c_248_100 : cd 248 100 = some (.aload_n 0, 1) := by decide +kernel
theorem c_248_101 : cd 248 101 = some (.aload_n 0, 1) := by decide +kernel
theorem c_248_102 : cd 248 102 = some (.getfield 201, 3) := by decide +kernel
theorem c_248_105 : cd 248 105 = some (.putfield 268, 3) := by decide +kernel
theorem c_248_108 : cd 248 108 = some (.aload_n 0, 1) := by decide +kernel
theorem c_248_109 : cd 248 109 = some (.getfield 171, 3) := by decide +kernel
theorem c_248_112 : cd 248 112 = some (.ifCond .ne (7), 3) := by decide +kernel
theorem c_248_115 : cd 248 115 = some (.iconst (1), 1) := by decide +kernel
theorem c_248_116 : cd 248 116 = some (.goto (4), 3) := by decide +kernel
theorem c_248_119 : cd 248 119 = some (.iconst (0), 1) := by decide +kernel
theorem c_248_120 : cd 248 120 = some (.ireturn, 1) := by decide +kernel
def f_Mo_takesRule_120 (y0 : Int32) (σ : Mm) : Option (Int32 × Mm) := if zB y0 = true then some (y0, σ) else none
set_option maxRecDepth 100000 in
set_option maxHeartbeats 4000000 in
theorem t_Mo_takesRule_120 {X : Xt} {S : Sh} (hS : ShOK S) {d : Nat} (hd : 6 ≤ d + 1) (y0 : Int32) (u0 : Value) (σ : Mm) : Rf X S emM (f_Mo_takesRule_120 y0 σ) (d + 1) 248 120 [u0] [.int y0] σ := by
  unfold f_Mo_takesRule_120
  refine rf_ite (fun hq120 => ?_) (fun _ => rf_none)
  exact rf_ret c_248_120 rfl (zB_n hq120) rfl rfl
def f_Mo_takesRule_108 (x0 : Nat) (σ : Mm) : Option (Int32 × Mm) := (if ¬ (σ x0 16) = 0 then (f_Mo_takesRule_120  (0 : Int32) σ) else (f_Mo_takesRule_120  (1 : Int32) σ))
set_option maxRecDepth 100000 in
set_option maxHeartbeats 4000000 in
theorem t_Mo_takesRule_108 {X : Xt} {S : Sh} (hS : ShOK S) {d : Nat} (hd : 6 ≤ d + 1) (x0 : Nat) (σ : Mm) (h_x0 : tgT x0 = 12) : Rf X S emM (f_Mo_takesRule_108 x0 σ) (d + 1) 248 108 [.ref x0] [] σ := by
  unfold f_Mo_takesRule_108
  refine rf_ald (i := 0) (Or.inr ⟨0, rfl, rfl, rfl⟩) c_248_108 rfl ?_
  refine rf_geti hS c_248_109 rfl fl_12_171 rfl h_x0 ?_
  refine rf_ite (fun hc112 => ?_) (fun hc112 => ?_)
  · refine rf_b1t c_248_112 rfl (decide_eq_true hc112) ?_
    refine rf_iconst c_248_119 ki_0 ?_
    exact t_Mo_takesRule_120 hS hd  (0 : Int32) (.ref x0) σ
  · refine rf_b1f c_248_112 rfl (decide_eq_false hc112) ?_
    refine rf_iconst c_248_115 ki_1 ?_
    refine rf_goto c_248_116 rfl ?_
    exact t_Mo_takesRule_120 hS hd  (1 : Int32) (.ref x0) σ
def f_Mo_takesRule_77 (x0 : Nat) (σ : Mm) : Option (Int32 × Mm) := (f_Mo_isWord σ x0 (7 : Int32)).bind fun v80 => (if v80 = 0 then (f_Mo_takesRule_108  x0 σ) else ((f_Mo_go x0 σ).bind fun v87 => (f_Mo_takesE x0 (1 : Int32) v87).bind fun v92 => (if ¬ v92.1 = 0 then (nmM (up2 v92.2 x0 26 (v92.2 x0 24)) fun σ105 => f_Mo_takesRule_108  x0 σ105) else (some ((0 : Int32), v92.2)))))
set_option maxRecDepth 100000 in
set_option maxHeartbeats 4000000 in
theorem t_Mo_takesRule_77 {X : Xt} {S : Sh} (hS : ShOK S) {d : Nat} (hd : 6 ≤ d + 1) (x0 : Nat) (σ : Mm) (h_x0 : tgT x0 = 12) : Rf X S emM (f_Mo_takesRule_77 x0 σ) (d + 1) 248 77 [.ref x0] [] σ := by
  unfold f_Mo_takesRule_77
  refine rf_ald (i := 0) (Or.inr ⟨0, rfl, rfl, rfl⟩) c_248_77 rfl ?_
  refine rf_bipush c_248_78 kb_7 ?_
  refine rf_callI (as := [.ref x0, .int (7 : Int32)]) (kd := 1) c_248_80 rfl (by decide) rfl ml_12_230 (by decide) rfl (rcv_1 hS rfl rfl h_x0 (by decide)) (Nat.zero_le _) rfl rfl (t_Mo_isWord hS (by omega) σ x0 (7 : Int32) h_x0) (fun v80 => ?_)
  refine rf_ite (fun hc83 => ?_) (fun hc83 => ?_)
  · refine rf_b1t c_248_83 rfl (decide_eq_true hc83) ?_
    exact t_Mo_takesRule_108 hS hd  x0 σ h_x0
  · refine rf_b1f c_248_83 rfl (decide_eq_false hc83) ?_
    refine rf_ald (i := 0) (Or.inr ⟨0, rfl, rfl, rfl⟩) c_248_86 rfl ?_
    refine rf_callV (as := [.ref x0]) (kd := 1) c_248_87 rfl (by decide) rfl ml_12_195 (by decide) rfl (rcv_1 hS rfl rfl h_x0 (by decide)) (Nat.zero_le _) rfl rfl (t_Mo_go hS (by omega) x0 σ h_x0) (fun v87 => ?_)
    refine rf_ald (i := 0) (Or.inr ⟨0, rfl, rfl, rfl⟩) c_248_90 rfl ?_
    refine rf_iconst c_248_91 ki_1 ?_
    refine rf_callM (as := [.ref x0, .int (1 : Int32)]) (kd := 1) c_248_92 rfl (by decide) rfl ml_12_274 (by decide) rfl (rcv_1 hS rfl rfl h_x0 (by decide)) (Nat.zero_le _) rfl rfl (t_Mo_takesE hS (by omega) x0 (1 : Int32) v87 h_x0) (fun v92 => ?_)
    refine rf_ite (fun hc95 => ?_) (fun hc95 => ?_)
    · refine rf_b1t c_248_95 rfl (decide_eq_true hc95) ?_
      refine rf_ald (i := 0) (Or.inr ⟨0, rfl, rfl, rfl⟩) c_248_100 rfl ?_
      refine rf_ald (i := 0) (Or.inr ⟨0, rfl, rfl, rfl⟩) c_248_101 rfl ?_
      refine rf_geti hS c_248_102 rfl fl_12_201 rfl h_x0 ?_
      refine rf_puti hS c_248_105 rfl fl_12_268 rfl rfl rfl rfl h_x0 ?_
      refine rf_nm (fun σ105 => ?_)
      exact t_Mo_takesRule_108 hS hd  x0 σ105 h_x0
    · refine rf_b1f c_248_95 rfl (decide_eq_false hc95) ?_
      refine rf_iconst c_248_98 ki_0 ?_
      exact rf_ret c_248_99 rfl (by decide) rfl rfl
def f_Mo_takesRule (x0 : Nat) (σ : Mm) : Option (Int32 × Mm) := nmM (up2 σ x0 13 (σ x0 10)) fun σ5 => nmM (up2 σ5 x0 14 (0 : Int32)) fun σ10 => nmM (up2 σ10 x0 18 (-1 : Int32)) fun σ15 => nmM (up2 σ15 x0 25 (-1 : Int32)) fun σ20 => nmM (up2 σ20 x0 26 (-1 : Int32)) fun σ25 => nmM (up2 σ25 x0 27 (0 : Int32)) fun σ30 => (f_Mo_go x0 σ30).bind fun v34 => (f_Mo_takesHead x0 v34).bind fun v38 => (if ¬ v38.1 = 0 then ((f_Mo_isWord v38.2 x0 (6 : Int32)).bind fun v49 => (if v49 = 0 then (f_Mo_takesRule_77  x0 v38.2) else ((f_Mo_go x0 v38.2).bind fun v56 => (f_Mo_takesE x0 (0 : Int32) v56).bind fun v61 => (if ¬ v61.1 = 0 then (nmM (up2 v61.2 x0 25 (v61.2 x0 24)) fun σ74 => f_Mo_takesRule_77  x0 σ74) else (some ((0 : Int32), v61.2)))))) else (some ((0 : Int32), v38.2)))
set_option maxRecDepth 100000 in
set_option maxHeartbeats 4000000 in
theorem t_Mo_takesRule_e {X : Xt} {S : Sh} (hS : ShOK S) {d : Nat} (hd : 6 ≤ d + 1) (x0 : Nat) (σ : Mm) (h_x0 : tgT x0 = 12) : Rf X S emM (f_Mo_takesRule x0 σ) (d + 1) 248 0 [.ref x0] [] σ := by
  unfold f_Mo_takesRule
  refine rf_ald (i := 0) (Or.inr ⟨0, rfl, rfl, rfl⟩) c_248_0 rfl ?_
  refine rf_ald (i := 0) (Or.inr ⟨0, rfl, rfl, rfl⟩) c_248_1 rfl ?_
  refine rf_geti hS c_248_2 rfl fl_12_159 rfl h_x0 ?_
  refine rf_puti hS c_248_5 rfl fl_12_162 rfl rfl rfl rfl h_x0 ?_
  refine rf_nm (fun σ5 => ?_)
  refine rf_ald (i := 0) (Or.inr ⟨0, rfl, rfl, rfl⟩) c_248_8 rfl ?_
  refine rf_iconst c_248_9 ki_0 ?_
  refine rf_puti hS c_248_10 rfl fl_12_165 rfl rfl rfl rfl h_x0 ?_
  refine rf_nm (fun σ10 => ?_)
  refine rf_ald (i := 0) (Or.inr ⟨0, rfl, rfl, rfl⟩) c_248_13 rfl ?_
  refine rf_iconst c_248_14 ki_m1 ?_
  refine rf_puti hS c_248_15 rfl fl_12_183 rfl rfl rfl rfl h_x0 ?_
  refine rf_nm (fun σ15 => ?_)
  refine rf_ald (i := 0) (Or.inr ⟨0, rfl, rfl, rfl⟩) c_248_18 rfl ?_
  refine rf_iconst c_248_19 ki_m1 ?_
  refine rf_puti hS c_248_20 rfl fl_12_265 rfl rfl rfl rfl h_x0 ?_
  refine rf_nm (fun σ20 => ?_)
  refine rf_ald (i := 0) (Or.inr ⟨0, rfl, rfl, rfl⟩) c_248_23 rfl ?_
  refine rf_iconst c_248_24 ki_m1 ?_
  refine rf_puti hS c_248_25 rfl fl_12_268 rfl rfl rfl rfl h_x0 ?_
  refine rf_nm (fun σ25 => ?_)
  refine rf_ald (i := 0) (Or.inr ⟨0, rfl, rfl, rfl⟩) c_248_28 rfl ?_
  refine rf_iconst c_248_29 ki_0 ?_
  refine rf_puti hS c_248_30 rfl fl_12_218 rfl rfl rfl rfl h_x0 ?_
  refine rf_nm (fun σ30 => ?_)
  refine rf_ald (i := 0) (Or.inr ⟨0, rfl, rfl, rfl⟩) c_248_33 rfl ?_
  refine rf_callV (as := [.ref x0]) (kd := 1) c_248_34 rfl (by decide) rfl ml_12_195 (by decide) rfl (rcv_1 hS rfl rfl h_x0 (by decide)) (Nat.zero_le _) rfl rfl (t_Mo_go hS (by omega) x0 σ30 h_x0) (fun v34 => ?_)
  refine rf_ald (i := 0) (Or.inr ⟨0, rfl, rfl, rfl⟩) c_248_37 rfl ?_
  refine rf_callM (as := [.ref x0]) (kd := 1) c_248_38 rfl (by decide) rfl ml_12_271 (by decide) rfl (rcv_1 hS rfl rfl h_x0 (by decide)) (Nat.zero_le _) rfl rfl (t_Mo_takesHead hS (by omega) x0 v34 h_x0) (fun v38 => ?_)
  refine rf_ite (fun hc41 => ?_) (fun hc41 => ?_)
  · refine rf_b1t c_248_41 rfl (decide_eq_true hc41) ?_
    refine rf_ald (i := 0) (Or.inr ⟨0, rfl, rfl, rfl⟩) c_248_46 rfl ?_
    refine rf_bipush c_248_47 kb_6 ?_
    refine rf_callI (as := [.ref x0, .int (6 : Int32)]) (kd := 1) c_248_49 rfl (by decide) rfl ml_12_230 (by decide) rfl (rcv_1 hS rfl rfl h_x0 (by decide)) (Nat.zero_le _) rfl rfl (t_Mo_isWord hS (by omega) v38.2 x0 (6 : Int32) h_x0) (fun v49 => ?_)
    refine rf_ite (fun hc52 => ?_) (fun hc52 => ?_)
    · refine rf_b1t c_248_52 rfl (decide_eq_true hc52) ?_
      exact t_Mo_takesRule_77 hS hd  x0 v38.2 h_x0
    · refine rf_b1f c_248_52 rfl (decide_eq_false hc52) ?_
      refine rf_ald (i := 0) (Or.inr ⟨0, rfl, rfl, rfl⟩) c_248_55 rfl ?_
      refine rf_callV (as := [.ref x0]) (kd := 1) c_248_56 rfl (by decide) rfl ml_12_195 (by decide) rfl (rcv_1 hS rfl rfl h_x0 (by decide)) (Nat.zero_le _) rfl rfl (t_Mo_go hS (by omega) x0 v38.2 h_x0) (fun v56 => ?_)
      refine rf_ald (i := 0) (Or.inr ⟨0, rfl, rfl, rfl⟩) c_248_59 rfl ?_
      refine rf_iconst c_248_60 ki_0 ?_
      refine rf_callM (as := [.ref x0, .int (0 : Int32)]) (kd := 1) c_248_61 rfl (by decide) rfl ml_12_274 (by decide) rfl (rcv_1 hS rfl rfl h_x0 (by decide)) (Nat.zero_le _) rfl rfl (t_Mo_takesE hS (by omega) x0 (0 : Int32) v56 h_x0) (fun v61 => ?_)
      refine rf_ite (fun hc64 => ?_) (fun hc64 => ?_)
      · refine rf_b1t c_248_64 rfl (decide_eq_true hc64) ?_
        refine rf_ald (i := 0) (Or.inr ⟨0, rfl, rfl, rfl⟩) c_248_69 rfl ?_
        refine rf_ald (i := 0) (Or.inr ⟨0, rfl, rfl, rfl⟩) c_248_70 rfl ?_
        refine rf_geti hS c_248_71 rfl fl_12_201 rfl h_x0 ?_
        refine rf_puti hS c_248_74 rfl fl_12_265 rfl rfl rfl rfl h_x0 ?_
        refine rf_nm (fun σ74 => ?_)
        exact t_Mo_takesRule_77 hS hd  x0 σ74 h_x0
      · refine rf_b1f c_248_64 rfl (decide_eq_false hc64) ?_
        refine rf_iconst c_248_67 ki_0 ?_
        exact rf_ret c_248_68 rfl (by decide) rfl rfl
  · refine rf_b1f c_248_41 rfl (decide_eq_false hc41) ?_
    refine rf_iconst c_248_44 ki_0 ?_
    exact rf_ret c_248_45 rfl (by decide) rfl rfl
theorem t_Mo_takesRule {X : Xt} {S : Sh} (hS : ShOK S) {d : Nat} (hd : 6 ≤ d) (x0 : Nat) (σ : Mm) (h_x0 : tgT x0 = 12) : Rf X S emM (f_Mo_takesRule x0 σ) d 248 0 [.ref x0] [] σ := by
  obtain ⟨d1, rfl⟩ : ∃ d1, d = d1 + 1 := ⟨d - 1, by omega⟩
  exact t_Mo_takesRule_e hS hd x0 σ h_x0
theorem c_249_0 : cd 249 0 = some (.iload_n 1, 1) := by decide +kernel
theorem c_249_1 : cd 249 1 = some (.invokestatic 100, 3) := by decide +kernel
theorem c_249_4 : cd 249 4 = some (.istore_n 2, 1) := by decide +kernel
theorem c_249_5 : cd 249 5 = some (.iload_n 2, 1) := by decide +kernel
theorem c_249_6 : cd 249 6 = some (.ifCond .eq (14), 3) := by decide +kernel
theorem c_249_9 : cd 249 9 = some (.aload_n 0, 1) := by decide +kernel
theorem c_249_10 : cd 249 10 = some (.invokevirtual 277, 3) := by decide +kernel
theorem c_249_13 : cd 249 13 = some (.ifCond .eq (7), 3) := by decide +kernel
theorem c_249_16 : cd 249 16 = some (.iconst (1), 1) := by decide +kernel
theorem c_249_17 : cd 249 17 = some (.goto (4), 3) := by decide +kernel
theorem c_249_20 : cd 249 20 = some (.iconst (0), 1) := by decide +kernel
theorem c_249_21 : cd 249 21 = some (.istore_n 3, 1) := by decide +kernel
theorem c_249_22 : cd 249 22 = some (.aload_n 0, 1) := by decide +kernel
theorem c_249_23 : cd 249 23 = some (.getfield 174, 3) := by decide +kernel
theorem c_249_26 : cd 249 26 = some (.istore 4, 2) := by decide +kernel
theorem c_249_28 : cd 249 28 = some (.aload_n 0, 1) := by decide +kernel
theorem c_249_29 : cd 249 29 = some (.iconst (0), 1) := by decide +kernel
theorem c_249_30 : cd 249 30 = some (.putfield 159, 3) := by decide +kernel
theorem c_249_33 : cd 249 33 = some (.iload_n 2, 1) := by decide +kernel
theorem c_249_34 : cd 249 34 = some (.ifCond .ne (6), 3) := by decide +kernel
theorem c_249_37 : cd 249 37 = some (.ldc 91, 2) := by decide +kernel
theorem c_249_39 : cd 249 39 = some (.ireturn, 1) := by decide +kernel
theorem c_249_40 : cd 249 40 = some (.iload_n 3, 1) := by decide +kernel
theorem c_249_41 : cd 249 41 = some (.ifCond .ne (9), 3) := by decide +kernel
theorem c_249_44 : cd 249 44 = some (.bipush (-100), 2) := by decide +kernel
theorem c_249_46 : cd 249 46 = some (.iload 4, 2) := by decide +kernel
theorem c_249_48 : cd 249 48 = some (.isub, 1) := by decide +kernel
theorem c_249_49 : cd 249 49 = some (.ireturn, 1) := by decide +kernel
theorem c_249_50 : cd 249 50 = some (.aload_n 0, 1) := by decide +kernel
theorem c_249_51 : cd 249 51 = some (.getfield 211, 3) := by decide +kernel
theorem c_249_54 : cd 249 54 = some (.ifCond .eq (6), 3) := by decide +kernel
theorem c_249_57 : cd 249 57 = some (.ldc 155, 2) := by decide +kernel
theorem c_249_59 : cd 249 59 = some (.ireturn, 1) := by decide +kernel
theorem c_249_60 : cd 249 60 = some (.aload_n 0, 1) := by decide +kernel
theorem c_249_61 : cd 249 61 = some (.getfield 9, 3) := by decide +kernel
theorem c_249_64 : cd 249 64 = some (.iconst (5), 1) := by decide +kernel
theorem c_249_65 : cd 249 65 = some (.iaload, 1) := by decide +kernel
theorem c_249_66 : cd 249 66 = some (.bipush (16), 2) := by decide +kernel
theorem c_249_68 : cd 249 68 = some (.if_icmp .ne (6), 3) := by decide +kernel
theorem c_249_71 : cd 249 71 = some (.ldc 86, 2) := by decide +kernel
theorem c_249_73 : cd 249 73 = some (.ireturn, 1) := by decide +kernel
theorem c_249_74 : cd 249 74 = some (.aload_n 0, 1) := by decide +kernel
theorem c_249_75 : cd 249 75 = some (.getfield 9, 3) := by decide +kernel
theorem c_249_78 : cd 249 78 = some (.iconst (5), 1) := by decide +kernel
theorem c_249_79 : cd 249 79 = some (.iaload, 1) := by decide +kernel
theorem c_249_80 : cd 249 80 = some (.istore 5, 2) := by decide +kernel
theorem c_249_82 : cd 249 82 = some (.sipush (522), 3) := by decide +kernel
theorem c_249_85 : cd 249 85 = some (.bipush (7), 2) := by decide +kernel
theorem c_249_87 : cd 249 87 = some (.iload 5, 2) := by decide +kernel
theorem c_249_89 : cd 249 89 = some (.imul, 1) := by decide +kernel
theorem c_249_90 : cd 249 90 = some (.iadd, 1) := by decide +kernel
theorem c_249_91 : cd 249 91 = some (.istore 6, 2) := by decide +kernel
theorem c_249_93 : cd 249 93 = some (.aload_n 0, 1) := by decide +kernel
theorem c_249_94 : cd 249 94 = some (.getfield 9, 3) := by decide +kernel
theorem c_249_97 : cd 249 97 = some (.iload 6, 2) := by decide +kernel
theorem c_249_99 : cd 249 99 = some (.aload_n 0, 1) := by decide +kernel
theorem c_249_100 : cd 249 100 = some (.getfield 250, 3) := by decide +kernel
theorem c_249_103 : cd 249 103 = some (.iastore, 1) := by decide +kernel
theorem c_249_104 : cd 249 104 = some (.aload_n 0, 1) := by decide +kernel
theorem c_249_105 : cd 249 105 = some (.getfield 9, 3) := by decide +kernel
theorem c_249_108 : cd 249 108 = some (.iload 6, 2) := by decide +kernel
theorem c_249_110 : cd 249 110 = some (.iconst (1), 1) := by decide +kernel
theorem c_249_111 : cd 249 111 = some (.iadd, 1) := by decide +kernel
theorem c_249_112 : cd 249 112 = some (.aload_n 0, 1) := by decide +kernel
theorem c_249_113 : cd 249 113 = some (.getfield 253, 3) := by decide +kernel
theorem c_249_116 : cd 249 116 = some (.iastore, 1) := by decide +kernel
theorem c_249_117 : cd 249 117 = some (.aload_n 0, 1) := by decide +kernel
theorem c_249_118 : cd 249 118 = some (.getfield 9, 3) := by decide +kernel
theorem c_249_121 : cd 249 121 = some (.iload 6, 2) := by decide +kernel
theorem c_249_123 : cd 249 123 = some (.iconst (2), 1) := by decide +kernel
theorem c_249_124 : cd 249 124 = some (.iadd, 1) := by decide +kernel
theorem c_249_125 : cd 249 125 = some (.aload_n 0, 1) := by decide +kernel
theorem c_249_126 : cd 249 126 = some (.getfield 259, 3) := by decide +kernel
theorem c_249_129 : cd 249 129 = some (.iastore, 1) := by decide +kernel
theorem c_249_130 : cd 249 130 = some (.aload_n 0, 1) := by decide +kernel
theorem c_249_131 : cd 249 131 = some (.getfield 9, 3) := by decide +kernel
theorem c_249_134 : cd 249 134 = some (.iload 6, 2) := by decide +kernel
theorem c_249_136 : cd 249 136 = some (.iconst (3), 1) := by decide +kernel
theorem c_249_137 : cd 249 137 = some (.iadd, 1) := by decide +kernel
theorem c_249_138 : cd 249 138 = some (.iload_n 1, 1) := by decide +kernel
theorem c_249_139 : cd 249 139 = some (.iastore, 1) := by decide +kernel
theorem c_249_140 : cd 249 140 = some (.aload_n 0, 1) := by decide +kernel
theorem c_249_141 : cd 249 141 = some (.getfield 9, 3) := by decide +kernel
theorem c_249_144 : cd 249 144 = some (.iload 6, 2) := by decide +kernel
theorem c_249_146 : cd 249 146 = some (.iconst (4), 1) := by decide +kernel
theorem c_249_147 : cd 249 147 = some (.iadd, 1) := by decide +kernel
theorem c_249_148 : cd 249 148 = some (.aload_n 0, 1) := by decide +kernel
theorem c_249_149 : cd 249 149 = some (.getfield 218, 3) := by decide +kernel
theorem c_249_152 : cd 249 152 = some (.iastore, 1) := by decide +kernel
theorem c_249_153 : cd 249 153 = some (.aload_n 0, 1) := by decide +kernel
theorem c_249_154 : cd 249 154 = some (.getfield 9, 3) := by decide +kernel
theorem c_249_157 : cd 249 157 = some (.iload 6, 2) := by decide +kernel
theorem c_249_159 : cd 249 159 = some (.iconst (5), 1) := by decide +kernel
theorem c_249_160 : cd 249 160 = some (.iadd, 1) := by decide +kernel
theorem c_249_161 : cd 249 161 = some (.aload_n 0, 1) := by decide +kernel
theorem c_249_162 : cd 249 162 = some (.getfield 265, 3) := by decide +kernel
theorem c_249_165 : cd 249 165 = some (.iastore, 1) := by decide +kernel
theorem c_249_166 : cd 249 166 = some (.aload_n 0, 1) := by decide +kernel
theorem c_249_167 : cd 249 167 = some (.getfield 9, 3) := by decide +kernel
theorem c_249_170 : cd 249 170 = some (.iload 6, 2) := by decide +kernel
theorem c_249_172 : cd 249 172 = some (.bipush (6), 2) := by decide +kernel
theorem c_249_174 : cd 249 174 = some (.iadd, 1) := by decide +kernel
theorem c_249_175 : cd 249 175 = some (.aload_n 0, 1) := by decide +kernel
theorem c_249_176 : cd 249 176 = some (.getfield 268, 3) := by decide +kernel
theorem c_249_179 : cd 249 179 = some (.iastore, 1) := by decide +kernel
theorem c_249_180 : cd 249 180 = some (.iconst (0), 1) := by decide +kernel
theorem c_249_181 : cd 249 181 = some (.istore 7, 2) := by decide +kernel
theorem c_249_183 : cd 249 183 = some (.iload 7, 2) := by decide +kernel
theorem c_249_185 : cd 249 185 = some (.sipush (288), 3) := by decide +kernel
theorem c_249_188 : cd 249 188 = some (.if_icmp .ge (34), 3) := by decide +kernel
theorem c_249_191 : cd 249 191 = some (.aload_n 0, 1) := by decide +kernel
theorem c_249_192 : cd 249 192 = some (.getfield 9, 3) := by decide +kernel
theorem c_249_195 : cd 249 195 = some (.sipush (634), 3) := by decide +kernel
theorem c_249_198 : cd 249 198 = some (.sipush (288), 3) := by decide +kernel
theorem c_249_201 : cd 249 201 = some (.iload 5, 2) := by decide +kernel
theorem c_249_203 : cd 249 203 = some (.imul, 1) := by decide +kernel
theorem c_249_204 : cd 249 204 = some (.iadd, 1) := by decide +kernel
theorem c_249_205 : cd 249 205 = some (.iload 7, 2) := by decide +kernel
theorem c_249_207 : cd 249 207 = some (.iadd, 1) := by decide +kernel
theorem c_249_208 : cd 249 208 = some (.aload_n 0, 1) := by decide +kernel
theorem c_249_209 : cd 249 209 = some (.getfield 38, 3) := by decide +kernel
theorem c_249_212 : cd 249 212 = some (.iload 7, 2) := by decide +kernel
theorem c_249_214 : cd 249 214 = some (.iaload, 1) := by decide +kernel
theorem c_249_215 : cd 249 215 = some (.iastore, 1) := by decide +kernel
theorem c_249_216 : cd 249 216 = some (.iinc 7 (1), 3) := by decide +kernel
theorem c_249_219 : cd 249 219 = some (.goto (-36), 3) := by decide +kernel
theorem c_249_222 : cd 249 222 = some (.aload_n 0, 1) := by decide +kernel
theorem c_249_223 : cd 249 223 = some (.getfield 9, 3) := by decide +kernel
theorem c_249_226 : cd 249 226 = some (.iconst (5), 1) := by decide +kernel
theorem c_249_227 : cd 249 227 = some (.dup2, 1) := by decide +kernel
theorem c_249_228 : cd 249 228 = some (.iaload, 1) := by decide +kernel
theorem c_249_229 : cd 249 229 = some (.iconst (1), 1) := by decide +kernel
theorem c_249_230 : cd 249 230 = some (.iadd, 1) := by decide +kernel
theorem c_249_231 : cd 249 231 = some (.iastore, 1) := by decide +kernel
theorem c_249_232 : cd 249 232 = some (.iload 5, 2) := by decide +kernel
theorem c_249_234 : cd 249 234 = some (.ireturn, 1) := by decide +kernel
def f_Mo_rule_183 : Nat → Nat → Int32 → Int32 → Mm → Option (Int32 × Mm)
  | 0, _, _, _, _ => none
  | n + 1, x0, x5, x7, σ => (if (288 : Int32) ≤ x7 then (nmM (up2 σ (rfT x0 0) (ix (5 : Int32)) ((σ (rfT x0 0) (ix (5 : Int32))) + (1 : Int32))) fun σ231 => some (x5, σ231)) else (if inbB x7 288 = true then if inbB (((634 : Int32) + ((288 : Int32) * x5)) + x7) 5528 = true then nmM (up2 σ (rfT x0 0) (ix (((634 : Int32) + ((288 : Int32) * x5)) + x7)) (σ (rfT x0 22) (ix x7))) fun σ215 => f_Mo_rule_183  n x0 x5 (x7 + (1 : Int32)) σ215 else none else none))
set_option maxRecDepth 100000 in
set_option maxHeartbeats 4000000 in
theorem t_Mo_rule_183 {X : Xt} {S : Sh} (hS : ShOK S) {d : Nat} (hd : 7 ≤ d + 1) : ∀ (n : Nat) (x0 : Nat) (x5 : Int32) (x7 : Int32) (u1 : Value) (u2 : Value) (u3 : Value) (u4 : Value) (u6 : Value) (σ : Mm) (h_x0 : tgT x0 = 12), Rf X S emM (f_Mo_rule_183 n x0 x5 x7 σ) (d + 1) 249 183 [.ref x0, u1, u2, u3, u4, .int x5, u6, .int x7] [] σ := by
  intro n
  induction n with
  | zero => intro x0 x5 x7 u1 u2 u3 u4 u6 σ h_x0; exact rf_none
  | succ n ih =>
    intro x0 x5 x7 u1 u2 u3 u4 u6 σ h_x0
    rw [f_Mo_rule_183]
    refine rf_ild (i := 7) (Or.inl ⟨rfl, rfl⟩) c_249_183 rfl ?_
    refine rf_sipush c_249_185 ks_288 ?_
    refine rf_ite (fun hc188 => ?_) (fun hc188 => ?_)
    · refine rf_b2t c_249_188 rfl (decide_eq_true hc188) ?_
      refine rf_ald (i := 0) (Or.inr ⟨0, rfl, rfl, rfl⟩) c_249_222 rfl ?_
      refine rf_getr hS c_249_223 rfl fl_12_9 rfl h_x0 ?_
      refine rf_iconst c_249_226 ki_5 ?_
      refine rf_dup2 c_249_227 rfl rfl ?_
      refine rf_iald hS c_249_228 (tf_12_0 h_x0) (lf_12_0 h_x0) (by decide) ?_
      refine rf_iconst c_249_229 ki_1 ?_
      refine rf_iadd c_249_230 ?_
      refine rf_iast hS c_249_231 (tf_12_0 h_x0) (lf_12_0 h_x0) (by decide) ?_
      refine rf_nm (fun σ231 => ?_)
      refine rf_ild (i := 5) (Or.inl ⟨rfl, rfl⟩) c_249_232 rfl ?_
      exact rf_ret c_249_234 rfl rfl rfl rfl
    · refine rf_b2f c_249_188 rfl (decide_eq_false hc188) ?_
      refine rf_ald (i := 0) (Or.inr ⟨0, rfl, rfl, rfl⟩) c_249_191 rfl ?_
      refine rf_getr hS c_249_192 rfl fl_12_9 rfl h_x0 ?_
      refine rf_sipush c_249_195 ks_634 ?_
      refine rf_sipush c_249_198 ks_288 ?_
      refine rf_ild (i := 5) (Or.inl ⟨rfl, rfl⟩) c_249_201 rfl ?_
      refine rf_imul c_249_203 ?_
      refine rf_iadd c_249_204 ?_
      refine rf_ild (i := 7) (Or.inl ⟨rfl, rfl⟩) c_249_205 rfl ?_
      refine rf_iadd c_249_207 ?_
      refine rf_ald (i := 0) (Or.inr ⟨0, rfl, rfl, rfl⟩) c_249_208 rfl ?_
      refine rf_getr hS c_249_209 rfl fl_12_38 rfl h_x0 ?_
      refine rf_ild (i := 7) (Or.inl ⟨rfl, rfl⟩) c_249_212 rfl ?_
      refine rf_ite (fun hb214 => ?_) (fun _ => rf_none)
      refine rf_iald hS c_249_214 (tf_12_22 h_x0) (lf_12_22 h_x0) hb214 ?_
      refine rf_ite (fun hb215 => ?_) (fun _ => rf_none)
      refine rf_iast hS c_249_215 (tf_12_0 h_x0) (lf_12_0 h_x0) hb215 ?_
      refine rf_nm (fun σ215 => ?_)
      refine rf_iinc c_249_216 rfl ki_1 rfl ?_
      refine rf_goto c_249_219 rfl ?_
      exact ih x0 x5 (x7 + (1 : Int32)) (u1) (u2) (u3) (u4) (u6) σ215 h_x0
def f_Mo_rule_21 (x0 : Nat) (x1 : Int32) (x2 : Int32) (y0 : Int32) (σ : Mm) : Option (Int32 × Mm) := nmM (up2 σ x0 10 (0 : Int32)) fun σ30 => (if ¬ x2 = 0 then (if ¬ y0 = 0 then (if (σ30 x0 28) = 0 then (if ¬ (σ30 (rfT x0 0) (ix (5 : Int32))) = (16 : Int32) then (if inbB ((522 : Int32) + ((7 : Int32) * (σ30 (rfT x0 0) (ix (5 : Int32))))) 5528 = true then nmM (up2 σ30 (rfT x0 0) (ix ((522 : Int32) + ((7 : Int32) * (σ30 (rfT x0 0) (ix (5 : Int32)))))) (σ30 x0 19)) fun σ103 => if inbB (((522 : Int32) + ((7 : Int32) * (σ30 (rfT x0 0) (ix (5 : Int32))))) + (1 : Int32)) 5528 = true then nmM (up2 σ103 (rfT x0 0) (ix (((522 : Int32) + ((7 : Int32) * (σ30 (rfT x0 0) (ix (5 : Int32))))) + (1 : Int32))) (σ103 x0 20)) fun σ116 => if inbB (((522 : Int32) + ((7 : Int32) * (σ30 (rfT x0 0) (ix (5 : Int32))))) + (2 : Int32)) 5528 = true then nmM (up2 σ116 (rfT x0 0) (ix (((522 : Int32) + ((7 : Int32) * (σ30 (rfT x0 0) (ix (5 : Int32))))) + (2 : Int32))) (σ116 x0 21)) fun σ129 => if inbB (((522 : Int32) + ((7 : Int32) * (σ30 (rfT x0 0) (ix (5 : Int32))))) + (3 : Int32)) 5528 = true then nmM (up2 σ129 (rfT x0 0) (ix (((522 : Int32) + ((7 : Int32) * (σ30 (rfT x0 0) (ix (5 : Int32))))) + (3 : Int32))) x1) fun σ139 => if inbB (((522 : Int32) + ((7 : Int32) * (σ30 (rfT x0 0) (ix (5 : Int32))))) + (4 : Int32)) 5528 = true then nmM (up2 σ139 (rfT x0 0) (ix (((522 : Int32) + ((7 : Int32) * (σ30 (rfT x0 0) (ix (5 : Int32))))) + (4 : Int32))) (σ139 x0 27)) fun σ152 => if inbB (((522 : Int32) + ((7 : Int32) * (σ30 (rfT x0 0) (ix (5 : Int32))))) + (5 : Int32)) 5528 = true then nmM (up2 σ152 (rfT x0 0) (ix (((522 : Int32) + ((7 : Int32) * (σ30 (rfT x0 0) (ix (5 : Int32))))) + (5 : Int32))) (σ152 x0 25)) fun σ165 => if inbB (((522 : Int32) + ((7 : Int32) * (σ30 (rfT x0 0) (ix (5 : Int32))))) + (6 : Int32)) 5528 = true then nmM (up2 σ165 (rfT x0 0) (ix (((522 : Int32) + ((7 : Int32) * (σ30 (rfT x0 0) (ix (5 : Int32))))) + (6 : Int32))) (σ165 x0 26)) fun σ179 => f_Mo_rule_183  NN x0 (σ30 (rfT x0 0) (ix (5 : Int32))) (0 : Int32) σ179 else none else none else none else none else none else none else none) else (some ((-1000000003 : Int32), σ30))) else (some ((-1000000002 : Int32), σ30))) else (some (((-100 : Int32) - (σ x0 15)), σ30))) else (some ((-1000000001 : Int32), σ30)))
set_option maxRecDepth 100000 in
set_option maxHeartbeats 4000000 in
theorem t_Mo_rule_21 {X : Xt} {S : Sh} (hS : ShOK S) {d : Nat} (hd : 7 ≤ d + 1) (x0 : Nat) (x1 : Int32) (x2 : Int32) (y0 : Int32) (u3 : Value) (u4 : Value) (u5 : Value) (u6 : Value) (u7 : Value) (σ : Mm) (h_x0 : tgT x0 = 12) : Rf X S emM (f_Mo_rule_21 x0 x1 x2 y0 σ) (d + 1) 249 21 [.ref x0, .int x1, .int x2, u3, u4, u5, u6, u7] [.int y0] σ := by
  unfold f_Mo_rule_21
  refine rf_ist (i := 3) (Or.inr ⟨3, rfl, rfl, rfl⟩) c_249_21 (Nat.le_of_ble_eq_true rfl) rfl ?_
  refine rf_ald (i := 0) (Or.inr ⟨0, rfl, rfl, rfl⟩) c_249_22 rfl ?_
  refine rf_geti hS c_249_23 rfl fl_12_174 rfl h_x0 ?_
  refine rf_ist (i := 4) (Or.inl ⟨rfl, rfl⟩) c_249_26 (Nat.le_of_ble_eq_true rfl) rfl ?_
  refine rf_ald (i := 0) (Or.inr ⟨0, rfl, rfl, rfl⟩) c_249_28 rfl ?_
  refine rf_iconst c_249_29 ki_0 ?_
  refine rf_puti hS c_249_30 rfl fl_12_159 rfl rfl rfl rfl h_x0 ?_
  refine rf_nm (fun σ30 => ?_)
  refine rf_ild (i := 2) (Or.inr ⟨2, rfl, rfl, rfl⟩) c_249_33 rfl ?_
  refine rf_ite (fun hc34 => ?_) (fun hc34 => ?_)
  · refine rf_b1t c_249_34 rfl (decide_eq_true hc34) ?_
    refine rf_ild (i := 3) (Or.inr ⟨3, rfl, rfl, rfl⟩) c_249_40 rfl ?_
    refine rf_ite (fun hc41 => ?_) (fun hc41 => ?_)
    · refine rf_b1t c_249_41 rfl (decide_eq_true hc41) ?_
      refine rf_ald (i := 0) (Or.inr ⟨0, rfl, rfl, rfl⟩) c_249_50 rfl ?_
      refine rf_geti hS c_249_51 rfl fl_12_211 rfl h_x0 ?_
      refine rf_ite (fun hc54 => ?_) (fun hc54 => ?_)
      · refine rf_b1t c_249_54 rfl (decide_eq_true hc54) ?_
        refine rf_ald (i := 0) (Or.inr ⟨0, rfl, rfl, rfl⟩) c_249_60 rfl ?_
        refine rf_getr hS c_249_61 rfl fl_12_9 rfl h_x0 ?_
        refine rf_iconst c_249_64 ki_5 ?_
        refine rf_iald hS c_249_65 (tf_12_0 h_x0) (lf_12_0 h_x0) (by decide) ?_
        refine rf_bipush c_249_66 kb_16 ?_
        refine rf_ite (fun hc68 => ?_) (fun hc68 => ?_)
        · refine rf_b2t c_249_68 rfl (decide_eq_true hc68) ?_
          refine rf_ald (i := 0) (Or.inr ⟨0, rfl, rfl, rfl⟩) c_249_74 rfl ?_
          refine rf_getr hS c_249_75 rfl fl_12_9 rfl h_x0 ?_
          refine rf_iconst c_249_78 ki_5 ?_
          refine rf_iald hS c_249_79 (tf_12_0 h_x0) (lf_12_0 h_x0) (by decide) ?_
          refine rf_ist (i := 5) (Or.inl ⟨rfl, rfl⟩) c_249_80 (Nat.le_of_ble_eq_true rfl) rfl ?_
          refine rf_sipush c_249_82 ks_522 ?_
          refine rf_bipush c_249_85 kb_7 ?_
          refine rf_ild (i := 5) (Or.inl ⟨rfl, rfl⟩) c_249_87 rfl ?_
          refine rf_imul c_249_89 ?_
          refine rf_iadd c_249_90 ?_
          refine rf_ist (i := 6) (Or.inl ⟨rfl, rfl⟩) c_249_91 (Nat.le_of_ble_eq_true rfl) rfl ?_
          refine rf_ald (i := 0) (Or.inr ⟨0, rfl, rfl, rfl⟩) c_249_93 rfl ?_
          refine rf_getr hS c_249_94 rfl fl_12_9 rfl h_x0 ?_
          refine rf_ild (i := 6) (Or.inl ⟨rfl, rfl⟩) c_249_97 rfl ?_
          refine rf_ald (i := 0) (Or.inr ⟨0, rfl, rfl, rfl⟩) c_249_99 rfl ?_
          refine rf_geti hS c_249_100 rfl fl_12_250 rfl h_x0 ?_
          refine rf_ite (fun hb103 => ?_) (fun _ => rf_none)
          refine rf_iast hS c_249_103 (tf_12_0 h_x0) (lf_12_0 h_x0) hb103 ?_
          refine rf_nm (fun σ103 => ?_)
          refine rf_ald (i := 0) (Or.inr ⟨0, rfl, rfl, rfl⟩) c_249_104 rfl ?_
          refine rf_getr hS c_249_105 rfl fl_12_9 rfl h_x0 ?_
          refine rf_ild (i := 6) (Or.inl ⟨rfl, rfl⟩) c_249_108 rfl ?_
          refine rf_iconst c_249_110 ki_1 ?_
          refine rf_iadd c_249_111 ?_
          refine rf_ald (i := 0) (Or.inr ⟨0, rfl, rfl, rfl⟩) c_249_112 rfl ?_
          refine rf_geti hS c_249_113 rfl fl_12_253 rfl h_x0 ?_
          refine rf_ite (fun hb116 => ?_) (fun _ => rf_none)
          refine rf_iast hS c_249_116 (tf_12_0 h_x0) (lf_12_0 h_x0) hb116 ?_
          refine rf_nm (fun σ116 => ?_)
          refine rf_ald (i := 0) (Or.inr ⟨0, rfl, rfl, rfl⟩) c_249_117 rfl ?_
          refine rf_getr hS c_249_118 rfl fl_12_9 rfl h_x0 ?_
          refine rf_ild (i := 6) (Or.inl ⟨rfl, rfl⟩) c_249_121 rfl ?_
          refine rf_iconst c_249_123 ki_2 ?_
          refine rf_iadd c_249_124 ?_
          refine rf_ald (i := 0) (Or.inr ⟨0, rfl, rfl, rfl⟩) c_249_125 rfl ?_
          refine rf_geti hS c_249_126 rfl fl_12_259 rfl h_x0 ?_
          refine rf_ite (fun hb129 => ?_) (fun _ => rf_none)
          refine rf_iast hS c_249_129 (tf_12_0 h_x0) (lf_12_0 h_x0) hb129 ?_
          refine rf_nm (fun σ129 => ?_)
          refine rf_ald (i := 0) (Or.inr ⟨0, rfl, rfl, rfl⟩) c_249_130 rfl ?_
          refine rf_getr hS c_249_131 rfl fl_12_9 rfl h_x0 ?_
          refine rf_ild (i := 6) (Or.inl ⟨rfl, rfl⟩) c_249_134 rfl ?_
          refine rf_iconst c_249_136 ki_3 ?_
          refine rf_iadd c_249_137 ?_
          refine rf_ild (i := 1) (Or.inr ⟨1, rfl, rfl, rfl⟩) c_249_138 rfl ?_
          refine rf_ite (fun hb139 => ?_) (fun _ => rf_none)
          refine rf_iast hS c_249_139 (tf_12_0 h_x0) (lf_12_0 h_x0) hb139 ?_
          refine rf_nm (fun σ139 => ?_)
          refine rf_ald (i := 0) (Or.inr ⟨0, rfl, rfl, rfl⟩) c_249_140 rfl ?_
          refine rf_getr hS c_249_141 rfl fl_12_9 rfl h_x0 ?_
          refine rf_ild (i := 6) (Or.inl ⟨rfl, rfl⟩) c_249_144 rfl ?_
          refine rf_iconst c_249_146 ki_4 ?_
          refine rf_iadd c_249_147 ?_
          refine rf_ald (i := 0) (Or.inr ⟨0, rfl, rfl, rfl⟩) c_249_148 rfl ?_
          refine rf_geti hS c_249_149 rfl fl_12_218 rfl h_x0 ?_
          refine rf_ite (fun hb152 => ?_) (fun _ => rf_none)
          refine rf_iast hS c_249_152 (tf_12_0 h_x0) (lf_12_0 h_x0) hb152 ?_
          refine rf_nm (fun σ152 => ?_)
          refine rf_ald (i := 0) (Or.inr ⟨0, rfl, rfl, rfl⟩) c_249_153 rfl ?_
          refine rf_getr hS c_249_154 rfl fl_12_9 rfl h_x0 ?_
          refine rf_ild (i := 6) (Or.inl ⟨rfl, rfl⟩) c_249_157 rfl ?_
          refine rf_iconst c_249_159 ki_5 ?_
          refine rf_iadd c_249_160 ?_
          refine rf_ald (i := 0) (Or.inr ⟨0, rfl, rfl, rfl⟩) c_249_161 rfl ?_
          refine rf_geti hS c_249_162 rfl fl_12_265 rfl h_x0 ?_
          refine rf_ite (fun hb165 => ?_) (fun _ => rf_none)
          refine rf_iast hS c_249_165 (tf_12_0 h_x0) (lf_12_0 h_x0) hb165 ?_
          refine rf_nm (fun σ165 => ?_)
          refine rf_ald (i := 0) (Or.inr ⟨0, rfl, rfl, rfl⟩) c_249_166 rfl ?_
          refine rf_getr hS c_249_167 rfl fl_12_9 rfl h_x0 ?_
          refine rf_ild (i := 6) (Or.inl ⟨rfl, rfl⟩) c_249_170 rfl ?_
          refine rf_bipush c_249_172 kb_6 ?_
          refine rf_iadd c_249_174 ?_
          refine rf_ald (i := 0) (Or.inr ⟨0, rfl, rfl, rfl⟩) c_249_175 rfl ?_
          refine rf_geti hS c_249_176 rfl fl_12_268 rfl h_x0 ?_
          refine rf_ite (fun hb179 => ?_) (fun _ => rf_none)
          refine rf_iast hS c_249_179 (tf_12_0 h_x0) (lf_12_0 h_x0) hb179 ?_
          refine rf_nm (fun σ179 => ?_)
          refine rf_iconst c_249_180 ki_0 ?_
          refine rf_ist (i := 7) (Or.inl ⟨rfl, rfl⟩) c_249_181 (Nat.le_of_ble_eq_true rfl) rfl ?_
          exact t_Mo_rule_183 hS hd  NN x0 (σ30 (rfT x0 0) (ix (5 : Int32))) (0 : Int32) (.int x1) (.int x2) (.int y0) (.int (σ x0 15)) (.int ((522 : Int32) + ((7 : Int32) * (σ30 (rfT x0 0) (ix (5 : Int32)))))) σ179 h_x0
        · refine rf_b2f c_249_68 rfl (decide_eq_false hc68) ?_
          refine rf_ldc (Or.inl ⟨rfl, rfl⟩) c_249_71 rfl kl_12_86 ?_
          exact rf_ret c_249_73 rfl rfl rfl rfl
      · refine rf_b1f c_249_54 rfl (decide_eq_false hc54) ?_
        refine rf_ldc (Or.inl ⟨rfl, rfl⟩) c_249_57 rfl kl_12_155 ?_
        exact rf_ret c_249_59 rfl rfl rfl rfl
    · refine rf_b1f c_249_41 rfl (decide_eq_false hc41) ?_
      refine rf_bipush c_249_44 kb_m100 ?_
      refine rf_ild (i := 4) (Or.inl ⟨rfl, rfl⟩) c_249_46 rfl ?_
      refine rf_isub c_249_48 ?_
      exact rf_ret c_249_49 rfl rfl rfl rfl
  · refine rf_b1f c_249_34 rfl (decide_eq_false hc34) ?_
    refine rf_ldc (Or.inl ⟨rfl, rfl⟩) c_249_37 rfl kl_12_91 ?_
    exact rf_ret c_249_39 rfl rfl rfl rfl
def f_Mo_rule_20 (x0 : Nat) (x1 : Int32) (x2 : Int32) (σ : Mm) : Option (Int32 × Mm) := f_Mo_rule_21  x0 x1 x2 (0 : Int32) σ
set_option maxRecDepth 100000 in
set_option maxHeartbeats 4000000 in
theorem t_Mo_rule_20 {X : Xt} {S : Sh} (hS : ShOK S) {d : Nat} (hd : 7 ≤ d + 1) (x0 : Nat) (x1 : Int32) (x2 : Int32) (u3 : Value) (u4 : Value) (u5 : Value) (u6 : Value) (u7 : Value) (σ : Mm) (h_x0 : tgT x0 = 12) : Rf X S emM (f_Mo_rule_20 x0 x1 x2 σ) (d + 1) 249 20 [.ref x0, .int x1, .int x2, u3, u4, u5, u6, u7] [] σ := by
  unfold f_Mo_rule_20
  refine rf_iconst c_249_20 ki_0 ?_
  exact t_Mo_rule_21 hS hd  x0 x1 x2 (0 : Int32) (u3) (u4) (u5) (u6) (u7) σ h_x0
def f_Mo_rule (x0 : Nat) (x1 : Int32) (σ : Mm) : Option (Int32 × Mm) := (f_Mo_isDay σ x1).bind fun v1 => (if v1 = 0 then (f_Mo_rule_20  x0 x1 v1 σ) else ((f_Mo_takesRule x0 σ).bind fun v10 => (if v10.1 = 0 then (f_Mo_rule_20  x0 x1 v1 v10.2) else (f_Mo_rule_21  x0 x1 v1 (1 : Int32) v10.2))))
set_option maxRecDepth 100000 in
set_option maxHeartbeats 4000000 in
theorem t_Mo_rule_e {X : Xt} {S : Sh} (hS : ShOK S) {d : Nat} (hd : 7 ≤ d + 1) (x0 : Nat) (x1 : Int32) (σ : Mm) (h_x0 : tgT x0 = 12) : Rf X S emM (f_Mo_rule x0 x1 σ) (d + 1) 249 0 [.ref x0, .int x1, unset0, unset0, unset0, unset0, unset0, unset0] [] σ := by
  unfold f_Mo_rule
  refine rf_ild (i := 1) (Or.inr ⟨1, rfl, rfl, rfl⟩) c_249_0 rfl ?_
  refine rf_callI (as := [.int x1]) (kd := 0) c_249_1 rfl (by decide) rfl ml_12_100 (by decide) rfl (rcv_0 rfl) (Nat.zero_le _) rfl rfl (t_Mo_isDay hS (by omega) σ x1) (fun v1 => ?_)
  refine rf_ist (i := 2) (Or.inr ⟨2, rfl, rfl, rfl⟩) c_249_4 (Nat.le_of_ble_eq_true rfl) rfl ?_
  refine rf_ild (i := 2) (Or.inr ⟨2, rfl, rfl, rfl⟩) c_249_5 rfl ?_
  refine rf_ite (fun hc6 => ?_) (fun hc6 => ?_)
  · refine rf_b1t c_249_6 rfl (decide_eq_true hc6) ?_
    exact t_Mo_rule_20 hS hd  x0 x1 v1 (unset0) (unset0) (unset0) (unset0) (unset0) σ h_x0
  · refine rf_b1f c_249_6 rfl (decide_eq_false hc6) ?_
    refine rf_ald (i := 0) (Or.inr ⟨0, rfl, rfl, rfl⟩) c_249_9 rfl ?_
    refine rf_callM (as := [.ref x0]) (kd := 1) c_249_10 rfl (by decide) rfl ml_12_277 (by decide) rfl (rcv_1 hS rfl rfl h_x0 (by decide)) (Nat.zero_le _) rfl rfl (t_Mo_takesRule hS (by omega) x0 σ h_x0) (fun v10 => ?_)
    refine rf_ite (fun hc13 => ?_) (fun hc13 => ?_)
    · refine rf_b1t c_249_13 rfl (decide_eq_true hc13) ?_
      exact t_Mo_rule_20 hS hd  x0 x1 v1 (unset0) (unset0) (unset0) (unset0) (unset0) v10.2 h_x0
    · refine rf_b1f c_249_13 rfl (decide_eq_false hc13) ?_
      refine rf_iconst c_249_16 ki_1 ?_
      refine rf_goto c_249_17 rfl ?_
      exact t_Mo_rule_21 hS hd  x0 x1 v1 (1 : Int32) (unset0) (unset0) (unset0) (unset0) (unset0) v10.2 h_x0
theorem t_Mo_rule {X : Xt} {S : Sh} (hS : ShOK S) {d : Nat} (hd : 7 ≤ d) (x0 : Nat) (x1 : Int32) (σ : Mm) (h_x0 : tgT x0 = 12) : Rf X S emM (f_Mo_rule x0 x1 σ) d 249 0 [.ref x0, .int x1, unset0, unset0, unset0, unset0, unset0, unset0] [] σ := by
  obtain ⟨d1, rfl⟩ : ∃ d1, d = d1 + 1 := ⟨d - 1, by omega⟩
  exact t_Mo_rule_e hS hd x0 x1 σ h_x0
theorem c_250_0 : cd 250 0 = some (.aload_n 0, 1) := by decide +kernel
theorem c_250_1 : cd 250 1 = some (.getfield 9, 3) := by decide +kernel
theorem c_250_4 : cd 250 4 = some (.sipush (522), 3) := by decide +kernel
theorem c_250_7 : cd 250 7 = some (.bipush (7), 2) := by decide +kernel
theorem c_250_9 : cd 250 9 = some (.iload_n 1, 1) := by decide +kernel
theorem c_250_10 : cd 250 10 = some (.imul, 1) := by decide +kernel
theorem c_250_11 : cd 250 11 = some (.iadd, 1) := by decide +kernel
theorem c_250_12 : cd 250 12 = some (.iload_n 2, 1) := by decide +kernel
theorem c_250_13 : cd 250 13 = some (.iadd, 1) := by decide +kernel
theorem c_250_14 : cd 250 14 = some (.iaload, 1) := by decide +kernel
theorem c_250_15 : cd 250 15 = some (.ireturn, 1) := by decide +kernel
def f_Mo_ruleOf (σ : Mm) (x0 : Nat) (x1 : Int32) (x2 : Int32) : Option Int32 := if inbB (((522 : Int32) + ((7 : Int32) * x1)) + x2) 5528 = true then some (σ (rfT x0 0) (ix (((522 : Int32) + ((7 : Int32) * x1)) + x2))) else none
set_option maxRecDepth 100000 in
set_option maxHeartbeats 4000000 in
theorem t_Mo_ruleOf {X : Xt} {S : Sh} (hS : ShOK S) {d : Nat} (hd : 0 ≤ d) (σ : Mm) (x0 : Nat) (x1 : Int32) (x2 : Int32) (h_x0 : tgT x0 = 12) : Rf X S (emI σ) (f_Mo_ruleOf σ x0 x1 x2) d 250 0 [.ref x0, .int x1, .int x2] [] σ := by
  unfold f_Mo_ruleOf
  refine rf_ald (i := 0) (Or.inr ⟨0, rfl, rfl, rfl⟩) c_250_0 rfl ?_
  refine rf_getr hS c_250_1 rfl fl_12_9 rfl h_x0 ?_
  refine rf_sipush c_250_4 ks_522 ?_
  refine rf_bipush c_250_7 kb_7 ?_
  refine rf_ild (i := 1) (Or.inr ⟨1, rfl, rfl, rfl⟩) c_250_9 rfl ?_
  refine rf_imul c_250_10 ?_
  refine rf_iadd c_250_11 ?_
  refine rf_ild (i := 2) (Or.inr ⟨2, rfl, rfl, rfl⟩) c_250_12 rfl ?_
  refine rf_iadd c_250_13 ?_
  refine rf_ite (fun hb14 => ?_) (fun _ => rf_none)
  refine rf_iald hS c_250_14 (tf_12_0 h_x0) (lf_12_0 h_x0) hb14 ?_
  exact rf_ret c_250_15 rfl rfl rfl rfl
theorem c_251_0 : cd 251 0 = some (.aload_n 0, 1) := by decide +kernel
theorem c_251_1 : cd 251 1 = some (.iload_n 1, 1) := by decide +kernel
theorem c_251_2 : cd 251 2 = some (.invokevirtual 256, 3) := by decide +kernel
theorem c_251_5 : cd 251 5 = some (.ifCond .eq (12), 3) := by decide +kernel
theorem c_251_8 : cd 251 8 = some (.iload_n 2, 1) := by decide +kernel
theorem c_251_9 : cd 251 9 = some (.iconst (0), 1) := by decide +kernel
theorem c_251_10 : cd 251 10 = some (.iconst (4), 1) := by decide +kernel
theorem c_251_11 : cd 251 11 = some (.invokestatic 82, 3) := by decide +kernel
theorem c_251_14 : cd 251 14 = some (.ifCond .ne (6), 3) := by decide +kernel
theorem c_251_17 : cd 251 17 = some (.ldc 91, 2) := by decide +kernel
theorem c_251_19 : cd 251 19 = some (.ireturn, 1) := by decide +kernel
theorem c_251_20 : cd 251 20 = some (.iload_n 2, 1) := by decide +kernel
theorem c_251_21 : cd 251 21 = some (.iconst (2), 1) := by decide +kernel
theorem c_251_22 : cd 251 22 = some (.if_icmp .ne (15), 3) := by decide +kernel
theorem c_251_25 : cd 251 25 = some (.aload_n 0, 1) := by decide +kernel
theorem c_251_26 : cd 251 26 = some (.iload_n 1, 1) := by decide +kernel
theorem c_251_27 : cd 251 27 = some (.iconst (2), 1) := by decide +kernel
theorem c_251_28 : cd 251 28 = some (.invokevirtual 280, 3) := by decide +kernel
theorem c_251_31 : cd 251 31 = some (.invokestatic 96, 3) := by decide +kernel
theorem c_251_34 : cd 251 34 = some (.goto (9), 3) := by decide +kernel
theorem c_251_37 : cd 251 37 = some (.aload_n 0, 1) := by decide +kernel
theorem c_251_38 : cd 251 38 = some (.iload_n 1, 1) := by decide +kernel
theorem c_251_39 : cd 251 39 = some (.iload_n 2, 1) := by decide +kernel
theorem c_251_40 : cd 251 40 = some (.invokevirtual 280, 3) := by decide +kernel
theorem c_251_43 : cd 251 43 = some (.ireturn, 1) := by decide +kernel
def f_Mo_of_17 (σ : Mm) : Option Int32 := some (-1000000001 : Int32)
set_option maxRecDepth 100000 in
set_option maxHeartbeats 4000000 in
theorem t_Mo_of_17 {X : Xt} {S : Sh} (hS : ShOK S) {d : Nat} (hd : 2 ≤ d + 1) (σ : Mm) (u0 : Value) (u1 : Value) (u2 : Value) : Rf X S (emI σ) (f_Mo_of_17 σ) (d + 1) 251 17 [u0, u1, u2] [] σ := by
  unfold f_Mo_of_17
  refine rf_ldc (Or.inl ⟨rfl, rfl⟩) c_251_17 rfl kl_12_91 ?_
  exact rf_ret c_251_19 rfl rfl rfl rfl
def f_Mo_of_43 (σ : Mm) (y0 : Int32) : Option Int32 := some y0
set_option maxRecDepth 100000 in
set_option maxHeartbeats 4000000 in
theorem t_Mo_of_43 {X : Xt} {S : Sh} (hS : ShOK S) {d : Nat} (hd : 2 ≤ d + 1) (σ : Mm) (y0 : Int32) (u0 : Value) (u1 : Value) (u2 : Value) : Rf X S (emI σ) (f_Mo_of_43 σ y0) (d + 1) 251 43 [u0, u1, u2] [.int y0] σ := by
  unfold f_Mo_of_43
  exact rf_ret c_251_43 rfl rfl rfl rfl
def f_Mo_of (σ : Mm) (x0 : Nat) (x1 : Int32) (x2 : Int32) : Option Int32 := (f_Mo_isRule σ x0 x1).bind fun v2 => (if v2 = 0 then (f_Mo_of_17 σ ) else ((f_Mo_in σ x2 (0 : Int32) (4 : Int32)).bind fun v11 => (if ¬ v11 = 0 then (if ¬ x2 = (2 : Int32) then ((f_Mo_ruleOf σ x0 x1 x2).bind fun v40 => f_Mo_of_43 σ v40) else ((f_Mo_ruleOf σ x0 x1 (2 : Int32)).bind fun v28 => (f_Mo_orNone σ v28).bind fun v31 => f_Mo_of_43 σ v31)) else (f_Mo_of_17 σ ))))
set_option maxRecDepth 100000 in
set_option maxHeartbeats 4000000 in
theorem t_Mo_of_e {X : Xt} {S : Sh} (hS : ShOK S) {d : Nat} (hd : 2 ≤ d + 1) (σ : Mm) (x0 : Nat) (x1 : Int32) (x2 : Int32) (h_x0 : tgT x0 = 12) : Rf X S (emI σ) (f_Mo_of σ x0 x1 x2) (d + 1) 251 0 [.ref x0, .int x1, .int x2] [] σ := by
  unfold f_Mo_of
  refine rf_ald (i := 0) (Or.inr ⟨0, rfl, rfl, rfl⟩) c_251_0 rfl ?_
  refine rf_ild (i := 1) (Or.inr ⟨1, rfl, rfl, rfl⟩) c_251_1 rfl ?_
  refine rf_callI (as := [.ref x0, .int x1]) (kd := 1) c_251_2 rfl (by decide) rfl ml_12_256 (by decide) rfl (rcv_1 hS rfl rfl h_x0 (by decide)) (Nat.zero_le _) rfl rfl (t_Mo_isRule hS (by omega) σ x0 x1 h_x0) (fun v2 => ?_)
  refine rf_ite (fun hc5 => ?_) (fun hc5 => ?_)
  · refine rf_b1t c_251_5 rfl (decide_eq_true hc5) ?_
    exact t_Mo_of_17 hS hd σ  (.ref x0) (.int x1) (.int x2)
  · refine rf_b1f c_251_5 rfl (decide_eq_false hc5) ?_
    refine rf_ild (i := 2) (Or.inr ⟨2, rfl, rfl, rfl⟩) c_251_8 rfl ?_
    refine rf_iconst c_251_9 ki_0 ?_
    refine rf_iconst c_251_10 ki_4 ?_
    refine rf_callI (as := [.int x2, .int (0 : Int32), .int (4 : Int32)]) (kd := 0) c_251_11 rfl (by decide) rfl ml_12_82 (by decide) rfl (rcv_0 rfl) (Nat.zero_le _) rfl rfl (t_Mo_in hS (by omega) σ x2 (0 : Int32) (4 : Int32)) (fun v11 => ?_)
    refine rf_ite (fun hc14 => ?_) (fun hc14 => ?_)
    · refine rf_b1t c_251_14 rfl (decide_eq_true hc14) ?_
      refine rf_ild (i := 2) (Or.inr ⟨2, rfl, rfl, rfl⟩) c_251_20 rfl ?_
      refine rf_iconst c_251_21 ki_2 ?_
      refine rf_ite (fun hc22 => ?_) (fun hc22 => ?_)
      · refine rf_b2t c_251_22 rfl (decide_eq_true hc22) ?_
        refine rf_ald (i := 0) (Or.inr ⟨0, rfl, rfl, rfl⟩) c_251_37 rfl ?_
        refine rf_ild (i := 1) (Or.inr ⟨1, rfl, rfl, rfl⟩) c_251_38 rfl ?_
        refine rf_ild (i := 2) (Or.inr ⟨2, rfl, rfl, rfl⟩) c_251_39 rfl ?_
        refine rf_callI (as := [.ref x0, .int x1, .int x2]) (kd := 1) c_251_40 rfl (by decide) rfl ml_12_280 (by decide) rfl (rcv_1 hS rfl rfl h_x0 (by decide)) (Nat.zero_le _) rfl rfl (t_Mo_ruleOf hS (by omega) σ x0 x1 x2 h_x0) (fun v40 => ?_)
        exact t_Mo_of_43 hS hd σ  v40 (.ref x0) (.int x1) (.int x2)
      · refine rf_b2f c_251_22 rfl (decide_eq_false hc22) ?_
        refine rf_ald (i := 0) (Or.inr ⟨0, rfl, rfl, rfl⟩) c_251_25 rfl ?_
        refine rf_ild (i := 1) (Or.inr ⟨1, rfl, rfl, rfl⟩) c_251_26 rfl ?_
        refine rf_iconst c_251_27 ki_2 ?_
        refine rf_callI (as := [.ref x0, .int x1, .int (2 : Int32)]) (kd := 1) c_251_28 rfl (by decide) rfl ml_12_280 (by decide) rfl (rcv_1 hS rfl rfl h_x0 (by decide)) (Nat.zero_le _) rfl rfl (t_Mo_ruleOf hS (by omega) σ x0 x1 (2 : Int32) h_x0) (fun v28 => ?_)
        refine rf_callI (as := [.int v28]) (kd := 0) c_251_31 rfl (by decide) rfl ml_12_96 (by decide) rfl (rcv_0 rfl) (Nat.zero_le _) rfl rfl (t_Mo_orNone hS (by omega) σ v28) (fun v31 => ?_)
        refine rf_goto c_251_34 rfl ?_
        exact t_Mo_of_43 hS hd σ  v31 (.ref x0) (.int x1) (.int x2)
    · refine rf_b1f c_251_14 rfl (decide_eq_false hc14) ?_
      exact t_Mo_of_17 hS hd σ  (.ref x0) (.int x1) (.int x2)
theorem t_Mo_of {X : Xt} {S : Sh} (hS : ShOK S) {d : Nat} (hd : 2 ≤ d) (σ : Mm) (x0 : Nat) (x1 : Int32) (x2 : Int32) (h_x0 : tgT x0 = 12) : Rf X S (emI σ) (f_Mo_of σ x0 x1 x2) d 251 0 [.ref x0, .int x1, .int x2] [] σ := by
  obtain ⟨d1, rfl⟩ : ∃ d1, d = d1 + 1 := ⟨d - 1, by omega⟩
  exact t_Mo_of_e hS hd σ x0 x1 x2 h_x0
theorem c_252_0 : cd 252 0 = some (.aload_n 0, 1) := by decide +kernel
theorem c_252_1 : cd 252 1 = some (.getfield 9, 3) := by decide +kernel
theorem c_252_4 : cd 252 4 = some (.iload_n 1, 1) := by decide +kernel
theorem c_252_5 : cd 252 5 = some (.iconst (2), 1) := by decide +kernel
theorem c_252_6 : cd 252 6 = some (.iadd, 1) := by decide +kernel
theorem c_252_7 : cd 252 7 = some (.iaload, 1) := by decide +kernel
theorem c_252_8 : cd 252 8 = some (.istore_n 3, 1) := by decide +kernel
theorem c_252_9 : cd 252 9 = some (.aload_n 0, 1) := by decide +kernel
theorem c_252_10 : cd 252 10 = some (.getfield 9, 3) := by decide +kernel
theorem c_252_13 : cd 252 13 = some (.iload_n 1, 1) := by decide +kernel
theorem c_252_14 : cd 252 14 = some (.iaload, 1) := by decide +kernel
theorem c_252_15 : cd 252 15 = some (.tableswitch (78) (14) (16) #[25, 41, 57], 25) := by decide +kernel
theorem c_252_40 : cd 252 40 = some (.aload_n 0, 1) := by decide +kernel
theorem c_252_41 : cd 252 41 = some (.iload_n 2, 1) := by decide +kernel
theorem c_252_42 : cd 252 42 = some (.iconst (1), 1) := by decide +kernel
theorem c_252_43 : cd 252 43 = some (.invokevirtual 144, 3) := by decide +kernel
theorem c_252_46 : cd 252 46 = some (.iload_n 3, 1) := by decide +kernel
theorem c_252_47 : cd 252 47 = some (.if_icmp .ne (7), 3) := by decide +kernel
theorem c_252_50 : cd 252 50 = some (.iconst (1), 1) := by decide +kernel
theorem c_252_51 : cd 252 51 = some (.goto (4), 3) := by decide +kernel
theorem c_252_54 : cd 252 54 = some (.iconst (0), 1) := by decide +kernel
theorem c_252_55 : cd 252 55 = some (.ireturn, 1) := by decide +kernel
theorem c_252_56 : cd 252 56 = some (.aload_n 0, 1) := by decide +kernel
theorem c_252_57 : cd 252 57 = some (.iload_n 2, 1) := by decide +kernel
theorem c_252_58 : cd 252 58 = some (.iconst (2), 1) := by decide +kernel
theorem c_252_59 : cd 252 59 = some (.invokevirtual 144, 3) := by decide +kernel
theorem c_252_62 : cd 252 62 = some (.iload_n 3, 1) := by decide +kernel
theorem c_252_63 : cd 252 63 = some (.if_icmp .ne (7), 3) := by decide +kernel
theorem c_252_66 : cd 252 66 = some (.iconst (1), 1) := by decide +kernel
theorem c_252_67 : cd 252 67 = some (.goto (4), 3) := by decide +kernel
theorem c_252_70 : cd 252 70 = some (.iconst (0), 1) := by decide +kernel
theorem c_252_71 : cd 252 71 = some (.ireturn, 1) := by decide +kernel
theorem c_252_72 : cd 252 72 = some (.aload_n 0, 1) := by decide +kernel
theorem c_252_73 : cd 252 73 = some (.iload_n 2, 1) := by decide +kernel
theorem c_252_74 : cd 252 74 = some (.bipush (7), 2) := by decide +kernel
theorem c_252_76 : cd 252 76 = some (.invokevirtual 144, 3) := by decide +kernel
theorem c_252_79 : cd 252 79 = some (.iload_n 3, 1) := by decide +kernel
theorem c_252_80 : cd 252 80 = some (.ishr, 1) := by decide +kernel
theorem c_252_81 : cd 252 81 = some (.iconst (1), 1) := by decide +kernel
theorem c_252_82 : cd 252 82 = some (.iand, 1) := by decide +kernel
theorem c_252_83 : cd 252 83 = some (.iconst (1), 1) := by decide +kernel
theorem c_252_84 : cd 252 84 = some (.if_icmp .ne (7), 3) := by decide +kernel
theorem c_252_87 : cd 252 87 = some (.iconst (1), 1) := by decide +kernel
theorem c_252_88 : cd 252 88 = some (.goto (4), 3) := by decide +kernel
theorem c_252_91 : cd 252 91 = some (.iconst (0), 1) := by decide +kernel
theorem c_252_92 : cd 252 92 = some (.ireturn, 1) := by decide +kernel
theorem c_252_93 : cd 252 93 = some (.aload_n 0, 1) := by decide +kernel
theorem c_252_94 : cd 252 94 = some (.getfield 9, 3) := by decide +kernel
theorem c_252_97 : cd 252 97 = some (.iload_n 1, 1) := by decide +kernel
theorem c_252_98 : cd 252 98 = some (.iaload, 1) := by decide +kernel
theorem c_252_99 : cd 252 99 = some (.bipush (11), 2) := by decide +kernel
theorem c_252_101 : cd 252 101 = some (.if_icmp .ne (12), 3) := by decide +kernel
theorem c_252_104 : cd 252 104 = some (.aload_n 0, 1) := by decide +kernel
theorem c_252_105 : cd 252 105 = some (.iload_n 2, 1) := by decide +kernel
theorem c_252_106 : cd 252 106 = some (.iconst (3), 1) := by decide +kernel
theorem c_252_107 : cd 252 107 = some (.invokevirtual 144, 3) := by decide +kernel
theorem c_252_110 : cd 252 110 = some (.goto (29), 3) := by decide +kernel
theorem c_252_113 : cd 252 113 = some (.aload_n 0, 1) := by decide +kernel
theorem c_252_114 : cd 252 114 = some (.getfield 9, 3) := by decide +kernel
theorem c_252_117 : cd 252 117 = some (.iload_n 1, 1) := by decide +kernel
theorem c_252_118 : cd 252 118 = some (.iaload, 1) := by decide +kernel
theorem c_252_119 : cd 252 119 = some (.bipush (12), 2) := by decide +kernel
theorem c_252_121 : cd 252 121 = some (.if_icmp .ne (12), 3) := by decide +kernel
theorem c_252_124 : cd 252 124 = some (.aload_n 0, 1) := by decide +kernel
theorem c_252_125 : cd 252 125 = some (.getfield 9, 3) := by decide +kernel
theorem c_252_128 : cd 252 128 = some (.iconst (0), 1) := by decide +kernel
theorem c_252_129 : cd 252 129 = some (.iaload, 1) := by decide +kernel
theorem c_252_130 : cd 252 130 = some (.goto (9), 3) := by decide +kernel
theorem c_252_133 : cd 252 133 = some (.aload_n 0, 1) := by decide +kernel
theorem c_252_134 : cd 252 134 = some (.getfield 9, 3) := by decide +kernel
theorem c_252_137 : cd 252 137 = some (.iconst (1), 1) := by decide +kernel
theorem c_252_138 : cd 252 138 = some (.iaload, 1) := by decide +kernel
theorem c_252_139 : cd 252 139 = some (.istore 4, 2) := by decide +kernel
theorem c_252_141 : cd 252 141 = some (.aload_n 0, 1) := by decide +kernel
theorem c_252_142 : cd 252 142 = some (.getfield 9, 3) := by decide +kernel
theorem c_252_145 : cd 252 145 = some (.iload_n 1, 1) := by decide +kernel
theorem c_252_146 : cd 252 146 = some (.iconst (1), 1) := by decide +kernel
theorem c_252_147 : cd 252 147 = some (.iadd, 1) := by decide +kernel
theorem c_252_148 : cd 252 148 = some (.iaload, 1) := by decide +kernel
theorem c_252_149 : cd 252 149 = some (.bipush (60), 2) := by decide +kernel
theorem c_252_151 : cd 252 151 = some (.if_icmp .ne (17), 3) := by decide +kernel
theorem c_252_154 : cd 252 154 = some (.iload 4, 2) := by decide +kernel
theorem c_252_156 : cd 252 156 = some (.iload_n 3, 1) := by decide +kernel
theorem c_252_157 : cd 252 157 = some (.if_icmp .ge (7), 3) := by decide +kernel
theorem c_252_160 : cd 252 160 = some (.iconst (1), 1) := by decide +kernel
theorem c_252_161 : cd 252 161 = some (.goto (18), 3) := by decide +kernel
theorem c_252_164 : cd 252 164 = some (.iconst (0), 1) := by decide +kernel
theorem c_252_165 : cd 252 165 = some (.goto (14), 3) := by decide +kernel
theorem c_252_168 : cd 252 168 = some (.iload 4, 2) := by decide +kernel
theorem c_252_170 : cd 252 170 = some (.iload_n 3, 1) := by decide +kernel
theorem c_252_171 : cd 252 171 = some (.if_icmp .le (7), 3) := by decide +kernel
theorem c_252_174 : cd 252 174 = some (.iconst (1), 1) := by decide +kernel
theorem c_252_175 : cd 252 175 = some (.goto (4), 3) := by decide +kernel
theorem c_252_178 : cd 252 178 = some (.iconst (0), 1) := by decide +kernel
theorem c_252_179 : cd 252 179 = some (.ireturn, 1) := by decide +kernel
def f_Mo_isAtom_55 (σ : Mm) (y0 : Int32) : Option Int32 := if zB y0 = true then some y0 else none
set_option maxRecDepth 100000 in
set_option maxHeartbeats 4000000 in
theorem t_Mo_isAtom_55 {X : Xt} {S : Sh} (hS : ShOK S) {d : Nat} (hd : 1 ≤ d + 1) (σ : Mm) (y0 : Int32) (u0 : Value) (u1 : Value) (u2 : Value) (u3 : Value) (u4 : Value) : Rf X S (emI σ) (f_Mo_isAtom_55 σ y0) (d + 1) 252 55 [u0, u1, u2, u3, u4] [.int y0] σ := by
  unfold f_Mo_isAtom_55
  refine rf_ite (fun hq55 => ?_) (fun _ => rf_none)
  exact rf_ret c_252_55 rfl (zB_n hq55) rfl rfl
def f_Mo_isAtom_71 (σ : Mm) (y0 : Int32) : Option Int32 := if zB y0 = true then some y0 else none
set_option maxRecDepth 100000 in
set_option maxHeartbeats 4000000 in
theorem t_Mo_isAtom_71 {X : Xt} {S : Sh} (hS : ShOK S) {d : Nat} (hd : 1 ≤ d + 1) (σ : Mm) (y0 : Int32) (u0 : Value) (u1 : Value) (u2 : Value) (u3 : Value) (u4 : Value) : Rf X S (emI σ) (f_Mo_isAtom_71 σ y0) (d + 1) 252 71 [u0, u1, u2, u3, u4] [.int y0] σ := by
  unfold f_Mo_isAtom_71
  refine rf_ite (fun hq71 => ?_) (fun _ => rf_none)
  exact rf_ret c_252_71 rfl (zB_n hq71) rfl rfl
def f_Mo_isAtom_92 (σ : Mm) (y0 : Int32) : Option Int32 := if zB y0 = true then some y0 else none
set_option maxRecDepth 100000 in
set_option maxHeartbeats 4000000 in
theorem t_Mo_isAtom_92 {X : Xt} {S : Sh} (hS : ShOK S) {d : Nat} (hd : 1 ≤ d + 1) (σ : Mm) (y0 : Int32) (u0 : Value) (u1 : Value) (u2 : Value) (u3 : Value) (u4 : Value) : Rf X S (emI σ) (f_Mo_isAtom_92 σ y0) (d + 1) 252 92 [u0, u1, u2, u3, u4] [.int y0] σ := by
  unfold f_Mo_isAtom_92
  refine rf_ite (fun hq92 => ?_) (fun _ => rf_none)
  exact rf_ret c_252_92 rfl (zB_n hq92) rfl rfl
def f_Mo_isAtom_179 (σ : Mm) (y0 : Int32) : Option Int32 := if zB y0 = true then some y0 else none
set_option maxRecDepth 100000 in
set_option maxHeartbeats 4000000 in
theorem t_Mo_isAtom_179 {X : Xt} {S : Sh} (hS : ShOK S) {d : Nat} (hd : 1 ≤ d + 1) (σ : Mm) (y0 : Int32) (u0 : Value) (u1 : Value) (u2 : Value) (u3 : Value) (u4 : Value) : Rf X S (emI σ) (f_Mo_isAtom_179 σ y0) (d + 1) 252 179 [u0, u1, u2, u3, u4] [.int y0] σ := by
  unfold f_Mo_isAtom_179
  refine rf_ite (fun hq179 => ?_) (fun _ => rf_none)
  exact rf_ret c_252_179 rfl (zB_n hq179) rfl rfl
def f_Mo_isAtom_139 (σ : Mm) (x0 : Nat) (x1 : Int32) (x3 : Int32) (y0 : Int32) : Option Int32 := if inbB (x1 + (1 : Int32)) 5528 = true then (if ¬ (σ (rfT x0 0) (ix (x1 + (1 : Int32)))) = (60 : Int32) then (if y0 ≤ x3 then (f_Mo_isAtom_179 σ (0 : Int32)) else (f_Mo_isAtom_179 σ (1 : Int32))) else (if x3 ≤ y0 then (f_Mo_isAtom_179 σ (0 : Int32)) else (f_Mo_isAtom_179 σ (1 : Int32)))) else none
set_option maxRecDepth 100000 in
set_option maxHeartbeats 4000000 in
theorem t_Mo_isAtom_139 {X : Xt} {S : Sh} (hS : ShOK S) {d : Nat} (hd : 1 ≤ d + 1) (σ : Mm) (x0 : Nat) (x1 : Int32) (x3 : Int32) (y0 : Int32) (u2 : Value) (u4 : Value) (h_x0 : tgT x0 = 12) : Rf X S (emI σ) (f_Mo_isAtom_139 σ x0 x1 x3 y0) (d + 1) 252 139 [.ref x0, .int x1, u2, .int x3, u4] [.int y0] σ := by
  unfold f_Mo_isAtom_139
  refine rf_ist (i := 4) (Or.inl ⟨rfl, rfl⟩) c_252_139 (Nat.le_of_ble_eq_true rfl) rfl ?_
  refine rf_ald (i := 0) (Or.inr ⟨0, rfl, rfl, rfl⟩) c_252_141 rfl ?_
  refine rf_getr hS c_252_142 rfl fl_12_9 rfl h_x0 ?_
  refine rf_ild (i := 1) (Or.inr ⟨1, rfl, rfl, rfl⟩) c_252_145 rfl ?_
  refine rf_iconst c_252_146 ki_1 ?_
  refine rf_iadd c_252_147 ?_
  refine rf_ite (fun hb148 => ?_) (fun _ => rf_none)
  refine rf_iald hS c_252_148 (tf_12_0 h_x0) (lf_12_0 h_x0) hb148 ?_
  refine rf_bipush c_252_149 kb_60 ?_
  refine rf_ite (fun hc151 => ?_) (fun hc151 => ?_)
  · refine rf_b2t c_252_151 rfl (decide_eq_true hc151) ?_
    refine rf_ild (i := 4) (Or.inl ⟨rfl, rfl⟩) c_252_168 rfl ?_
    refine rf_ild (i := 3) (Or.inr ⟨3, rfl, rfl, rfl⟩) c_252_170 rfl ?_
    refine rf_ite (fun hc171 => ?_) (fun hc171 => ?_)
    · refine rf_b2t c_252_171 rfl (decide_eq_true hc171) ?_
      refine rf_iconst c_252_178 ki_0 ?_
      exact t_Mo_isAtom_179 hS hd σ  (0 : Int32) (.ref x0) (.int x1) (u2) (.int x3) (.int y0)
    · refine rf_b2f c_252_171 rfl (decide_eq_false hc171) ?_
      refine rf_iconst c_252_174 ki_1 ?_
      refine rf_goto c_252_175 rfl ?_
      exact t_Mo_isAtom_179 hS hd σ  (1 : Int32) (.ref x0) (.int x1) (u2) (.int x3) (.int y0)
  · refine rf_b2f c_252_151 rfl (decide_eq_false hc151) ?_
    refine rf_ild (i := 4) (Or.inl ⟨rfl, rfl⟩) c_252_154 rfl ?_
    refine rf_ild (i := 3) (Or.inr ⟨3, rfl, rfl, rfl⟩) c_252_156 rfl ?_
    refine rf_ite (fun hc157 => ?_) (fun hc157 => ?_)
    · refine rf_b2t c_252_157 rfl (decide_eq_true hc157) ?_
      refine rf_iconst c_252_164 ki_0 ?_
      refine rf_goto c_252_165 rfl ?_
      exact t_Mo_isAtom_179 hS hd σ  (0 : Int32) (.ref x0) (.int x1) (u2) (.int x3) (.int y0)
    · refine rf_b2f c_252_157 rfl (decide_eq_false hc157) ?_
      refine rf_iconst c_252_160 ki_1 ?_
      refine rf_goto c_252_161 rfl ?_
      exact t_Mo_isAtom_179 hS hd σ  (1 : Int32) (.ref x0) (.int x1) (u2) (.int x3) (.int y0)
def f_Mo_isAtom (σ : Mm) (x0 : Nat) (x1 : Int32) (x2 : Int32) : Option Int32 := if inbB (x1 + (2 : Int32)) 5528 = true then if inbB x1 5528 = true then (if (σ (rfT x0 0) (ix x1)) = (14 : Int32) then ((f_Mo_paperOf σ x0 x2 (1 : Int32)).bind fun v43 => (if ¬ v43 = (σ (rfT x0 0) (ix (x1 + (2 : Int32)))) then (f_Mo_isAtom_55 σ (0 : Int32)) else (f_Mo_isAtom_55 σ (1 : Int32)))) else (if (σ (rfT x0 0) (ix x1)) = (15 : Int32) then ((f_Mo_paperOf σ x0 x2 (2 : Int32)).bind fun v59 => (if ¬ v59 = (σ (rfT x0 0) (ix (x1 + (2 : Int32)))) then (f_Mo_isAtom_71 σ (0 : Int32)) else (f_Mo_isAtom_71 σ (1 : Int32)))) else (if (σ (rfT x0 0) (ix x1)) = (16 : Int32) then ((f_Mo_paperOf σ x0 x2 (7 : Int32)).bind fun v76 => (if ¬ ((v76 >>> ((σ (rfT x0 0) (ix (x1 + (2 : Int32)))) &&& 31)) &&& (1 : Int32)) = (1 : Int32) then (f_Mo_isAtom_92 σ (0 : Int32)) else (f_Mo_isAtom_92 σ (1 : Int32)))) else (if inbB x1 5528 = true then (if ¬ (σ (rfT x0 0) (ix x1)) = (11 : Int32) then (if inbB x1 5528 = true then (if ¬ (σ (rfT x0 0) (ix x1)) = (12 : Int32) then (f_Mo_isAtom_139 σ x0 x1 (σ (rfT x0 0) (ix (x1 + (2 : Int32)))) (σ (rfT x0 0) (ix (1 : Int32)))) else (f_Mo_isAtom_139 σ x0 x1 (σ (rfT x0 0) (ix (x1 + (2 : Int32)))) (σ (rfT x0 0) (ix (0 : Int32))))) else none) else ((f_Mo_paperOf σ x0 x2 (3 : Int32)).bind fun v107 => f_Mo_isAtom_139 σ x0 x1 (σ (rfT x0 0) (ix (x1 + (2 : Int32)))) v107)) else none)))) else none else none
set_option maxRecDepth 100000 in
set_option maxHeartbeats 4000000 in
theorem t_Mo_isAtom_e {X : Xt} {S : Sh} (hS : ShOK S) {d : Nat} (hd : 1 ≤ d + 1) (σ : Mm) (x0 : Nat) (x1 : Int32) (x2 : Int32) (h_x0 : tgT x0 = 12) : Rf X S (emI σ) (f_Mo_isAtom σ x0 x1 x2) (d + 1) 252 0 [.ref x0, .int x1, .int x2, unset0, unset0] [] σ := by
  unfold f_Mo_isAtom
  refine rf_ald (i := 0) (Or.inr ⟨0, rfl, rfl, rfl⟩) c_252_0 rfl ?_
  refine rf_getr hS c_252_1 rfl fl_12_9 rfl h_x0 ?_
  refine rf_ild (i := 1) (Or.inr ⟨1, rfl, rfl, rfl⟩) c_252_4 rfl ?_
  refine rf_iconst c_252_5 ki_2 ?_
  refine rf_iadd c_252_6 ?_
  refine rf_ite (fun hb7 => ?_) (fun _ => rf_none)
  refine rf_iald hS c_252_7 (tf_12_0 h_x0) (lf_12_0 h_x0) hb7 ?_
  refine rf_ist (i := 3) (Or.inr ⟨3, rfl, rfl, rfl⟩) c_252_8 (Nat.le_of_ble_eq_true rfl) rfl ?_
  refine rf_ald (i := 0) (Or.inr ⟨0, rfl, rfl, rfl⟩) c_252_9 rfl ?_
  refine rf_getr hS c_252_10 rfl fl_12_9 rfl h_x0 ?_
  refine rf_ild (i := 1) (Or.inr ⟨1, rfl, rfl, rfl⟩) c_252_13 rfl ?_
  refine rf_ite (fun hb14 => ?_) (fun _ => rf_none)
  refine rf_iald hS c_252_14 (tf_12_0 h_x0) (lf_12_0 h_x0) hb14 ?_
  refine rf_ite (fun hs15_14 => ?_) (fun hs15_14 => ?_)
  · refine rf_tsw (o := 25) c_252_15 (by rw [hs15_14]; decide) rfl ?_
    refine rf_ald (i := 0) (Or.inr ⟨0, rfl, rfl, rfl⟩) c_252_40 rfl ?_
    refine rf_ild (i := 2) (Or.inr ⟨2, rfl, rfl, rfl⟩) c_252_41 rfl ?_
    refine rf_iconst c_252_42 ki_1 ?_
    refine rf_callI (as := [.ref x0, .int x2, .int (1 : Int32)]) (kd := 1) c_252_43 rfl (by decide) rfl ml_12_144 (by decide) rfl (rcv_1 hS rfl rfl h_x0 (by decide)) (Nat.zero_le _) rfl rfl (t_Mo_paperOf hS (by omega) σ x0 x2 (1 : Int32) h_x0) (fun v43 => ?_)
    refine rf_ild (i := 3) (Or.inr ⟨3, rfl, rfl, rfl⟩) c_252_46 rfl ?_
    refine rf_ite (fun hc47 => ?_) (fun hc47 => ?_)
    · refine rf_b2t c_252_47 rfl (decide_eq_true hc47) ?_
      refine rf_iconst c_252_54 ki_0 ?_
      exact t_Mo_isAtom_55 hS hd σ  (0 : Int32) (.ref x0) (.int x1) (.int x2) (.int (σ (rfT x0 0) (ix (x1 + (2 : Int32))))) (unset0)
    · refine rf_b2f c_252_47 rfl (decide_eq_false hc47) ?_
      refine rf_iconst c_252_50 ki_1 ?_
      refine rf_goto c_252_51 rfl ?_
      exact t_Mo_isAtom_55 hS hd σ  (1 : Int32) (.ref x0) (.int x1) (.int x2) (.int (σ (rfT x0 0) (ix (x1 + (2 : Int32))))) (unset0)
  · refine rf_ite (fun hs15_15 => ?_) (fun hs15_15 => ?_)
    · refine rf_tsw (o := 41) c_252_15 (by rw [hs15_15]; decide) rfl ?_
      refine rf_ald (i := 0) (Or.inr ⟨0, rfl, rfl, rfl⟩) c_252_56 rfl ?_
      refine rf_ild (i := 2) (Or.inr ⟨2, rfl, rfl, rfl⟩) c_252_57 rfl ?_
      refine rf_iconst c_252_58 ki_2 ?_
      refine rf_callI (as := [.ref x0, .int x2, .int (2 : Int32)]) (kd := 1) c_252_59 rfl (by decide) rfl ml_12_144 (by decide) rfl (rcv_1 hS rfl rfl h_x0 (by decide)) (Nat.zero_le _) rfl rfl (t_Mo_paperOf hS (by omega) σ x0 x2 (2 : Int32) h_x0) (fun v59 => ?_)
      refine rf_ild (i := 3) (Or.inr ⟨3, rfl, rfl, rfl⟩) c_252_62 rfl ?_
      refine rf_ite (fun hc63 => ?_) (fun hc63 => ?_)
      · refine rf_b2t c_252_63 rfl (decide_eq_true hc63) ?_
        refine rf_iconst c_252_70 ki_0 ?_
        exact t_Mo_isAtom_71 hS hd σ  (0 : Int32) (.ref x0) (.int x1) (.int x2) (.int (σ (rfT x0 0) (ix (x1 + (2 : Int32))))) (unset0)
      · refine rf_b2f c_252_63 rfl (decide_eq_false hc63) ?_
        refine rf_iconst c_252_66 ki_1 ?_
        refine rf_goto c_252_67 rfl ?_
        exact t_Mo_isAtom_71 hS hd σ  (1 : Int32) (.ref x0) (.int x1) (.int x2) (.int (σ (rfT x0 0) (ix (x1 + (2 : Int32))))) (unset0)
    · refine rf_ite (fun hs15_16 => ?_) (fun hs15_16 => ?_)
      · refine rf_tsw (o := 57) c_252_15 (by rw [hs15_16]; decide) rfl ?_
        refine rf_ald (i := 0) (Or.inr ⟨0, rfl, rfl, rfl⟩) c_252_72 rfl ?_
        refine rf_ild (i := 2) (Or.inr ⟨2, rfl, rfl, rfl⟩) c_252_73 rfl ?_
        refine rf_bipush c_252_74 kb_7 ?_
        refine rf_callI (as := [.ref x0, .int x2, .int (7 : Int32)]) (kd := 1) c_252_76 rfl (by decide) rfl ml_12_144 (by decide) rfl (rcv_1 hS rfl rfl h_x0 (by decide)) (Nat.zero_le _) rfl rfl (t_Mo_paperOf hS (by omega) σ x0 x2 (7 : Int32) h_x0) (fun v76 => ?_)
        refine rf_ild (i := 3) (Or.inr ⟨3, rfl, rfl, rfl⟩) c_252_79 rfl ?_
        refine rf_ishr c_252_80 ?_
        refine rf_iconst c_252_81 ki_1 ?_
        refine rf_iand c_252_82 ?_
        refine rf_iconst c_252_83 ki_1 ?_
        refine rf_ite (fun hc84 => ?_) (fun hc84 => ?_)
        · refine rf_b2t c_252_84 rfl (decide_eq_true hc84) ?_
          refine rf_iconst c_252_91 ki_0 ?_
          exact t_Mo_isAtom_92 hS hd σ  (0 : Int32) (.ref x0) (.int x1) (.int x2) (.int (σ (rfT x0 0) (ix (x1 + (2 : Int32))))) (unset0)
        · refine rf_b2f c_252_84 rfl (decide_eq_false hc84) ?_
          refine rf_iconst c_252_87 ki_1 ?_
          refine rf_goto c_252_88 rfl ?_
          exact t_Mo_isAtom_92 hS hd σ  (1 : Int32) (.ref x0) (.int x1) (.int x2) (.int (σ (rfT x0 0) (ix (x1 + (2 : Int32))))) (unset0)
      · refine rf_tsw c_252_15 (if_pos (by have e14 := lv_neT hs15_14 (a := 14) (by decide); have e15 := lv_neT hs15_15 (a := 15) (by decide); have e16 := lv_neT hs15_16 (a := 16) (by decide); omega)) rfl ?_
        refine rf_ald (i := 0) (Or.inr ⟨0, rfl, rfl, rfl⟩) c_252_93 rfl ?_
        refine rf_getr hS c_252_94 rfl fl_12_9 rfl h_x0 ?_
        refine rf_ild (i := 1) (Or.inr ⟨1, rfl, rfl, rfl⟩) c_252_97 rfl ?_
        refine rf_ite (fun hb98 => ?_) (fun _ => rf_none)
        refine rf_iald hS c_252_98 (tf_12_0 h_x0) (lf_12_0 h_x0) hb98 ?_
        refine rf_bipush c_252_99 kb_11 ?_
        refine rf_ite (fun hc101 => ?_) (fun hc101 => ?_)
        · refine rf_b2t c_252_101 rfl (decide_eq_true hc101) ?_
          refine rf_ald (i := 0) (Or.inr ⟨0, rfl, rfl, rfl⟩) c_252_113 rfl ?_
          refine rf_getr hS c_252_114 rfl fl_12_9 rfl h_x0 ?_
          refine rf_ild (i := 1) (Or.inr ⟨1, rfl, rfl, rfl⟩) c_252_117 rfl ?_
          refine rf_ite (fun hb118 => ?_) (fun _ => rf_none)
          refine rf_iald hS c_252_118 (tf_12_0 h_x0) (lf_12_0 h_x0) hb118 ?_
          refine rf_bipush c_252_119 kb_12 ?_
          refine rf_ite (fun hc121 => ?_) (fun hc121 => ?_)
          · refine rf_b2t c_252_121 rfl (decide_eq_true hc121) ?_
            refine rf_ald (i := 0) (Or.inr ⟨0, rfl, rfl, rfl⟩) c_252_133 rfl ?_
            refine rf_getr hS c_252_134 rfl fl_12_9 rfl h_x0 ?_
            refine rf_iconst c_252_137 ki_1 ?_
            refine rf_iald hS c_252_138 (tf_12_0 h_x0) (lf_12_0 h_x0) (by decide) ?_
            exact t_Mo_isAtom_139 hS hd σ  x0 x1 (σ (rfT x0 0) (ix (x1 + (2 : Int32)))) (σ (rfT x0 0) (ix (1 : Int32))) (.int x2) (unset0) h_x0
          · refine rf_b2f c_252_121 rfl (decide_eq_false hc121) ?_
            refine rf_ald (i := 0) (Or.inr ⟨0, rfl, rfl, rfl⟩) c_252_124 rfl ?_
            refine rf_getr hS c_252_125 rfl fl_12_9 rfl h_x0 ?_
            refine rf_iconst c_252_128 ki_0 ?_
            refine rf_iald hS c_252_129 (tf_12_0 h_x0) (lf_12_0 h_x0) (by decide) ?_
            refine rf_goto c_252_130 rfl ?_
            exact t_Mo_isAtom_139 hS hd σ  x0 x1 (σ (rfT x0 0) (ix (x1 + (2 : Int32)))) (σ (rfT x0 0) (ix (0 : Int32))) (.int x2) (unset0) h_x0
        · refine rf_b2f c_252_101 rfl (decide_eq_false hc101) ?_
          refine rf_ald (i := 0) (Or.inr ⟨0, rfl, rfl, rfl⟩) c_252_104 rfl ?_
          refine rf_ild (i := 2) (Or.inr ⟨2, rfl, rfl, rfl⟩) c_252_105 rfl ?_
          refine rf_iconst c_252_106 ki_3 ?_
          refine rf_callI (as := [.ref x0, .int x2, .int (3 : Int32)]) (kd := 1) c_252_107 rfl (by decide) rfl ml_12_144 (by decide) rfl (rcv_1 hS rfl rfl h_x0 (by decide)) (Nat.zero_le _) rfl rfl (t_Mo_paperOf hS (by omega) σ x0 x2 (3 : Int32) h_x0) (fun v107 => ?_)
          refine rf_goto c_252_110 rfl ?_
          exact t_Mo_isAtom_139 hS hd σ  x0 x1 (σ (rfT x0 0) (ix (x1 + (2 : Int32)))) v107 (.int x2) (unset0) h_x0
theorem t_Mo_isAtom {X : Xt} {S : Sh} (hS : ShOK S) {d : Nat} (hd : 1 ≤ d) (σ : Mm) (x0 : Nat) (x1 : Int32) (x2 : Int32) (h_x0 : tgT x0 = 12) : Rf X S (emI σ) (f_Mo_isAtom σ x0 x1 x2) d 252 0 [.ref x0, .int x1, .int x2, unset0, unset0] [] σ := by
  obtain ⟨d1, rfl⟩ : ∃ d1, d = d1 + 1 := ⟨d - 1, by omega⟩
  exact t_Mo_isAtom_e hS hd σ x0 x1 x2 h_x0
theorem c_253_0 : cd 253 0 = some (.iconst (0), 1) := by decide +kernel
theorem c_253_1 : cd 253 1 = some (.istore 4, 2) := by decide +kernel
theorem c_253_3 : cd 253 3 = some (.iconst (0), 1) := by decide +kernel
theorem c_253_4 : cd 253 4 = some (.istore 5, 2) := by decide +kernel
theorem c_253_6 : cd 253 6 = some (.iload 5, 2) := by decide +kernel
theorem c_253_8 : cd 253 8 = some (.iload_n 2, 1) := by decide +kernel
theorem c_253_9 : cd 253 9 = some (.if_icmp .ge (179), 3) := by decide +kernel
theorem c_253_12 : cd 253 12 = some (.iload_n 1, 1) := by decide +kernel
theorem c_253_13 : cd 253 13 = some (.iconst (3), 1) := by decide +kernel
theorem c_253_14 : cd 253 14 = some (.iload 5, 2) := by decide +kernel
theorem c_253_16 : cd 253 16 = some (.imul, 1) := by decide +kernel
theorem c_253_17 : cd 253 17 = some (.iadd, 1) := by decide +kernel
theorem c_253_18 : cd 253 18 = some (.istore 6, 2) := by decide +kernel
theorem c_253_20 : cd 253 20 = some (.aload_n 0, 1) := by decide +kernel
theorem c_253_21 : cd 253 21 = some (.getfield 9, 3) := by decide +kernel
theorem c_253_24 : cd 253 24 = some (.iload 6, 2) := by decide +kernel
theorem c_253_26 : cd 253 26 = some (.iaload, 1) := by decide +kernel
theorem c_253_27 : cd 253 27 = some (.tableswitch (138) (8) (10) #[54, 96, 25], 25) := by decide +kernel
theorem c_253_52 : cd 253 52 = some (.aload_n 0, 1) := by decide +kernel
theorem c_253_53 : cd 253 53 = some (.getfield 44, 3) := by decide +kernel
theorem c_253_56 : cd 253 56 = some (.iload 4, 2) := by decide +kernel
theorem c_253_58 : cd 253 58 = some (.iconst (1), 1) := by decide +kernel
theorem c_253_59 : cd 253 59 = some (.isub, 1) := by decide +kernel
theorem c_253_60 : cd 253 60 = some (.aload_n 0, 1) := by decide +kernel
theorem c_253_61 : cd 253 61 = some (.getfield 44, 3) := by decide +kernel
theorem c_253_64 : cd 253 64 = some (.iload 4, 2) := by decide +kernel
theorem c_253_66 : cd 253 66 = some (.iconst (1), 1) := by decide +kernel
theorem c_253_67 : cd 253 67 = some (.isub, 1) := by decide +kernel
theorem c_253_68 : cd 253 68 = some (.baload, 1) := by decide +kernel
theorem c_253_69 : cd 253 69 = some (.ifCond .ne (7), 3) := by decide +kernel
theorem c_253_72 : cd 253 72 = some (.iconst (1), 1) := by decide +kernel
theorem c_253_73 : cd 253 73 = some (.goto (4), 3) := by decide +kernel
theorem c_253_76 : cd 253 76 = some (.iconst (0), 1) := by decide +kernel
theorem c_253_77 : cd 253 77 = some (.bastore, 1) := by decide +kernel
theorem c_253_78 : cd 253 78 = some (.goto (104), 3) := by decide +kernel
theorem c_253_81 : cd 253 81 = some (.iinc 4 (-1), 3) := by decide +kernel
theorem c_253_84 : cd 253 84 = some (.aload_n 0, 1) := by decide +kernel
theorem c_253_85 : cd 253 85 = some (.getfield 44, 3) := by decide +kernel
theorem c_253_88 : cd 253 88 = some (.iload 4, 2) := by decide +kernel
theorem c_253_90 : cd 253 90 = some (.iconst (1), 1) := by decide +kernel
theorem c_253_91 : cd 253 91 = some (.isub, 1) := by decide +kernel
theorem c_253_92 : cd 253 92 = some (.aload_n 0, 1) := by decide +kernel
theorem c_253_93 : cd 253 93 = some (.getfield 44, 3) := by decide +kernel
theorem c_253_96 : cd 253 96 = some (.iload 4, 2) := by decide +kernel
theorem c_253_98 : cd 253 98 = some (.iconst (1), 1) := by decide +kernel
theorem c_253_99 : cd 253 99 = some (.isub, 1) := by decide +kernel
theorem c_253_100 : cd 253 100 = some (.baload, 1) := by decide +kernel
theorem c_253_101 : cd 253 101 = some (.ifCond .eq (17), 3) := by decide +kernel
theorem c_253_104 : cd 253 104 = some (.aload_n 0, 1) := by decide +kernel
theorem c_253_105 : cd 253 105 = some (.getfield 44, 3) := by decide +kernel
theorem c_253_108 : cd 253 108 = some (.iload 4, 2) := by decide +kernel
theorem c_253_110 : cd 253 110 = some (.baload, 1) := by decide +kernel
theorem c_253_111 : cd 253 111 = some (.ifCond .eq (7), 3) := by decide +kernel
theorem c_253_114 : cd 253 114 = some (.iconst (1), 1) := by decide +kernel
theorem c_253_115 : cd 253 115 = some (.goto (4), 3) := by decide +kernel
theorem c_253_118 : cd 253 118 = some (.iconst (0), 1) := by decide +kernel
theorem c_253_119 : cd 253 119 = some (.bastore, 1) := by decide +kernel
theorem c_253_120 : cd 253 120 = some (.goto (62), 3) := by decide +kernel
theorem c_253_123 : cd 253 123 = some (.iinc 4 (-1), 3) := by decide +kernel
theorem c_253_126 : cd 253 126 = some (.aload_n 0, 1) := by decide +kernel
theorem c_253_127 : cd 253 127 = some (.getfield 44, 3) := by decide +kernel
theorem c_253_130 : cd 253 130 = some (.iload 4, 2) := by decide +kernel
theorem c_253_132 : cd 253 132 = some (.iconst (1), 1) := by decide +kernel
theorem c_253_133 : cd 253 133 = some (.isub, 1) := by decide +kernel
theorem c_253_134 : cd 253 134 = some (.aload_n 0, 1) := by decide +kernel
theorem c_253_135 : cd 253 135 = some (.getfield 44, 3) := by decide +kernel
theorem c_253_138 : cd 253 138 = some (.iload 4, 2) := by decide +kernel
theorem c_253_140 : cd 253 140 = some (.iconst (1), 1) := by decide +kernel
theorem c_253_141 : cd 253 141 = some (.isub, 1) := by decide +kernel
theorem c_253_142 : cd 253 142 = some (.baload, 1) := by decide +kernel
theorem c_253_143 : cd 253 143 = some (.ifCond .ne (13), 3) := by decide +kernel
theorem c_253_146 : cd 253 146 = some (.aload_n 0, 1) := by decide +kernel
theorem c_253_147 : cd 253 147 = some (.getfield 44, 3) := by decide +kernel
theorem c_253_150 : cd 253 150 = some (.iload 4, 2) := by decide +kernel
theorem c_253_152 : cd 253 152 = some (.baload, 1) := by decide +kernel
theorem c_253_153 : cd 253 153 = some (.ifCond .eq (7), 3) := by decide +kernel
theorem c_253_156 : cd 253 156 = some (.iconst (1), 1) := by decide +kernel
theorem c_253_157 : cd 253 157 = some (.goto (4), 3) := by decide +kernel
theorem c_253_160 : cd 253 160 = some (.iconst (0), 1) := by decide +kernel
theorem c_253_161 : cd 253 161 = some (.bastore, 1) := by decide +kernel
theorem c_253_162 : cd 253 162 = some (.goto (20), 3) := by decide +kernel
theorem c_253_165 : cd 253 165 = some (.aload_n 0, 1) := by decide +kernel
theorem c_253_166 : cd 253 166 = some (.getfield 44, 3) := by decide +kernel
theorem c_253_169 : cd 253 169 = some (.iload 4, 2) := by decide +kernel
theorem c_253_171 : cd 253 171 = some (.aload_n 0, 1) := by decide +kernel
theorem c_253_172 : cd 253 172 = some (.iload 6, 2) := by decide +kernel
theorem c_253_174 : cd 253 174 = some (.iload_n 3, 1) := by decide +kernel
theorem c_253_175 : cd 253 175 = some (.invokevirtual 283, 3) := by decide +kernel
theorem c_253_178 : cd 253 178 = some (.bastore, 1) := by decide +kernel
theorem c_253_179 : cd 253 179 = some (.iinc 4 (1), 3) := by decide +kernel
theorem c_253_182 : cd 253 182 = some (.iinc 5 (1), 3) := by decide +kernel
theorem c_253_185 : cd 253 185 = some (.goto (-179), 3) := by decide +kernel
theorem c_253_188 : cd 253 188 = some (.aload_n 0, 1) := by decide +kernel
theorem c_253_189 : cd 253 189 = some (.getfield 44, 3) := by decide +kernel
theorem c_253_192 : cd 253 192 = some (.iconst (0), 1) := by decide +kernel
theorem c_253_193 : cd 253 193 = some (.baload, 1) := by decide +kernel
theorem c_253_194 : cd 253 194 = some (.ireturn, 1) := by decide +kernel
def f_Mo_worth_182 (k6 : Nat → Int32 → Int32 → Int32 → Int32 → Int32 → Mm → Option (Int32 × Mm)) (x0 : Nat) (x1 : Int32) (x2 : Int32) (x3 : Int32) (x4 : Int32) (x5 : Int32) (σ : Mm) : Option (Int32 × Mm) := k6 x0 x1 x2 x3 x4 (x5 + (1 : Int32)) σ
set_option maxRecDepth 100000 in
set_option maxHeartbeats 4000000 in
theorem t_Mo_worth_182 {X : Xt} {S : Sh} (hS : ShOK S) {d : Nat} (hd : 2 ≤ d + 1) {k6 : Nat → Int32 → Int32 → Int32 → Int32 → Int32 → Mm → Option (Int32 × Mm)} (hk6 : ∀ (x0 : Nat) (x1 : Int32) (x2 : Int32) (x3 : Int32) (x4 : Int32) (x5 : Int32) (u6 : Value) (σ : Mm) (h_x0 : tgT x0 = 12), Rf X S emM (k6 x0 x1 x2 x3 x4 x5 σ) (d + 1) 253 6 [.ref x0, .int x1, .int x2, .int x3, .int x4, .int x5, u6] [] σ) (x0 : Nat) (x1 : Int32) (x2 : Int32) (x3 : Int32) (x4 : Int32) (x5 : Int32) (u6 : Value) (σ : Mm) (h_x0 : tgT x0 = 12) : Rf X S emM (f_Mo_worth_182 k6 x0 x1 x2 x3 x4 x5 σ) (d + 1) 253 182 [.ref x0, .int x1, .int x2, .int x3, .int x4, .int x5, u6] [] σ := by
  unfold f_Mo_worth_182
  refine rf_iinc c_253_182 rfl ki_1 rfl ?_
  refine rf_goto c_253_185 rfl ?_
  exact hk6 x0 x1 x2 x3 x4 (x5 + (1 : Int32)) (u6) σ h_x0
def f_Mo_worth_77 (k6 : Nat → Int32 → Int32 → Int32 → Int32 → Int32 → Mm → Option (Int32 × Mm)) (x0 : Nat) (x1 : Int32) (x2 : Int32) (x3 : Int32) (x4 : Int32) (x5 : Int32) (y0 : Nat) (y1 : Int32) (y2 : Int32) (σ : Mm) : Option (Int32 × Mm) := if inbB y1 48 = true then nmM (up2 σ y0 (ix y1) (vp_nar .boolean y2)) fun σ77 => f_Mo_worth_182 k6 x0 x1 x2 x3 x4 x5 σ77 else none
set_option maxRecDepth 100000 in
set_option maxHeartbeats 4000000 in
theorem t_Mo_worth_77 {X : Xt} {S : Sh} (hS : ShOK S) {d : Nat} (hd : 2 ≤ d + 1) {k6 : Nat → Int32 → Int32 → Int32 → Int32 → Int32 → Mm → Option (Int32 × Mm)} (hk6 : ∀ (x0 : Nat) (x1 : Int32) (x2 : Int32) (x3 : Int32) (x4 : Int32) (x5 : Int32) (u6 : Value) (σ : Mm) (h_x0 : tgT x0 = 12), Rf X S emM (k6 x0 x1 x2 x3 x4 x5 σ) (d + 1) 253 6 [.ref x0, .int x1, .int x2, .int x3, .int x4, .int x5, u6] [] σ) (x0 : Nat) (x1 : Int32) (x2 : Int32) (x3 : Int32) (x4 : Int32) (x5 : Int32) (y0 : Nat) (y1 : Int32) (y2 : Int32) (u6 : Value) (σ : Mm) (h_x0 : tgT x0 = 12) (h_y0 : tgT y0 = 22) (l_y0 : lnT y0 = 48) : Rf X S emM (f_Mo_worth_77 k6 x0 x1 x2 x3 x4 x5 y0 y1 y2 σ) (d + 1) 253 77 [.ref x0, .int x1, .int x2, .int x3, .int x4, .int x5, u6] [.int y2, .int y1, .ref y0] σ := by
  unfold f_Mo_worth_77
  refine rf_ite (fun hb77 => ?_) (fun _ => rf_none)
  refine rf_bast (w := (vp_nar .boolean y2)) hS c_253_77 (Or.inr ⟨h_y0, rfl⟩) l_y0 hb77 ?_
  refine rf_nm (fun σ77 => ?_)
  refine rf_goto c_253_78 rfl ?_
  exact t_Mo_worth_182 hS hd hk6 x0 x1 x2 x3 x4 x5 (u6) σ77 h_x0
def f_Mo_worth_119 (k6 : Nat → Int32 → Int32 → Int32 → Int32 → Int32 → Mm → Option (Int32 × Mm)) (x0 : Nat) (x1 : Int32) (x2 : Int32) (x3 : Int32) (x4 : Int32) (x5 : Int32) (y0 : Nat) (y1 : Int32) (y2 : Int32) (σ : Mm) : Option (Int32 × Mm) := if inbB y1 48 = true then nmM (up2 σ y0 (ix y1) (vp_nar .boolean y2)) fun σ119 => f_Mo_worth_182 k6 x0 x1 x2 x3 x4 x5 σ119 else none
set_option maxRecDepth 100000 in
set_option maxHeartbeats 4000000 in
theorem t_Mo_worth_119 {X : Xt} {S : Sh} (hS : ShOK S) {d : Nat} (hd : 2 ≤ d + 1) {k6 : Nat → Int32 → Int32 → Int32 → Int32 → Int32 → Mm → Option (Int32 × Mm)} (hk6 : ∀ (x0 : Nat) (x1 : Int32) (x2 : Int32) (x3 : Int32) (x4 : Int32) (x5 : Int32) (u6 : Value) (σ : Mm) (h_x0 : tgT x0 = 12), Rf X S emM (k6 x0 x1 x2 x3 x4 x5 σ) (d + 1) 253 6 [.ref x0, .int x1, .int x2, .int x3, .int x4, .int x5, u6] [] σ) (x0 : Nat) (x1 : Int32) (x2 : Int32) (x3 : Int32) (x4 : Int32) (x5 : Int32) (y0 : Nat) (y1 : Int32) (y2 : Int32) (u6 : Value) (σ : Mm) (h_x0 : tgT x0 = 12) (h_y0 : tgT y0 = 22) (l_y0 : lnT y0 = 48) : Rf X S emM (f_Mo_worth_119 k6 x0 x1 x2 x3 x4 x5 y0 y1 y2 σ) (d + 1) 253 119 [.ref x0, .int x1, .int x2, .int x3, .int x4, .int x5, u6] [.int y2, .int y1, .ref y0] σ := by
  unfold f_Mo_worth_119
  refine rf_ite (fun hb119 => ?_) (fun _ => rf_none)
  refine rf_bast (w := (vp_nar .boolean y2)) hS c_253_119 (Or.inr ⟨h_y0, rfl⟩) l_y0 hb119 ?_
  refine rf_nm (fun σ119 => ?_)
  refine rf_goto c_253_120 rfl ?_
  exact t_Mo_worth_182 hS hd hk6 x0 x1 x2 x3 x4 x5 (u6) σ119 h_x0
def f_Mo_worth_118 (k6 : Nat → Int32 → Int32 → Int32 → Int32 → Int32 → Mm → Option (Int32 × Mm)) (x0 : Nat) (x1 : Int32) (x2 : Int32) (x3 : Int32) (x4 : Int32) (x5 : Int32) (y0 : Nat) (y1 : Int32) (σ : Mm) : Option (Int32 × Mm) := f_Mo_worth_119 k6 x0 x1 x2 x3 x4 x5 y0 y1 (0 : Int32) σ
set_option maxRecDepth 100000 in
set_option maxHeartbeats 4000000 in
theorem t_Mo_worth_118 {X : Xt} {S : Sh} (hS : ShOK S) {d : Nat} (hd : 2 ≤ d + 1) {k6 : Nat → Int32 → Int32 → Int32 → Int32 → Int32 → Mm → Option (Int32 × Mm)} (hk6 : ∀ (x0 : Nat) (x1 : Int32) (x2 : Int32) (x3 : Int32) (x4 : Int32) (x5 : Int32) (u6 : Value) (σ : Mm) (h_x0 : tgT x0 = 12), Rf X S emM (k6 x0 x1 x2 x3 x4 x5 σ) (d + 1) 253 6 [.ref x0, .int x1, .int x2, .int x3, .int x4, .int x5, u6] [] σ) (x0 : Nat) (x1 : Int32) (x2 : Int32) (x3 : Int32) (x4 : Int32) (x5 : Int32) (y0 : Nat) (y1 : Int32) (u6 : Value) (σ : Mm) (h_x0 : tgT x0 = 12) (h_y0 : tgT y0 = 22) (l_y0 : lnT y0 = 48) : Rf X S emM (f_Mo_worth_118 k6 x0 x1 x2 x3 x4 x5 y0 y1 σ) (d + 1) 253 118 [.ref x0, .int x1, .int x2, .int x3, .int x4, .int x5, u6] [.int y1, .ref y0] σ := by
  unfold f_Mo_worth_118
  refine rf_iconst c_253_118 ki_0 ?_
  exact t_Mo_worth_119 hS hd hk6 x0 x1 x2 x3 x4 x5 y0 y1 (0 : Int32) (u6) σ h_x0 h_y0 l_y0
def f_Mo_worth_161 (k6 : Nat → Int32 → Int32 → Int32 → Int32 → Int32 → Mm → Option (Int32 × Mm)) (x0 : Nat) (x1 : Int32) (x2 : Int32) (x3 : Int32) (x4 : Int32) (x5 : Int32) (y0 : Nat) (y1 : Int32) (y2 : Int32) (σ : Mm) : Option (Int32 × Mm) := if inbB y1 48 = true then nmM (up2 σ y0 (ix y1) (vp_nar .boolean y2)) fun σ161 => f_Mo_worth_182 k6 x0 x1 x2 x3 x4 x5 σ161 else none
set_option maxRecDepth 100000 in
set_option maxHeartbeats 4000000 in
theorem t_Mo_worth_161 {X : Xt} {S : Sh} (hS : ShOK S) {d : Nat} (hd : 2 ≤ d + 1) {k6 : Nat → Int32 → Int32 → Int32 → Int32 → Int32 → Mm → Option (Int32 × Mm)} (hk6 : ∀ (x0 : Nat) (x1 : Int32) (x2 : Int32) (x3 : Int32) (x4 : Int32) (x5 : Int32) (u6 : Value) (σ : Mm) (h_x0 : tgT x0 = 12), Rf X S emM (k6 x0 x1 x2 x3 x4 x5 σ) (d + 1) 253 6 [.ref x0, .int x1, .int x2, .int x3, .int x4, .int x5, u6] [] σ) (x0 : Nat) (x1 : Int32) (x2 : Int32) (x3 : Int32) (x4 : Int32) (x5 : Int32) (y0 : Nat) (y1 : Int32) (y2 : Int32) (u6 : Value) (σ : Mm) (h_x0 : tgT x0 = 12) (h_y0 : tgT y0 = 22) (l_y0 : lnT y0 = 48) : Rf X S emM (f_Mo_worth_161 k6 x0 x1 x2 x3 x4 x5 y0 y1 y2 σ) (d + 1) 253 161 [.ref x0, .int x1, .int x2, .int x3, .int x4, .int x5, u6] [.int y2, .int y1, .ref y0] σ := by
  unfold f_Mo_worth_161
  refine rf_ite (fun hb161 => ?_) (fun _ => rf_none)
  refine rf_bast (w := (vp_nar .boolean y2)) hS c_253_161 (Or.inr ⟨h_y0, rfl⟩) l_y0 hb161 ?_
  refine rf_nm (fun σ161 => ?_)
  refine rf_goto c_253_162 rfl ?_
  exact t_Mo_worth_182 hS hd hk6 x0 x1 x2 x3 x4 x5 (u6) σ161 h_x0
def f_Mo_worth_156 (k6 : Nat → Int32 → Int32 → Int32 → Int32 → Int32 → Mm → Option (Int32 × Mm)) (x0 : Nat) (x1 : Int32) (x2 : Int32) (x3 : Int32) (x4 : Int32) (x5 : Int32) (y0 : Nat) (y1 : Int32) (σ : Mm) : Option (Int32 × Mm) := f_Mo_worth_161 k6 x0 x1 x2 x3 x4 x5 y0 y1 (1 : Int32) σ
set_option maxRecDepth 100000 in
set_option maxHeartbeats 4000000 in
theorem t_Mo_worth_156 {X : Xt} {S : Sh} (hS : ShOK S) {d : Nat} (hd : 2 ≤ d + 1) {k6 : Nat → Int32 → Int32 → Int32 → Int32 → Int32 → Mm → Option (Int32 × Mm)} (hk6 : ∀ (x0 : Nat) (x1 : Int32) (x2 : Int32) (x3 : Int32) (x4 : Int32) (x5 : Int32) (u6 : Value) (σ : Mm) (h_x0 : tgT x0 = 12), Rf X S emM (k6 x0 x1 x2 x3 x4 x5 σ) (d + 1) 253 6 [.ref x0, .int x1, .int x2, .int x3, .int x4, .int x5, u6] [] σ) (x0 : Nat) (x1 : Int32) (x2 : Int32) (x3 : Int32) (x4 : Int32) (x5 : Int32) (y0 : Nat) (y1 : Int32) (u6 : Value) (σ : Mm) (h_x0 : tgT x0 = 12) (h_y0 : tgT y0 = 22) (l_y0 : lnT y0 = 48) : Rf X S emM (f_Mo_worth_156 k6 x0 x1 x2 x3 x4 x5 y0 y1 σ) (d + 1) 253 156 [.ref x0, .int x1, .int x2, .int x3, .int x4, .int x5, u6] [.int y1, .ref y0] σ := by
  unfold f_Mo_worth_156
  refine rf_iconst c_253_156 ki_1 ?_
  refine rf_goto c_253_157 rfl ?_
  exact t_Mo_worth_161 hS hd hk6 x0 x1 x2 x3 x4 x5 y0 y1 (1 : Int32) (u6) σ h_x0 h_y0 l_y0
def f_Mo_worth_6 : Nat → Nat → Int32 → Int32 → Int32 → Int32 → Int32 → Mm → Option (Int32 × Mm)
  | 0, _, _, _, _, _, _, _ => none
  | n + 1, x0, x1, x2, x3, x4, x5, σ => (if x2 ≤ x5 then (if zB (σ (rfT x0 34) (ix (0 : Int32))) = true then some ((σ (rfT x0 34) (ix (0 : Int32))), σ) else none) else (if inbB (x1 + ((3 : Int32) * x5)) 5528 = true then (if (σ (rfT x0 0) (ix (x1 + ((3 : Int32) * x5)))) = (8 : Int32) then (if inbB ((x4 + (-1 : Int32)) - (1 : Int32)) 48 = true then (if (σ (rfT x0 34) (ix ((x4 + (-1 : Int32)) - (1 : Int32)))) = 0 then (f_Mo_worth_118 (f_Mo_worth_6  n) x0 x1 x2 x3 (x4 + (-1 : Int32)) x5 (rfT x0 34) ((x4 + (-1 : Int32)) - (1 : Int32)) σ) else (if inbB (x4 + (-1 : Int32)) 48 = true then (if (σ (rfT x0 34) (ix (x4 + (-1 : Int32)))) = 0 then (f_Mo_worth_118 (f_Mo_worth_6  n) x0 x1 x2 x3 (x4 + (-1 : Int32)) x5 (rfT x0 34) ((x4 + (-1 : Int32)) - (1 : Int32)) σ) else (f_Mo_worth_119 (f_Mo_worth_6  n) x0 x1 x2 x3 (x4 + (-1 : Int32)) x5 (rfT x0 34) ((x4 + (-1 : Int32)) - (1 : Int32)) (1 : Int32) σ)) else none)) else none) else (if (σ (rfT x0 0) (ix (x1 + ((3 : Int32) * x5)))) = (9 : Int32) then (if inbB ((x4 + (-1 : Int32)) - (1 : Int32)) 48 = true then (if ¬ (σ (rfT x0 34) (ix ((x4 + (-1 : Int32)) - (1 : Int32)))) = 0 then (f_Mo_worth_156 (f_Mo_worth_6  n) x0 x1 x2 x3 (x4 + (-1 : Int32)) x5 (rfT x0 34) ((x4 + (-1 : Int32)) - (1 : Int32)) σ) else (if inbB (x4 + (-1 : Int32)) 48 = true then (if (σ (rfT x0 34) (ix (x4 + (-1 : Int32)))) = 0 then (f_Mo_worth_161 (f_Mo_worth_6  n) x0 x1 x2 x3 (x4 + (-1 : Int32)) x5 (rfT x0 34) ((x4 + (-1 : Int32)) - (1 : Int32)) (0 : Int32) σ) else (f_Mo_worth_156 (f_Mo_worth_6  n) x0 x1 x2 x3 (x4 + (-1 : Int32)) x5 (rfT x0 34) ((x4 + (-1 : Int32)) - (1 : Int32)) σ)) else none)) else none) else (if (σ (rfT x0 0) (ix (x1 + ((3 : Int32) * x5)))) = (10 : Int32) then (if inbB (x4 - (1 : Int32)) 48 = true then (if ¬ (σ (rfT x0 34) (ix (x4 - (1 : Int32)))) = 0 then (f_Mo_worth_77 (f_Mo_worth_6  n) x0 x1 x2 x3 x4 x5 (rfT x0 34) (x4 - (1 : Int32)) (0 : Int32) σ) else (f_Mo_worth_77 (f_Mo_worth_6  n) x0 x1 x2 x3 x4 x5 (rfT x0 34) (x4 - (1 : Int32)) (1 : Int32) σ)) else none) else ((f_Mo_isAtom σ x0 (x1 + ((3 : Int32) * x5)) x3).bind fun v175 => if inbB x4 48 = true then nmM (up2 σ (rfT x0 34) (ix x4) (vp_nar .boolean v175)) fun σ178 => f_Mo_worth_182 (f_Mo_worth_6  n) x0 x1 x2 x3 (x4 + (1 : Int32)) x5 σ178 else none)))) else none))
set_option maxRecDepth 100000 in
set_option maxHeartbeats 4000000 in
theorem t_Mo_worth_6 {X : Xt} {S : Sh} (hS : ShOK S) {d : Nat} (hd : 2 ≤ d + 1) : ∀ (n : Nat) (x0 : Nat) (x1 : Int32) (x2 : Int32) (x3 : Int32) (x4 : Int32) (x5 : Int32) (u6 : Value) (σ : Mm) (h_x0 : tgT x0 = 12), Rf X S emM (f_Mo_worth_6 n x0 x1 x2 x3 x4 x5 σ) (d + 1) 253 6 [.ref x0, .int x1, .int x2, .int x3, .int x4, .int x5, u6] [] σ := by
  intro n
  induction n with
  | zero => intro x0 x1 x2 x3 x4 x5 u6 σ h_x0; exact rf_none
  | succ n ih =>
    intro x0 x1 x2 x3 x4 x5 u6 σ h_x0
    rw [f_Mo_worth_6]
    refine rf_ild (i := 5) (Or.inl ⟨rfl, rfl⟩) c_253_6 rfl ?_
    refine rf_ild (i := 2) (Or.inr ⟨2, rfl, rfl, rfl⟩) c_253_8 rfl ?_
    refine rf_ite (fun hc9 => ?_) (fun hc9 => ?_)
    · refine rf_b2t c_253_9 rfl (decide_eq_true hc9) ?_
      refine rf_ald (i := 0) (Or.inr ⟨0, rfl, rfl, rfl⟩) c_253_188 rfl ?_
      refine rf_getr hS c_253_189 rfl fl_12_44 rfl h_x0 ?_
      refine rf_iconst c_253_192 ki_0 ?_
      refine rf_bald hS c_253_193 (Or.inr (tf_12_34 h_x0)) (lf_12_34 h_x0) (by decide) ?_
      refine rf_ite (fun hq194 => ?_) (fun _ => rf_none)
      exact rf_ret c_253_194 rfl (zB_n hq194) rfl rfl
    · refine rf_b2f c_253_9 rfl (decide_eq_false hc9) ?_
      refine rf_ild (i := 1) (Or.inr ⟨1, rfl, rfl, rfl⟩) c_253_12 rfl ?_
      refine rf_iconst c_253_13 ki_3 ?_
      refine rf_ild (i := 5) (Or.inl ⟨rfl, rfl⟩) c_253_14 rfl ?_
      refine rf_imul c_253_16 ?_
      refine rf_iadd c_253_17 ?_
      refine rf_ist (i := 6) (Or.inl ⟨rfl, rfl⟩) c_253_18 (Nat.le_of_ble_eq_true rfl) rfl ?_
      refine rf_ald (i := 0) (Or.inr ⟨0, rfl, rfl, rfl⟩) c_253_20 rfl ?_
      refine rf_getr hS c_253_21 rfl fl_12_9 rfl h_x0 ?_
      refine rf_ild (i := 6) (Or.inl ⟨rfl, rfl⟩) c_253_24 rfl ?_
      refine rf_ite (fun hb26 => ?_) (fun _ => rf_none)
      refine rf_iald hS c_253_26 (tf_12_0 h_x0) (lf_12_0 h_x0) hb26 ?_
      refine rf_ite (fun hs27_8 => ?_) (fun hs27_8 => ?_)
      · refine rf_tsw (o := 54) c_253_27 (by rw [hs27_8]; decide) rfl ?_
        refine rf_iinc c_253_81 rfl ki_m1 rfl ?_
        refine rf_ald (i := 0) (Or.inr ⟨0, rfl, rfl, rfl⟩) c_253_84 rfl ?_
        refine rf_getr hS c_253_85 rfl fl_12_44 rfl h_x0 ?_
        refine rf_ild (i := 4) (Or.inl ⟨rfl, rfl⟩) c_253_88 rfl ?_
        refine rf_iconst c_253_90 ki_1 ?_
        refine rf_isub c_253_91 ?_
        refine rf_ald (i := 0) (Or.inr ⟨0, rfl, rfl, rfl⟩) c_253_92 rfl ?_
        refine rf_getr hS c_253_93 rfl fl_12_44 rfl h_x0 ?_
        refine rf_ild (i := 4) (Or.inl ⟨rfl, rfl⟩) c_253_96 rfl ?_
        refine rf_iconst c_253_98 ki_1 ?_
        refine rf_isub c_253_99 ?_
        refine rf_ite (fun hb100 => ?_) (fun _ => rf_none)
        refine rf_bald hS c_253_100 (Or.inr (tf_12_34 h_x0)) (lf_12_34 h_x0) hb100 ?_
        refine rf_ite (fun hc101 => ?_) (fun hc101 => ?_)
        · refine rf_b1t c_253_101 rfl (decide_eq_true hc101) ?_
          exact t_Mo_worth_118 hS hd ih x0 x1 x2 x3 (x4 + (-1 : Int32)) x5 (rfT x0 34) ((x4 + (-1 : Int32)) - (1 : Int32)) (.int (x1 + ((3 : Int32) * x5))) σ h_x0 (tf_12_34 h_x0) (lf_12_34 h_x0)
        · refine rf_b1f c_253_101 rfl (decide_eq_false hc101) ?_
          refine rf_ald (i := 0) (Or.inr ⟨0, rfl, rfl, rfl⟩) c_253_104 rfl ?_
          refine rf_getr hS c_253_105 rfl fl_12_44 rfl h_x0 ?_
          refine rf_ild (i := 4) (Or.inl ⟨rfl, rfl⟩) c_253_108 rfl ?_
          refine rf_ite (fun hb110 => ?_) (fun _ => rf_none)
          refine rf_bald hS c_253_110 (Or.inr (tf_12_34 h_x0)) (lf_12_34 h_x0) hb110 ?_
          refine rf_ite (fun hc111 => ?_) (fun hc111 => ?_)
          · refine rf_b1t c_253_111 rfl (decide_eq_true hc111) ?_
            exact t_Mo_worth_118 hS hd ih x0 x1 x2 x3 (x4 + (-1 : Int32)) x5 (rfT x0 34) ((x4 + (-1 : Int32)) - (1 : Int32)) (.int (x1 + ((3 : Int32) * x5))) σ h_x0 (tf_12_34 h_x0) (lf_12_34 h_x0)
          · refine rf_b1f c_253_111 rfl (decide_eq_false hc111) ?_
            refine rf_iconst c_253_114 ki_1 ?_
            refine rf_goto c_253_115 rfl ?_
            exact t_Mo_worth_119 hS hd ih x0 x1 x2 x3 (x4 + (-1 : Int32)) x5 (rfT x0 34) ((x4 + (-1 : Int32)) - (1 : Int32)) (1 : Int32) (.int (x1 + ((3 : Int32) * x5))) σ h_x0 (tf_12_34 h_x0) (lf_12_34 h_x0)
      · refine rf_ite (fun hs27_9 => ?_) (fun hs27_9 => ?_)
        · refine rf_tsw (o := 96) c_253_27 (by rw [hs27_9]; decide) rfl ?_
          refine rf_iinc c_253_123 rfl ki_m1 rfl ?_
          refine rf_ald (i := 0) (Or.inr ⟨0, rfl, rfl, rfl⟩) c_253_126 rfl ?_
          refine rf_getr hS c_253_127 rfl fl_12_44 rfl h_x0 ?_
          refine rf_ild (i := 4) (Or.inl ⟨rfl, rfl⟩) c_253_130 rfl ?_
          refine rf_iconst c_253_132 ki_1 ?_
          refine rf_isub c_253_133 ?_
          refine rf_ald (i := 0) (Or.inr ⟨0, rfl, rfl, rfl⟩) c_253_134 rfl ?_
          refine rf_getr hS c_253_135 rfl fl_12_44 rfl h_x0 ?_
          refine rf_ild (i := 4) (Or.inl ⟨rfl, rfl⟩) c_253_138 rfl ?_
          refine rf_iconst c_253_140 ki_1 ?_
          refine rf_isub c_253_141 ?_
          refine rf_ite (fun hb142 => ?_) (fun _ => rf_none)
          refine rf_bald hS c_253_142 (Or.inr (tf_12_34 h_x0)) (lf_12_34 h_x0) hb142 ?_
          refine rf_ite (fun hc143 => ?_) (fun hc143 => ?_)
          · refine rf_b1t c_253_143 rfl (decide_eq_true hc143) ?_
            exact t_Mo_worth_156 hS hd ih x0 x1 x2 x3 (x4 + (-1 : Int32)) x5 (rfT x0 34) ((x4 + (-1 : Int32)) - (1 : Int32)) (.int (x1 + ((3 : Int32) * x5))) σ h_x0 (tf_12_34 h_x0) (lf_12_34 h_x0)
          · refine rf_b1f c_253_143 rfl (decide_eq_false hc143) ?_
            refine rf_ald (i := 0) (Or.inr ⟨0, rfl, rfl, rfl⟩) c_253_146 rfl ?_
            refine rf_getr hS c_253_147 rfl fl_12_44 rfl h_x0 ?_
            refine rf_ild (i := 4) (Or.inl ⟨rfl, rfl⟩) c_253_150 rfl ?_
            refine rf_ite (fun hb152 => ?_) (fun _ => rf_none)
            refine rf_bald hS c_253_152 (Or.inr (tf_12_34 h_x0)) (lf_12_34 h_x0) hb152 ?_
            refine rf_ite (fun hc153 => ?_) (fun hc153 => ?_)
            · refine rf_b1t c_253_153 rfl (decide_eq_true hc153) ?_
              refine rf_iconst c_253_160 ki_0 ?_
              exact t_Mo_worth_161 hS hd ih x0 x1 x2 x3 (x4 + (-1 : Int32)) x5 (rfT x0 34) ((x4 + (-1 : Int32)) - (1 : Int32)) (0 : Int32) (.int (x1 + ((3 : Int32) * x5))) σ h_x0 (tf_12_34 h_x0) (lf_12_34 h_x0)
            · refine rf_b1f c_253_153 rfl (decide_eq_false hc153) ?_
              exact t_Mo_worth_156 hS hd ih x0 x1 x2 x3 (x4 + (-1 : Int32)) x5 (rfT x0 34) ((x4 + (-1 : Int32)) - (1 : Int32)) (.int (x1 + ((3 : Int32) * x5))) σ h_x0 (tf_12_34 h_x0) (lf_12_34 h_x0)
        · refine rf_ite (fun hs27_10 => ?_) (fun hs27_10 => ?_)
          · refine rf_tsw (o := 25) c_253_27 (by rw [hs27_10]; decide) rfl ?_
            refine rf_ald (i := 0) (Or.inr ⟨0, rfl, rfl, rfl⟩) c_253_52 rfl ?_
            refine rf_getr hS c_253_53 rfl fl_12_44 rfl h_x0 ?_
            refine rf_ild (i := 4) (Or.inl ⟨rfl, rfl⟩) c_253_56 rfl ?_
            refine rf_iconst c_253_58 ki_1 ?_
            refine rf_isub c_253_59 ?_
            refine rf_ald (i := 0) (Or.inr ⟨0, rfl, rfl, rfl⟩) c_253_60 rfl ?_
            refine rf_getr hS c_253_61 rfl fl_12_44 rfl h_x0 ?_
            refine rf_ild (i := 4) (Or.inl ⟨rfl, rfl⟩) c_253_64 rfl ?_
            refine rf_iconst c_253_66 ki_1 ?_
            refine rf_isub c_253_67 ?_
            refine rf_ite (fun hb68 => ?_) (fun _ => rf_none)
            refine rf_bald hS c_253_68 (Or.inr (tf_12_34 h_x0)) (lf_12_34 h_x0) hb68 ?_
            refine rf_ite (fun hc69 => ?_) (fun hc69 => ?_)
            · refine rf_b1t c_253_69 rfl (decide_eq_true hc69) ?_
              refine rf_iconst c_253_76 ki_0 ?_
              exact t_Mo_worth_77 hS hd ih x0 x1 x2 x3 x4 x5 (rfT x0 34) (x4 - (1 : Int32)) (0 : Int32) (.int (x1 + ((3 : Int32) * x5))) σ h_x0 (tf_12_34 h_x0) (lf_12_34 h_x0)
            · refine rf_b1f c_253_69 rfl (decide_eq_false hc69) ?_
              refine rf_iconst c_253_72 ki_1 ?_
              refine rf_goto c_253_73 rfl ?_
              exact t_Mo_worth_77 hS hd ih x0 x1 x2 x3 x4 x5 (rfT x0 34) (x4 - (1 : Int32)) (1 : Int32) (.int (x1 + ((3 : Int32) * x5))) σ h_x0 (tf_12_34 h_x0) (lf_12_34 h_x0)
          · refine rf_tsw c_253_27 (if_pos (by have e8 := lv_neT hs27_8 (a := 8) (by decide); have e9 := lv_neT hs27_9 (a := 9) (by decide); have e10 := lv_neT hs27_10 (a := 10) (by decide); omega)) rfl ?_
            refine rf_ald (i := 0) (Or.inr ⟨0, rfl, rfl, rfl⟩) c_253_165 rfl ?_
            refine rf_getr hS c_253_166 rfl fl_12_44 rfl h_x0 ?_
            refine rf_ild (i := 4) (Or.inl ⟨rfl, rfl⟩) c_253_169 rfl ?_
            refine rf_ald (i := 0) (Or.inr ⟨0, rfl, rfl, rfl⟩) c_253_171 rfl ?_
            refine rf_ild (i := 6) (Or.inl ⟨rfl, rfl⟩) c_253_172 rfl ?_
            refine rf_ild (i := 3) (Or.inr ⟨3, rfl, rfl, rfl⟩) c_253_174 rfl ?_
            refine rf_callI (as := [.ref x0, .int (x1 + ((3 : Int32) * x5)), .int x3]) (kd := 1) c_253_175 rfl (by decide) rfl ml_12_283 (by decide) rfl (rcv_1 hS rfl rfl h_x0 (by decide)) (by simp [Value.category]) rfl rfl (t_Mo_isAtom hS (by omega) σ x0 (x1 + ((3 : Int32) * x5)) x3 h_x0) (fun v175 => ?_)
            refine rf_ite (fun hb178 => ?_) (fun _ => rf_none)
            refine rf_bast (w := (vp_nar .boolean v175)) hS c_253_178 (Or.inr ⟨(tf_12_34 h_x0), rfl⟩) (lf_12_34 h_x0) hb178 ?_
            refine rf_nm (fun σ178 => ?_)
            refine rf_iinc c_253_179 rfl ki_1 rfl ?_
            exact t_Mo_worth_182 hS hd ih x0 x1 x2 x3 (x4 + (1 : Int32)) x5 (.int (x1 + ((3 : Int32) * x5))) σ178 h_x0
def f_Mo_worth (x0 : Nat) (x1 : Int32) (x2 : Int32) (x3 : Int32) (σ : Mm) : Option (Int32 × Mm) := f_Mo_worth_6  NN x0 x1 x2 x3 (0 : Int32) (0 : Int32) σ
set_option maxRecDepth 100000 in
set_option maxHeartbeats 4000000 in
theorem t_Mo_worth_e {X : Xt} {S : Sh} (hS : ShOK S) {d : Nat} (hd : 2 ≤ d + 1) (x0 : Nat) (x1 : Int32) (x2 : Int32) (x3 : Int32) (σ : Mm) (h_x0 : tgT x0 = 12) : Rf X S emM (f_Mo_worth x0 x1 x2 x3 σ) (d + 1) 253 0 [.ref x0, .int x1, .int x2, .int x3, unset0, unset0, unset0] [] σ := by
  unfold f_Mo_worth
  refine rf_iconst c_253_0 ki_0 ?_
  refine rf_ist (i := 4) (Or.inl ⟨rfl, rfl⟩) c_253_1 (Nat.le_of_ble_eq_true rfl) rfl ?_
  refine rf_iconst c_253_3 ki_0 ?_
  refine rf_ist (i := 5) (Or.inl ⟨rfl, rfl⟩) c_253_4 (Nat.le_of_ble_eq_true rfl) rfl ?_
  exact t_Mo_worth_6 hS hd  NN x0 x1 x2 x3 (0 : Int32) (0 : Int32) (unset0) σ h_x0
theorem t_Mo_worth {X : Xt} {S : Sh} (hS : ShOK S) {d : Nat} (hd : 2 ≤ d) (x0 : Nat) (x1 : Int32) (x2 : Int32) (x3 : Int32) (σ : Mm) (h_x0 : tgT x0 = 12) : Rf X S emM (f_Mo_worth x0 x1 x2 x3 σ) d 253 0 [.ref x0, .int x1, .int x2, .int x3, unset0, unset0, unset0] [] σ := by
  obtain ⟨d1, rfl⟩ : ∃ d1, d = d1 + 1 := ⟨d - 1, by omega⟩
  exact t_Mo_worth_e hS hd x0 x1 x2 x3 σ h_x0
theorem c_254_0 : cd 254 0 = some (.aload_n 0, 1) := by decide +kernel
theorem c_254_1 : cd 254 1 = some (.iload_n 1, 1) := by decide +kernel
theorem c_254_2 : cd 254 2 = some (.iconst (0), 1) := by decide +kernel
theorem c_254_3 : cd 254 3 = some (.invokevirtual 280, 3) := by decide +kernel
theorem c_254_6 : cd 254 6 = some (.istore_n 3, 1) := by decide +kernel
theorem c_254_7 : cd 254 7 = some (.aload_n 0, 1) := by decide +kernel
theorem c_254_8 : cd 254 8 = some (.iload_n 1, 1) := by decide +kernel
theorem c_254_9 : cd 254 9 = some (.iconst (3), 1) := by decide +kernel
theorem c_254_10 : cd 254 10 = some (.invokevirtual 280, 3) := by decide +kernel
theorem c_254_13 : cd 254 13 = some (.aload_n 0, 1) := by decide +kernel
theorem c_254_14 : cd 254 14 = some (.getfield 9, 3) := by decide +kernel
theorem c_254_17 : cd 254 17 = some (.iconst (0), 1) := by decide +kernel
theorem c_254_18 : cd 254 18 = some (.iaload, 1) := by decide +kernel
theorem c_254_19 : cd 254 19 = some (.if_icmp .gt (26), 3) := by decide +kernel
theorem c_254_22 : cd 254 22 = some (.iload_n 3, 1) := by decide +kernel
theorem c_254_23 : cd 254 23 = some (.iconst (5), 1) := by decide +kernel
theorem c_254_24 : cd 254 24 = some (.if_icmp .eq (23), 3) := by decide +kernel
theorem c_254_27 : cd 254 27 = some (.aload_n 0, 1) := by decide +kernel
theorem c_254_28 : cd 254 28 = some (.iload_n 2, 1) := by decide +kernel
theorem c_254_29 : cd 254 29 = some (.iconst (0), 1) := by decide +kernel
theorem c_254_30 : cd 254 30 = some (.invokevirtual 144, 3) := by decide +kernel
theorem c_254_33 : cd 254 33 = some (.aload_n 0, 1) := by decide +kernel
theorem c_254_34 : cd 254 34 = some (.iload_n 1, 1) := by decide +kernel
theorem c_254_35 : cd 254 35 = some (.iconst (1), 1) := by decide +kernel
theorem c_254_36 : cd 254 36 = some (.invokevirtual 280, 3) := by decide +kernel
theorem c_254_39 : cd 254 39 = some (.invokestatic 151, 3) := by decide +kernel
theorem c_254_42 : cd 254 42 = some (.ifCond .ne (5), 3) := by decide +kernel
theorem c_254_45 : cd 254 45 = some (.iconst (0), 1) := by decide +kernel
theorem c_254_46 : cd 254 46 = some (.ireturn, 1) := by decide +kernel
theorem c_254_47 : cd 254 47 = some (.sipush (634), 3) := by decide +kernel
theorem c_254_50 : cd 254 50 = some (.sipush (288), 3) := by decide +kernel
theorem c_254_53 : cd 254 53 = some (.iload_n 1, 1) := by decide +kernel
theorem c_254_54 : cd 254 54 = some (.imul, 1) := by decide +kernel
theorem c_254_55 : cd 254 55 = some (.iadd, 1) := by decide +kernel
theorem c_254_56 : cd 254 56 = some (.istore 4, 2) := by decide +kernel
theorem c_254_58 : cd 254 58 = some (.aload_n 0, 1) := by decide +kernel
theorem c_254_59 : cd 254 59 = some (.iload_n 1, 1) := by decide +kernel
theorem c_254_60 : cd 254 60 = some (.iconst (5), 1) := by decide +kernel
theorem c_254_61 : cd 254 61 = some (.invokevirtual 280, 3) := by decide +kernel
theorem c_254_64 : cd 254 64 = some (.ifCond .lt (19), 3) := by decide +kernel
theorem c_254_67 : cd 254 67 = some (.aload_n 0, 1) := by decide +kernel
theorem c_254_68 : cd 254 68 = some (.iload 4, 2) := by decide +kernel
theorem c_254_70 : cd 254 70 = some (.aload_n 0, 1) := by decide +kernel
theorem c_254_71 : cd 254 71 = some (.iload_n 1, 1) := by decide +kernel
theorem c_254_72 : cd 254 72 = some (.iconst (5), 1) := by decide +kernel
theorem c_254_73 : cd 254 73 = some (.invokevirtual 280, 3) := by decide +kernel
theorem c_254_76 : cd 254 76 = some (.iload_n 2, 1) := by decide +kernel
theorem c_254_77 : cd 254 77 = some (.invokevirtual 286, 3) := by decide +kernel
theorem c_254_80 : cd 254 80 = some (.ifCond .eq (7), 3) := by decide +kernel
theorem c_254_83 : cd 254 83 = some (.iconst (1), 1) := by decide +kernel
theorem c_254_84 : cd 254 84 = some (.goto (4), 3) := by decide +kernel
theorem c_254_87 : cd 254 87 = some (.iconst (0), 1) := by decide +kernel
theorem c_254_88 : cd 254 88 = some (.istore 5, 2) := by decide +kernel
theorem c_254_90 : cd 254 90 = some (.iload 5, 2) := by decide +kernel
theorem c_254_92 : cd 254 92 = some (.ifCond .eq (38), 3) := by decide +kernel
theorem c_254_95 : cd 254 95 = some (.aload_n 0, 1) := by decide +kernel
theorem c_254_96 : cd 254 96 = some (.iload_n 1, 1) := by decide +kernel
theorem c_254_97 : cd 254 97 = some (.bipush (6), 2) := by decide +kernel
theorem c_254_99 : cd 254 99 = some (.invokevirtual 280, 3) := by decide +kernel
theorem c_254_102 : cd 254 102 = some (.ifCond .lt (24), 3) := by decide +kernel
theorem c_254_105 : cd 254 105 = some (.aload_n 0, 1) := by decide +kernel
theorem c_254_106 : cd 254 106 = some (.iload 4, 2) := by decide +kernel
theorem c_254_108 : cd 254 108 = some (.sipush (144), 3) := by decide +kernel
theorem c_254_111 : cd 254 111 = some (.iadd, 1) := by decide +kernel
theorem c_254_112 : cd 254 112 = some (.aload_n 0, 1) := by decide +kernel
theorem c_254_113 : cd 254 113 = some (.iload_n 1, 1) := by decide +kernel
theorem c_254_114 : cd 254 114 = some (.bipush (6), 2) := by decide +kernel
theorem c_254_116 : cd 254 116 = some (.invokevirtual 280, 3) := by decide +kernel
theorem c_254_119 : cd 254 119 = some (.iload_n 2, 1) := by decide +kernel
theorem c_254_120 : cd 254 120 = some (.invokevirtual 286, 3) := by decide +kernel
theorem c_254_123 : cd 254 123 = some (.ifCond .ne (7), 3) := by decide +kernel
theorem c_254_126 : cd 254 126 = some (.iconst (1), 1) := by decide +kernel
theorem c_254_127 : cd 254 127 = some (.goto (4), 3) := by decide +kernel
theorem c_254_130 : cd 254 130 = some (.iconst (0), 1) := by decide +kernel
theorem c_254_131 : cd 254 131 = some (.ireturn, 1) := by decide +kernel
def f_Mo_wouldCount_45 (σ : Mm) : Option (Int32 × Mm) := some ((0 : Int32), σ)
set_option maxRecDepth 100000 in
set_option maxHeartbeats 4000000 in
theorem t_Mo_wouldCount_45 {X : Xt} {S : Sh} (hS : ShOK S) {d : Nat} (hd : 3 ≤ d + 1) (u0 : Value) (u1 : Value) (u2 : Value) (u3 : Value) (u4 : Value) (u5 : Value) (σ : Mm) : Rf X S emM (f_Mo_wouldCount_45 σ) (d + 1) 254 45 [u0, u1, u2, u3, u4, u5] [] σ := by
  unfold f_Mo_wouldCount_45
  refine rf_iconst c_254_45 ki_0 ?_
  exact rf_ret c_254_46 rfl (by decide) rfl rfl
def f_Mo_wouldCount_131 (y0 : Int32) (σ : Mm) : Option (Int32 × Mm) := if zB y0 = true then some (y0, σ) else none
set_option maxRecDepth 100000 in
set_option maxHeartbeats 4000000 in
theorem t_Mo_wouldCount_131 {X : Xt} {S : Sh} (hS : ShOK S) {d : Nat} (hd : 3 ≤ d + 1) (y0 : Int32) (u0 : Value) (u1 : Value) (u2 : Value) (u3 : Value) (u4 : Value) (u5 : Value) (σ : Mm) : Rf X S emM (f_Mo_wouldCount_131 y0 σ) (d + 1) 254 131 [u0, u1, u2, u3, u4, u5] [.int y0] σ := by
  unfold f_Mo_wouldCount_131
  refine rf_ite (fun hq131 => ?_) (fun _ => rf_none)
  exact rf_ret c_254_131 rfl (zB_n hq131) rfl rfl
def f_Mo_wouldCount_126 (σ : Mm) : Option (Int32 × Mm) := f_Mo_wouldCount_131  (1 : Int32) σ
set_option maxRecDepth 100000 in
set_option maxHeartbeats 4000000 in
theorem t_Mo_wouldCount_126 {X : Xt} {S : Sh} (hS : ShOK S) {d : Nat} (hd : 3 ≤ d + 1) (u0 : Value) (u1 : Value) (u2 : Value) (u3 : Value) (u4 : Value) (u5 : Value) (σ : Mm) : Rf X S emM (f_Mo_wouldCount_126 σ) (d + 1) 254 126 [u0, u1, u2, u3, u4, u5] [] σ := by
  unfold f_Mo_wouldCount_126
  refine rf_iconst c_254_126 ki_1 ?_
  refine rf_goto c_254_127 rfl ?_
  exact t_Mo_wouldCount_131 hS hd  (1 : Int32) (u0) (u1) (u2) (u3) (u4) (u5) σ
def f_Mo_wouldCount_130 (σ : Mm) : Option (Int32 × Mm) := f_Mo_wouldCount_131  (0 : Int32) σ
set_option maxRecDepth 100000 in
set_option maxHeartbeats 4000000 in
theorem t_Mo_wouldCount_130 {X : Xt} {S : Sh} (hS : ShOK S) {d : Nat} (hd : 3 ≤ d + 1) (u0 : Value) (u1 : Value) (u2 : Value) (u3 : Value) (u4 : Value) (u5 : Value) (σ : Mm) : Rf X S emM (f_Mo_wouldCount_130 σ) (d + 1) 254 130 [u0, u1, u2, u3, u4, u5] [] σ := by
  unfold f_Mo_wouldCount_130
  refine rf_iconst c_254_130 ki_0 ?_
  exact t_Mo_wouldCount_131 hS hd  (0 : Int32) (u0) (u1) (u2) (u3) (u4) (u5) σ
def f_Mo_wouldCount_88 (x0 : Nat) (x1 : Int32) (x2 : Int32) (x4 : Int32) (y0 : Int32) (σ : Mm) : Option (Int32 × Mm) := (if y0 = 0 then (f_Mo_wouldCount_130  σ) else ((f_Mo_ruleOf σ x0 x1 (6 : Int32)).bind fun v99 => (if v99 < 0 then (f_Mo_wouldCount_126  σ) else ((f_Mo_ruleOf σ x0 x1 (6 : Int32)).bind fun v116 => (f_Mo_worth x0 (x4 + (144 : Int32)) v116 x2 σ).bind fun v120 => (if ¬ v120.1 = 0 then (f_Mo_wouldCount_130  v120.2) else (f_Mo_wouldCount_126  v120.2))))))
set_option maxRecDepth 100000 in
set_option maxHeartbeats 4000000 in
theorem t_Mo_wouldCount_88 {X : Xt} {S : Sh} (hS : ShOK S) {d : Nat} (hd : 3 ≤ d + 1) (x0 : Nat) (x1 : Int32) (x2 : Int32) (x4 : Int32) (y0 : Int32) (u3 : Value) (u5 : Value) (σ : Mm) (h_x0 : tgT x0 = 12) : Rf X S emM (f_Mo_wouldCount_88 x0 x1 x2 x4 y0 σ) (d + 1) 254 88 [.ref x0, .int x1, .int x2, u3, .int x4, u5] [.int y0] σ := by
  unfold f_Mo_wouldCount_88
  refine rf_ist (i := 5) (Or.inl ⟨rfl, rfl⟩) c_254_88 (Nat.le_of_ble_eq_true rfl) rfl ?_
  refine rf_ild (i := 5) (Or.inl ⟨rfl, rfl⟩) c_254_90 rfl ?_
  refine rf_ite (fun hc92 => ?_) (fun hc92 => ?_)
  · refine rf_b1t c_254_92 rfl (decide_eq_true hc92) ?_
    exact t_Mo_wouldCount_130 hS hd  (.ref x0) (.int x1) (.int x2) (u3) (.int x4) (.int y0) σ
  · refine rf_b1f c_254_92 rfl (decide_eq_false hc92) ?_
    refine rf_ald (i := 0) (Or.inr ⟨0, rfl, rfl, rfl⟩) c_254_95 rfl ?_
    refine rf_ild (i := 1) (Or.inr ⟨1, rfl, rfl, rfl⟩) c_254_96 rfl ?_
    refine rf_bipush c_254_97 kb_6 ?_
    refine rf_callI (as := [.ref x0, .int x1, .int (6 : Int32)]) (kd := 1) c_254_99 rfl (by decide) rfl ml_12_280 (by decide) rfl (rcv_1 hS rfl rfl h_x0 (by decide)) (Nat.zero_le _) rfl rfl (t_Mo_ruleOf hS (by omega) σ x0 x1 (6 : Int32) h_x0) (fun v99 => ?_)
    refine rf_ite (fun hc102 => ?_) (fun hc102 => ?_)
    · refine rf_b1t c_254_102 rfl (decide_eq_true hc102) ?_
      exact t_Mo_wouldCount_126 hS hd  (.ref x0) (.int x1) (.int x2) (u3) (.int x4) (.int y0) σ
    · refine rf_b1f c_254_102 rfl (decide_eq_false hc102) ?_
      refine rf_ald (i := 0) (Or.inr ⟨0, rfl, rfl, rfl⟩) c_254_105 rfl ?_
      refine rf_ild (i := 4) (Or.inl ⟨rfl, rfl⟩) c_254_106 rfl ?_
      refine rf_sipush c_254_108 ks_144 ?_
      refine rf_iadd c_254_111 ?_
      refine rf_ald (i := 0) (Or.inr ⟨0, rfl, rfl, rfl⟩) c_254_112 rfl ?_
      refine rf_ild (i := 1) (Or.inr ⟨1, rfl, rfl, rfl⟩) c_254_113 rfl ?_
      refine rf_bipush c_254_114 kb_6 ?_
      refine rf_callI (as := [.ref x0, .int x1, .int (6 : Int32)]) (kd := 1) c_254_116 rfl (by decide) rfl ml_12_280 (by decide) rfl (rcv_1 hS rfl rfl h_x0 (by decide)) (by simp [Value.category]) rfl rfl (t_Mo_ruleOf hS (by omega) σ x0 x1 (6 : Int32) h_x0) (fun v116 => ?_)
      refine rf_ild (i := 2) (Or.inr ⟨2, rfl, rfl, rfl⟩) c_254_119 rfl ?_
      refine rf_callM (as := [.ref x0, .int (x4 + (144 : Int32)), .int v116, .int x2]) (kd := 1) c_254_120 rfl (by decide) rfl ml_12_286 (by decide) rfl (rcv_1 hS rfl rfl h_x0 (by decide)) (Nat.zero_le _) rfl rfl (t_Mo_worth hS (by omega) x0 (x4 + (144 : Int32)) v116 x2 σ h_x0) (fun v120 => ?_)
      refine rf_ite (fun hc123 => ?_) (fun hc123 => ?_)
      · refine rf_b1t c_254_123 rfl (decide_eq_true hc123) ?_
        exact t_Mo_wouldCount_130 hS hd  (.ref x0) (.int x1) (.int x2) (u3) (.int x4) (.int y0) v120.2
      · refine rf_b1f c_254_123 rfl (decide_eq_false hc123) ?_
        exact t_Mo_wouldCount_126 hS hd  (.ref x0) (.int x1) (.int x2) (u3) (.int x4) (.int y0) v120.2
def f_Mo_wouldCount_83 (x0 : Nat) (x1 : Int32) (x2 : Int32) (x4 : Int32) (σ : Mm) : Option (Int32 × Mm) := f_Mo_wouldCount_88  x0 x1 x2 x4 (1 : Int32) σ
set_option maxRecDepth 100000 in
set_option maxHeartbeats 4000000 in
theorem t_Mo_wouldCount_83 {X : Xt} {S : Sh} (hS : ShOK S) {d : Nat} (hd : 3 ≤ d + 1) (x0 : Nat) (x1 : Int32) (x2 : Int32) (x4 : Int32) (u3 : Value) (u5 : Value) (σ : Mm) (h_x0 : tgT x0 = 12) : Rf X S emM (f_Mo_wouldCount_83 x0 x1 x2 x4 σ) (d + 1) 254 83 [.ref x0, .int x1, .int x2, u3, .int x4, u5] [] σ := by
  unfold f_Mo_wouldCount_83
  refine rf_iconst c_254_83 ki_1 ?_
  refine rf_goto c_254_84 rfl ?_
  exact t_Mo_wouldCount_88 hS hd  x0 x1 x2 x4 (1 : Int32) (u3) (u5) σ h_x0
def f_Mo_wouldCount_47 (x0 : Nat) (x1 : Int32) (x2 : Int32) (σ : Mm) : Option (Int32 × Mm) := (f_Mo_ruleOf σ x0 x1 (5 : Int32)).bind fun v61 => (if v61 < 0 then (f_Mo_wouldCount_83  x0 x1 x2 ((634 : Int32) + ((288 : Int32) * x1)) σ) else ((f_Mo_ruleOf σ x0 x1 (5 : Int32)).bind fun v73 => (f_Mo_worth x0 ((634 : Int32) + ((288 : Int32) * x1)) v73 x2 σ).bind fun v77 => (if v77.1 = 0 then (f_Mo_wouldCount_88  x0 x1 x2 ((634 : Int32) + ((288 : Int32) * x1)) (0 : Int32) v77.2) else (f_Mo_wouldCount_83  x0 x1 x2 ((634 : Int32) + ((288 : Int32) * x1)) v77.2))))
set_option maxRecDepth 100000 in
set_option maxHeartbeats 4000000 in
theorem t_Mo_wouldCount_47 {X : Xt} {S : Sh} (hS : ShOK S) {d : Nat} (hd : 3 ≤ d + 1) (x0 : Nat) (x1 : Int32) (x2 : Int32) (u3 : Value) (u4 : Value) (u5 : Value) (σ : Mm) (h_x0 : tgT x0 = 12) : Rf X S emM (f_Mo_wouldCount_47 x0 x1 x2 σ) (d + 1) 254 47 [.ref x0, .int x1, .int x2, u3, u4, u5] [] σ := by
  unfold f_Mo_wouldCount_47
  refine rf_sipush c_254_47 ks_634 ?_
  refine rf_sipush c_254_50 ks_288 ?_
  refine rf_ild (i := 1) (Or.inr ⟨1, rfl, rfl, rfl⟩) c_254_53 rfl ?_
  refine rf_imul c_254_54 ?_
  refine rf_iadd c_254_55 ?_
  refine rf_ist (i := 4) (Or.inl ⟨rfl, rfl⟩) c_254_56 (Nat.le_of_ble_eq_true rfl) rfl ?_
  refine rf_ald (i := 0) (Or.inr ⟨0, rfl, rfl, rfl⟩) c_254_58 rfl ?_
  refine rf_ild (i := 1) (Or.inr ⟨1, rfl, rfl, rfl⟩) c_254_59 rfl ?_
  refine rf_iconst c_254_60 ki_5 ?_
  refine rf_callI (as := [.ref x0, .int x1, .int (5 : Int32)]) (kd := 1) c_254_61 rfl (by decide) rfl ml_12_280 (by decide) rfl (rcv_1 hS rfl rfl h_x0 (by decide)) (Nat.zero_le _) rfl rfl (t_Mo_ruleOf hS (by omega) σ x0 x1 (5 : Int32) h_x0) (fun v61 => ?_)
  refine rf_ite (fun hc64 => ?_) (fun hc64 => ?_)
  · refine rf_b1t c_254_64 rfl (decide_eq_true hc64) ?_
    exact t_Mo_wouldCount_83 hS hd  x0 x1 x2 ((634 : Int32) + ((288 : Int32) * x1)) (u3) (u5) σ h_x0
  · refine rf_b1f c_254_64 rfl (decide_eq_false hc64) ?_
    refine rf_ald (i := 0) (Or.inr ⟨0, rfl, rfl, rfl⟩) c_254_67 rfl ?_
    refine rf_ild (i := 4) (Or.inl ⟨rfl, rfl⟩) c_254_68 rfl ?_
    refine rf_ald (i := 0) (Or.inr ⟨0, rfl, rfl, rfl⟩) c_254_70 rfl ?_
    refine rf_ild (i := 1) (Or.inr ⟨1, rfl, rfl, rfl⟩) c_254_71 rfl ?_
    refine rf_iconst c_254_72 ki_5 ?_
    refine rf_callI (as := [.ref x0, .int x1, .int (5 : Int32)]) (kd := 1) c_254_73 rfl (by decide) rfl ml_12_280 (by decide) rfl (rcv_1 hS rfl rfl h_x0 (by decide)) (by simp [Value.category]) rfl rfl (t_Mo_ruleOf hS (by omega) σ x0 x1 (5 : Int32) h_x0) (fun v73 => ?_)
    refine rf_ild (i := 2) (Or.inr ⟨2, rfl, rfl, rfl⟩) c_254_76 rfl ?_
    refine rf_callM (as := [.ref x0, .int ((634 : Int32) + ((288 : Int32) * x1)), .int v73, .int x2]) (kd := 1) c_254_77 rfl (by decide) rfl ml_12_286 (by decide) rfl (rcv_1 hS rfl rfl h_x0 (by decide)) (Nat.zero_le _) rfl rfl (t_Mo_worth hS (by omega) x0 ((634 : Int32) + ((288 : Int32) * x1)) v73 x2 σ h_x0) (fun v77 => ?_)
    refine rf_ite (fun hc80 => ?_) (fun hc80 => ?_)
    · refine rf_b1t c_254_80 rfl (decide_eq_true hc80) ?_
      refine rf_iconst c_254_87 ki_0 ?_
      exact t_Mo_wouldCount_88 hS hd  x0 x1 x2 ((634 : Int32) + ((288 : Int32) * x1)) (0 : Int32) (u3) (u5) v77.2 h_x0
    · refine rf_b1f c_254_80 rfl (decide_eq_false hc80) ?_
      exact t_Mo_wouldCount_83 hS hd  x0 x1 x2 ((634 : Int32) + ((288 : Int32) * x1)) (u3) (u5) v77.2 h_x0
def f_Mo_wouldCount (x0 : Nat) (x1 : Int32) (x2 : Int32) (σ : Mm) : Option (Int32 × Mm) := (f_Mo_ruleOf σ x0 x1 (0 : Int32)).bind fun v3 => (f_Mo_ruleOf σ x0 x1 (3 : Int32)).bind fun v10 => (if (σ (rfT x0 0) (ix (0 : Int32))) < v10 then (f_Mo_wouldCount_45  σ) else (if v3 = (5 : Int32) then (f_Mo_wouldCount_47  x0 x1 x2 σ) else ((f_Mo_paperOf σ x0 x2 (0 : Int32)).bind fun v30 => (f_Mo_ruleOf σ x0 x1 (1 : Int32)).bind fun v36 => (f_Mo_isUnder σ v30 v36).bind fun v39 => (if ¬ v39 = 0 then (f_Mo_wouldCount_47  x0 x1 x2 σ) else (f_Mo_wouldCount_45  σ)))))
set_option maxRecDepth 100000 in
set_option maxHeartbeats 4000000 in
theorem t_Mo_wouldCount_e {X : Xt} {S : Sh} (hS : ShOK S) {d : Nat} (hd : 3 ≤ d + 1) (x0 : Nat) (x1 : Int32) (x2 : Int32) (σ : Mm) (h_x0 : tgT x0 = 12) : Rf X S emM (f_Mo_wouldCount x0 x1 x2 σ) (d + 1) 254 0 [.ref x0, .int x1, .int x2, unset0, unset0, unset0] [] σ := by
  unfold f_Mo_wouldCount
  refine rf_ald (i := 0) (Or.inr ⟨0, rfl, rfl, rfl⟩) c_254_0 rfl ?_
  refine rf_ild (i := 1) (Or.inr ⟨1, rfl, rfl, rfl⟩) c_254_1 rfl ?_
  refine rf_iconst c_254_2 ki_0 ?_
  refine rf_callI (as := [.ref x0, .int x1, .int (0 : Int32)]) (kd := 1) c_254_3 rfl (by decide) rfl ml_12_280 (by decide) rfl (rcv_1 hS rfl rfl h_x0 (by decide)) (Nat.zero_le _) rfl rfl (t_Mo_ruleOf hS (by omega) σ x0 x1 (0 : Int32) h_x0) (fun v3 => ?_)
  refine rf_ist (i := 3) (Or.inr ⟨3, rfl, rfl, rfl⟩) c_254_6 (Nat.le_of_ble_eq_true rfl) rfl ?_
  refine rf_ald (i := 0) (Or.inr ⟨0, rfl, rfl, rfl⟩) c_254_7 rfl ?_
  refine rf_ild (i := 1) (Or.inr ⟨1, rfl, rfl, rfl⟩) c_254_8 rfl ?_
  refine rf_iconst c_254_9 ki_3 ?_
  refine rf_callI (as := [.ref x0, .int x1, .int (3 : Int32)]) (kd := 1) c_254_10 rfl (by decide) rfl ml_12_280 (by decide) rfl (rcv_1 hS rfl rfl h_x0 (by decide)) (Nat.zero_le _) rfl rfl (t_Mo_ruleOf hS (by omega) σ x0 x1 (3 : Int32) h_x0) (fun v10 => ?_)
  refine rf_ald (i := 0) (Or.inr ⟨0, rfl, rfl, rfl⟩) c_254_13 rfl ?_
  refine rf_getr hS c_254_14 rfl fl_12_9 rfl h_x0 ?_
  refine rf_iconst c_254_17 ki_0 ?_
  refine rf_iald hS c_254_18 (tf_12_0 h_x0) (lf_12_0 h_x0) (by decide) ?_
  refine rf_ite (fun hc19 => ?_) (fun hc19 => ?_)
  · refine rf_b2t c_254_19 rfl (decide_eq_true hc19) ?_
    exact t_Mo_wouldCount_45 hS hd  (.ref x0) (.int x1) (.int x2) (.int v3) (unset0) (unset0) σ
  · refine rf_b2f c_254_19 rfl (decide_eq_false hc19) ?_
    refine rf_ild (i := 3) (Or.inr ⟨3, rfl, rfl, rfl⟩) c_254_22 rfl ?_
    refine rf_iconst c_254_23 ki_5 ?_
    refine rf_ite (fun hc24 => ?_) (fun hc24 => ?_)
    · refine rf_b2t c_254_24 rfl (decide_eq_true hc24) ?_
      exact t_Mo_wouldCount_47 hS hd  x0 x1 x2 (.int v3) (unset0) (unset0) σ h_x0
    · refine rf_b2f c_254_24 rfl (decide_eq_false hc24) ?_
      refine rf_ald (i := 0) (Or.inr ⟨0, rfl, rfl, rfl⟩) c_254_27 rfl ?_
      refine rf_ild (i := 2) (Or.inr ⟨2, rfl, rfl, rfl⟩) c_254_28 rfl ?_
      refine rf_iconst c_254_29 ki_0 ?_
      refine rf_callI (as := [.ref x0, .int x2, .int (0 : Int32)]) (kd := 1) c_254_30 rfl (by decide) rfl ml_12_144 (by decide) rfl (rcv_1 hS rfl rfl h_x0 (by decide)) (Nat.zero_le _) rfl rfl (t_Mo_paperOf hS (by omega) σ x0 x2 (0 : Int32) h_x0) (fun v30 => ?_)
      refine rf_ald (i := 0) (Or.inr ⟨0, rfl, rfl, rfl⟩) c_254_33 rfl ?_
      refine rf_ild (i := 1) (Or.inr ⟨1, rfl, rfl, rfl⟩) c_254_34 rfl ?_
      refine rf_iconst c_254_35 ki_1 ?_
      refine rf_callI (as := [.ref x0, .int x1, .int (1 : Int32)]) (kd := 1) c_254_36 rfl (by decide) rfl ml_12_280 (by decide) rfl (rcv_1 hS rfl rfl h_x0 (by decide)) (by simp [Value.category]) rfl rfl (t_Mo_ruleOf hS (by omega) σ x0 x1 (1 : Int32) h_x0) (fun v36 => ?_)
      refine rf_callI (as := [.int v30, .int v36]) (kd := 0) c_254_39 rfl (by decide) rfl ml_12_151 (by decide) rfl (rcv_0 rfl) (Nat.zero_le _) rfl rfl (t_Mo_isUnder hS (by omega) σ v30 v36) (fun v39 => ?_)
      refine rf_ite (fun hc42 => ?_) (fun hc42 => ?_)
      · refine rf_b1t c_254_42 rfl (decide_eq_true hc42) ?_
        exact t_Mo_wouldCount_47 hS hd  x0 x1 x2 (.int v3) (unset0) (unset0) σ h_x0
      · refine rf_b1f c_254_42 rfl (decide_eq_false hc42) ?_
        exact t_Mo_wouldCount_45 hS hd  (.ref x0) (.int x1) (.int x2) (.int v3) (unset0) (unset0) σ
theorem t_Mo_wouldCount {X : Xt} {S : Sh} (hS : ShOK S) {d : Nat} (hd : 3 ≤ d) (x0 : Nat) (x1 : Int32) (x2 : Int32) (σ : Mm) (h_x0 : tgT x0 = 12) : Rf X S emM (f_Mo_wouldCount x0 x1 x2 σ) d 254 0 [.ref x0, .int x1, .int x2, unset0, unset0, unset0] [] σ := by
  obtain ⟨d1, rfl⟩ : ∃ d1, d = d1 + 1 := ⟨d - 1, by omega⟩
  exact t_Mo_wouldCount_e hS hd x0 x1 x2 σ h_x0
theorem c_255_0 : cd 255 0 = some (.iconst (0), 1) := by decide +kernel
theorem c_255_1 : cd 255 1 = some (.istore_n 2, 1) := by decide +kernel
theorem c_255_2 : cd 255 2 = some (.aload_n 0, 1) := by decide +kernel
theorem c_255_3 : cd 255 3 = some (.getfield 9, 3) := by decide +kernel
theorem c_255_6 : cd 255 6 = some (.iconst (5), 1) := by decide +kernel
theorem c_255_7 : cd 255 7 = some (.iaload, 1) := by decide +kernel
theorem c_255_8 : cd 255 8 = some (.iconst (1), 1) := by decide +kernel
theorem c_255_9 : cd 255 9 = some (.isub, 1) := by decide +kernel
theorem c_255_10 : cd 255 10 = some (.istore_n 3, 1) := by decide +kernel
theorem c_255_11 : cd 255 11 = some (.iload_n 3, 1) := by decide +kernel
theorem c_255_12 : cd 255 12 = some (.ifCond .lt (71), 3) := by decide +kernel
theorem c_255_15 : cd 255 15 = some (.aload_n 0, 1) := by decide +kernel
theorem c_255_16 : cd 255 16 = some (.getfield 48, 3) := by decide +kernel
theorem c_255_19 : cd 255 19 = some (.iload_n 3, 1) := by decide +kernel
theorem c_255_20 : cd 255 20 = some (.iload_n 2, 1) := by decide +kernel
theorem c_255_21 : cd 255 21 = some (.iload_n 3, 1) := by decide +kernel
theorem c_255_22 : cd 255 22 = some (.ishr, 1) := by decide +kernel
theorem c_255_23 : cd 255 23 = some (.iconst (1), 1) := by decide +kernel
theorem c_255_24 : cd 255 24 = some (.iand, 1) := by decide +kernel
theorem c_255_25 : cd 255 25 = some (.ifCond .ne (16), 3) := by decide +kernel
theorem c_255_28 : cd 255 28 = some (.aload_n 0, 1) := by decide +kernel
theorem c_255_29 : cd 255 29 = some (.iload_n 3, 1) := by decide +kernel
theorem c_255_30 : cd 255 30 = some (.iload_n 1, 1) := by decide +kernel
theorem c_255_31 : cd 255 31 = some (.invokevirtual 289, 3) := by decide +kernel
theorem c_255_34 : cd 255 34 = some (.ifCond .eq (7), 3) := by decide +kernel
theorem c_255_37 : cd 255 37 = some (.iconst (1), 1) := by decide +kernel
theorem c_255_38 : cd 255 38 = some (.goto (4), 3) := by decide +kernel
theorem c_255_41 : cd 255 41 = some (.iconst (0), 1) := by decide +kernel
theorem c_255_42 : cd 255 42 = some (.bastore, 1) := by decide +kernel
theorem c_255_43 : cd 255 43 = some (.iload_n 2, 1) := by decide +kernel
theorem c_255_44 : cd 255 44 = some (.aload_n 0, 1) := by decide +kernel
theorem c_255_45 : cd 255 45 = some (.getfield 48, 3) := by decide +kernel
theorem c_255_48 : cd 255 48 = some (.iload_n 3, 1) := by decide +kernel
theorem c_255_49 : cd 255 49 = some (.baload, 1) := by decide +kernel
theorem c_255_50 : cd 255 50 = some (.ifCond .eq (24), 3) := by decide +kernel
theorem c_255_53 : cd 255 53 = some (.aload_n 0, 1) := by decide +kernel
theorem c_255_54 : cd 255 54 = some (.iload_n 3, 1) := by decide +kernel
theorem c_255_55 : cd 255 55 = some (.iconst (0), 1) := by decide +kernel
theorem c_255_56 : cd 255 56 = some (.invokevirtual 280, 3) := by decide +kernel
theorem c_255_59 : cd 255 59 = some (.iconst (5), 1) := by decide +kernel
theorem c_255_60 : cd 255 60 = some (.if_icmp .ne (14), 3) := by decide +kernel
theorem c_255_63 : cd 255 63 = some (.iconst (1), 1) := by decide +kernel
theorem c_255_64 : cd 255 64 = some (.aload_n 0, 1) := by decide +kernel
theorem c_255_65 : cd 255 65 = some (.iload_n 3, 1) := by decide +kernel
theorem c_255_66 : cd 255 66 = some (.iconst (1), 1) := by decide +kernel
theorem c_255_67 : cd 255 67 = some (.invokevirtual 280, 3) := by decide +kernel
theorem c_255_70 : cd 255 70 = some (.ishl, 1) := by decide +kernel
theorem c_255_71 : cd 255 71 = some (.goto (4), 3) := by decide +kernel
theorem c_255_74 : cd 255 74 = some (.iconst (0), 1) := by decide +kernel
theorem c_255_75 : cd 255 75 = some (.ior, 1) := by decide +kernel
theorem c_255_76 : cd 255 76 = some (.istore_n 2, 1) := by decide +kernel
theorem c_255_77 : cd 255 77 = some (.iinc 3 (-1), 3) := by decide +kernel
theorem c_255_80 : cd 255 80 = some (.goto (-69), 3) := by decide +kernel
theorem c_255_83 : cd 255 83 = some (.return_, 1) := by decide +kernel
def f_Mo_findCounted_75 (k11 : Nat → Int32 → Int32 → Int32 → Mm → Option (Mm)) (x0 : Nat) (x1 : Int32) (x3 : Int32) (y0 : Int32) (y1 : Int32) (σ : Mm) : Option Mm := k11 x0 x1 (y0 ||| y1) (x3 + (-1 : Int32)) σ
set_option maxRecDepth 100000 in
set_option maxHeartbeats 4000000 in
theorem t_Mo_findCounted_75 {X : Xt} {S : Sh} (hS : ShOK S) {d : Nat} (hd : 4 ≤ d + 1) {k11 : Nat → Int32 → Int32 → Int32 → Mm → Option (Mm)} (hk11 : ∀ (x0 : Nat) (x1 : Int32) (x2 : Int32) (x3 : Int32) (σ : Mm) (h_x0 : tgT x0 = 12), Rf X S emV (k11 x0 x1 x2 x3 σ) (d + 1) 255 11 [.ref x0, .int x1, .int x2, .int x3] [] σ) (x0 : Nat) (x1 : Int32) (x3 : Int32) (y0 : Int32) (y1 : Int32) (u2 : Value) (σ : Mm) (h_x0 : tgT x0 = 12) : Rf X S emV (f_Mo_findCounted_75 k11 x0 x1 x3 y0 y1 σ) (d + 1) 255 75 [.ref x0, .int x1, u2, .int x3] [.int y1, .int y0] σ := by
  unfold f_Mo_findCounted_75
  refine rf_ior c_255_75 ?_
  refine rf_ist (i := 2) (Or.inr ⟨2, rfl, rfl, rfl⟩) c_255_76 (Nat.le_of_ble_eq_true rfl) rfl ?_
  refine rf_iinc c_255_77 rfl ki_m1 rfl ?_
  refine rf_goto c_255_80 rfl ?_
  exact hk11 x0 x1 (y0 ||| y1) (x3 + (-1 : Int32)) σ h_x0
def f_Mo_findCounted_74 (k11 : Nat → Int32 → Int32 → Int32 → Mm → Option (Mm)) (x0 : Nat) (x1 : Int32) (x3 : Int32) (y0 : Int32) (σ : Mm) : Option Mm := f_Mo_findCounted_75 k11 x0 x1 x3 y0 (0 : Int32) σ
set_option maxRecDepth 100000 in
set_option maxHeartbeats 4000000 in
theorem t_Mo_findCounted_74 {X : Xt} {S : Sh} (hS : ShOK S) {d : Nat} (hd : 4 ≤ d + 1) {k11 : Nat → Int32 → Int32 → Int32 → Mm → Option (Mm)} (hk11 : ∀ (x0 : Nat) (x1 : Int32) (x2 : Int32) (x3 : Int32) (σ : Mm) (h_x0 : tgT x0 = 12), Rf X S emV (k11 x0 x1 x2 x3 σ) (d + 1) 255 11 [.ref x0, .int x1, .int x2, .int x3] [] σ) (x0 : Nat) (x1 : Int32) (x3 : Int32) (y0 : Int32) (u2 : Value) (σ : Mm) (h_x0 : tgT x0 = 12) : Rf X S emV (f_Mo_findCounted_74 k11 x0 x1 x3 y0 σ) (d + 1) 255 74 [.ref x0, .int x1, u2, .int x3] [.int y0] σ := by
  unfold f_Mo_findCounted_74
  refine rf_iconst c_255_74 ki_0 ?_
  exact t_Mo_findCounted_75 hS hd hk11 x0 x1 x3 y0 (0 : Int32) (u2) σ h_x0
def f_Mo_findCounted_42 (k11 : Nat → Int32 → Int32 → Int32 → Mm → Option (Mm)) (x0 : Nat) (x1 : Int32) (x2 : Int32) (x3 : Int32) (y0 : Nat) (y1 : Int32) (y2 : Int32) (σ : Mm) : Option Mm := if inbB y1 16 = true then nmM (up2 σ y0 (ix y1) (vp_nar .boolean y2)) fun σ42 => if inbB x3 16 = true then (if (σ42 (rfT x0 35) (ix x3)) = 0 then (f_Mo_findCounted_74 k11 x0 x1 x3 x2 σ42) else ((f_Mo_ruleOf σ42 x0 x3 (0 : Int32)).bind fun v56 => (if ¬ v56 = (5 : Int32) then (f_Mo_findCounted_74 k11 x0 x1 x3 x2 σ42) else ((f_Mo_ruleOf σ42 x0 x3 (1 : Int32)).bind fun v67 => f_Mo_findCounted_75 k11 x0 x1 x3 x2 ((1 : Int32) <<< (v67 &&& 31)) σ42)))) else none else none
set_option maxRecDepth 100000 in
set_option maxHeartbeats 4000000 in
theorem t_Mo_findCounted_42 {X : Xt} {S : Sh} (hS : ShOK S) {d : Nat} (hd : 4 ≤ d + 1) {k11 : Nat → Int32 → Int32 → Int32 → Mm → Option (Mm)} (hk11 : ∀ (x0 : Nat) (x1 : Int32) (x2 : Int32) (x3 : Int32) (σ : Mm) (h_x0 : tgT x0 = 12), Rf X S emV (k11 x0 x1 x2 x3 σ) (d + 1) 255 11 [.ref x0, .int x1, .int x2, .int x3] [] σ) (x0 : Nat) (x1 : Int32) (x2 : Int32) (x3 : Int32) (y0 : Nat) (y1 : Int32) (y2 : Int32) (σ : Mm) (h_x0 : tgT x0 = 12) (h_y0 : tgT y0 = 22) (l_y0 : lnT y0 = 16) : Rf X S emV (f_Mo_findCounted_42 k11 x0 x1 x2 x3 y0 y1 y2 σ) (d + 1) 255 42 [.ref x0, .int x1, .int x2, .int x3] [.int y2, .int y1, .ref y0] σ := by
  unfold f_Mo_findCounted_42
  refine rf_ite (fun hb42 => ?_) (fun _ => rf_none)
  refine rf_bast (w := (vp_nar .boolean y2)) hS c_255_42 (Or.inr ⟨h_y0, rfl⟩) l_y0 hb42 ?_
  refine rf_nm (fun σ42 => ?_)
  refine rf_ild (i := 2) (Or.inr ⟨2, rfl, rfl, rfl⟩) c_255_43 rfl ?_
  refine rf_ald (i := 0) (Or.inr ⟨0, rfl, rfl, rfl⟩) c_255_44 rfl ?_
  refine rf_getr hS c_255_45 rfl fl_12_48 rfl h_x0 ?_
  refine rf_ild (i := 3) (Or.inr ⟨3, rfl, rfl, rfl⟩) c_255_48 rfl ?_
  refine rf_ite (fun hb49 => ?_) (fun _ => rf_none)
  refine rf_bald hS c_255_49 (Or.inr (tf_12_35 h_x0)) (lf_12_35 h_x0) hb49 ?_
  refine rf_ite (fun hc50 => ?_) (fun hc50 => ?_)
  · refine rf_b1t c_255_50 rfl (decide_eq_true hc50) ?_
    exact t_Mo_findCounted_74 hS hd hk11 x0 x1 x3 x2 (.int x2) σ42 h_x0
  · refine rf_b1f c_255_50 rfl (decide_eq_false hc50) ?_
    refine rf_ald (i := 0) (Or.inr ⟨0, rfl, rfl, rfl⟩) c_255_53 rfl ?_
    refine rf_ild (i := 3) (Or.inr ⟨3, rfl, rfl, rfl⟩) c_255_54 rfl ?_
    refine rf_iconst c_255_55 ki_0 ?_
    refine rf_callI (as := [.ref x0, .int x3, .int (0 : Int32)]) (kd := 1) c_255_56 rfl (by decide) rfl ml_12_280 (by decide) rfl (rcv_1 hS rfl rfl h_x0 (by decide)) (by simp [Value.category]) rfl rfl (t_Mo_ruleOf hS (by omega) σ42 x0 x3 (0 : Int32) h_x0) (fun v56 => ?_)
    refine rf_iconst c_255_59 ki_5 ?_
    refine rf_ite (fun hc60 => ?_) (fun hc60 => ?_)
    · refine rf_b2t c_255_60 rfl (decide_eq_true hc60) ?_
      exact t_Mo_findCounted_74 hS hd hk11 x0 x1 x3 x2 (.int x2) σ42 h_x0
    · refine rf_b2f c_255_60 rfl (decide_eq_false hc60) ?_
      refine rf_iconst c_255_63 ki_1 ?_
      refine rf_ald (i := 0) (Or.inr ⟨0, rfl, rfl, rfl⟩) c_255_64 rfl ?_
      refine rf_ild (i := 3) (Or.inr ⟨3, rfl, rfl, rfl⟩) c_255_65 rfl ?_
      refine rf_iconst c_255_66 ki_1 ?_
      refine rf_callI (as := [.ref x0, .int x3, .int (1 : Int32)]) (kd := 1) c_255_67 rfl (by decide) rfl ml_12_280 (by decide) rfl (rcv_1 hS rfl rfl h_x0 (by decide)) (by simp [Value.category]) rfl rfl (t_Mo_ruleOf hS (by omega) σ42 x0 x3 (1 : Int32) h_x0) (fun v67 => ?_)
      refine rf_ishl c_255_70 ?_
      refine rf_goto c_255_71 rfl ?_
      exact t_Mo_findCounted_75 hS hd hk11 x0 x1 x3 x2 ((1 : Int32) <<< (v67 &&& 31)) (.int x2) σ42 h_x0
def f_Mo_findCounted_41 (k11 : Nat → Int32 → Int32 → Int32 → Mm → Option (Mm)) (x0 : Nat) (x1 : Int32) (x2 : Int32) (x3 : Int32) (y0 : Nat) (y1 : Int32) (σ : Mm) : Option Mm := f_Mo_findCounted_42 k11 x0 x1 x2 x3 y0 y1 (0 : Int32) σ
set_option maxRecDepth 100000 in
set_option maxHeartbeats 4000000 in
theorem t_Mo_findCounted_41 {X : Xt} {S : Sh} (hS : ShOK S) {d : Nat} (hd : 4 ≤ d + 1) {k11 : Nat → Int32 → Int32 → Int32 → Mm → Option (Mm)} (hk11 : ∀ (x0 : Nat) (x1 : Int32) (x2 : Int32) (x3 : Int32) (σ : Mm) (h_x0 : tgT x0 = 12), Rf X S emV (k11 x0 x1 x2 x3 σ) (d + 1) 255 11 [.ref x0, .int x1, .int x2, .int x3] [] σ) (x0 : Nat) (x1 : Int32) (x2 : Int32) (x3 : Int32) (y0 : Nat) (y1 : Int32) (σ : Mm) (h_x0 : tgT x0 = 12) (h_y0 : tgT y0 = 22) (l_y0 : lnT y0 = 16) : Rf X S emV (f_Mo_findCounted_41 k11 x0 x1 x2 x3 y0 y1 σ) (d + 1) 255 41 [.ref x0, .int x1, .int x2, .int x3] [.int y1, .ref y0] σ := by
  unfold f_Mo_findCounted_41
  refine rf_iconst c_255_41 ki_0 ?_
  exact t_Mo_findCounted_42 hS hd hk11 x0 x1 x2 x3 y0 y1 (0 : Int32) σ h_x0 h_y0 l_y0
def f_Mo_findCounted_11 : Nat → Nat → Int32 → Int32 → Int32 → Mm → Option Mm
  | 0, _, _, _, _, _ => none
  | n + 1, x0, x1, x2, x3, σ => (if x3 < 0 then (some σ) else (if ¬ ((x2 >>> (x3 &&& 31)) &&& (1 : Int32)) = 0 then (f_Mo_findCounted_41 (f_Mo_findCounted_11  n) x0 x1 x2 x3 (rfT x0 35) x3 σ) else ((f_Mo_wouldCount x0 x3 x1 σ).bind fun v31 => (if v31.1 = 0 then (f_Mo_findCounted_41 (f_Mo_findCounted_11  n) x0 x1 x2 x3 (rfT x0 35) x3 v31.2) else (f_Mo_findCounted_42 (f_Mo_findCounted_11  n) x0 x1 x2 x3 (rfT x0 35) x3 (1 : Int32) v31.2)))))
set_option maxRecDepth 100000 in
set_option maxHeartbeats 4000000 in
theorem t_Mo_findCounted_11 {X : Xt} {S : Sh} (hS : ShOK S) {d : Nat} (hd : 4 ≤ d + 1) : ∀ (n : Nat) (x0 : Nat) (x1 : Int32) (x2 : Int32) (x3 : Int32) (σ : Mm) (h_x0 : tgT x0 = 12), Rf X S emV (f_Mo_findCounted_11 n x0 x1 x2 x3 σ) (d + 1) 255 11 [.ref x0, .int x1, .int x2, .int x3] [] σ := by
  intro n
  induction n with
  | zero => intro x0 x1 x2 x3 σ h_x0; exact rf_none
  | succ n ih =>
    intro x0 x1 x2 x3 σ h_x0
    rw [f_Mo_findCounted_11]
    refine rf_ild (i := 3) (Or.inr ⟨3, rfl, rfl, rfl⟩) c_255_11 rfl ?_
    refine rf_ite (fun hc12 => ?_) (fun hc12 => ?_)
    · refine rf_b1t c_255_12 rfl (decide_eq_true hc12) ?_
      exact rf_vret c_255_83 rfl rfl
    · refine rf_b1f c_255_12 rfl (decide_eq_false hc12) ?_
      refine rf_ald (i := 0) (Or.inr ⟨0, rfl, rfl, rfl⟩) c_255_15 rfl ?_
      refine rf_getr hS c_255_16 rfl fl_12_48 rfl h_x0 ?_
      refine rf_ild (i := 3) (Or.inr ⟨3, rfl, rfl, rfl⟩) c_255_19 rfl ?_
      refine rf_ild (i := 2) (Or.inr ⟨2, rfl, rfl, rfl⟩) c_255_20 rfl ?_
      refine rf_ild (i := 3) (Or.inr ⟨3, rfl, rfl, rfl⟩) c_255_21 rfl ?_
      refine rf_ishr c_255_22 ?_
      refine rf_iconst c_255_23 ki_1 ?_
      refine rf_iand c_255_24 ?_
      refine rf_ite (fun hc25 => ?_) (fun hc25 => ?_)
      · refine rf_b1t c_255_25 rfl (decide_eq_true hc25) ?_
        exact t_Mo_findCounted_41 hS hd ih x0 x1 x2 x3 (rfT x0 35) x3 σ h_x0 (tf_12_35 h_x0) (lf_12_35 h_x0)
      · refine rf_b1f c_255_25 rfl (decide_eq_false hc25) ?_
        refine rf_ald (i := 0) (Or.inr ⟨0, rfl, rfl, rfl⟩) c_255_28 rfl ?_
        refine rf_ild (i := 3) (Or.inr ⟨3, rfl, rfl, rfl⟩) c_255_29 rfl ?_
        refine rf_ild (i := 1) (Or.inr ⟨1, rfl, rfl, rfl⟩) c_255_30 rfl ?_
        refine rf_callM (as := [.ref x0, .int x3, .int x1]) (kd := 1) c_255_31 rfl (by decide) rfl ml_12_289 (by decide) rfl (rcv_1 hS rfl rfl h_x0 (by decide)) (by simp [Value.category]) rfl rfl (t_Mo_wouldCount hS (by omega) x0 x3 x1 σ h_x0) (fun v31 => ?_)
        refine rf_ite (fun hc34 => ?_) (fun hc34 => ?_)
        · refine rf_b1t c_255_34 rfl (decide_eq_true hc34) ?_
          exact t_Mo_findCounted_41 hS hd ih x0 x1 x2 x3 (rfT x0 35) x3 v31.2 h_x0 (tf_12_35 h_x0) (lf_12_35 h_x0)
        · refine rf_b1f c_255_34 rfl (decide_eq_false hc34) ?_
          refine rf_iconst c_255_37 ki_1 ?_
          refine rf_goto c_255_38 rfl ?_
          exact t_Mo_findCounted_42 hS hd ih x0 x1 x2 x3 (rfT x0 35) x3 (1 : Int32) v31.2 h_x0 (tf_12_35 h_x0) (lf_12_35 h_x0)
def f_Mo_findCounted (x0 : Nat) (x1 : Int32) (σ : Mm) : Option Mm := f_Mo_findCounted_11  NN x0 x1 (0 : Int32) ((σ (rfT x0 0) (ix (5 : Int32))) - (1 : Int32)) σ
set_option maxRecDepth 100000 in
set_option maxHeartbeats 4000000 in
theorem t_Mo_findCounted_e {X : Xt} {S : Sh} (hS : ShOK S) {d : Nat} (hd : 4 ≤ d + 1) (x0 : Nat) (x1 : Int32) (σ : Mm) (h_x0 : tgT x0 = 12) : Rf X S emV (f_Mo_findCounted x0 x1 σ) (d + 1) 255 0 [.ref x0, .int x1, unset0, unset0] [] σ := by
  unfold f_Mo_findCounted
  refine rf_iconst c_255_0 ki_0 ?_
  refine rf_ist (i := 2) (Or.inr ⟨2, rfl, rfl, rfl⟩) c_255_1 (Nat.le_of_ble_eq_true rfl) rfl ?_
  refine rf_ald (i := 0) (Or.inr ⟨0, rfl, rfl, rfl⟩) c_255_2 rfl ?_
  refine rf_getr hS c_255_3 rfl fl_12_9 rfl h_x0 ?_
  refine rf_iconst c_255_6 ki_5 ?_
  refine rf_iald hS c_255_7 (tf_12_0 h_x0) (lf_12_0 h_x0) (by decide) ?_
  refine rf_iconst c_255_8 ki_1 ?_
  refine rf_isub c_255_9 ?_
  refine rf_ist (i := 3) (Or.inr ⟨3, rfl, rfl, rfl⟩) c_255_10 (Nat.le_of_ble_eq_true rfl) rfl ?_
  exact t_Mo_findCounted_11 hS hd  NN x0 x1 (0 : Int32) ((σ (rfT x0 0) (ix (5 : Int32))) - (1 : Int32)) σ h_x0
theorem t_Mo_findCounted {X : Xt} {S : Sh} (hS : ShOK S) {d : Nat} (hd : 4 ≤ d) (x0 : Nat) (x1 : Int32) (σ : Mm) (h_x0 : tgT x0 = 12) : Rf X S emV (f_Mo_findCounted x0 x1 σ) d 255 0 [.ref x0, .int x1, unset0, unset0] [] σ := by
  obtain ⟨d1, rfl⟩ : ∃ d1, d = d1 + 1 := ⟨d - 1, by omega⟩
  exact t_Mo_findCounted_e hS hd x0 x1 σ h_x0
theorem c_256_0 : cd 256 0 = some (.aload_n 0, 1) := by decide +kernel
theorem c_256_1 : cd 256 1 = some (.iload_n 1, 1) := by decide +kernel
theorem c_256_2 : cd 256 2 = some (.invokevirtual 256, 3) := by decide +kernel
theorem c_256_5 : cd 256 5 = some (.ifCond .eq (11), 3) := by decide +kernel
theorem c_256_8 : cd 256 8 = some (.aload_n 0, 1) := by decide +kernel
theorem c_256_9 : cd 256 9 = some (.iload_n 2, 1) := by decide +kernel
theorem c_256_10 : cd 256 10 = some (.invokevirtual 141, 3) := by decide +kernel
theorem c_256_13 : cd 256 13 = some (.ifCond .ne (6), 3) := by decide +kernel
theorem c_256_16 : cd 256 16 = some (.ldc 91, 2) := by decide +kernel
theorem c_256_18 : cd 256 18 = some (.ireturn, 1) := by decide +kernel
theorem c_256_19 : cd 256 19 = some (.aload_n 0, 1) := by decide +kernel
theorem c_256_20 : cd 256 20 = some (.iload_n 2, 1) := by decide +kernel
theorem c_256_21 : cd 256 21 = some (.invokevirtual 292, 3) := by decide +kernel
theorem c_256_24 : cd 256 24 = some (.aload_n 0, 1) := by decide +kernel
theorem c_256_25 : cd 256 25 = some (.getfield 48, 3) := by decide +kernel
theorem c_256_28 : cd 256 28 = some (.iload_n 1, 1) := by decide +kernel
theorem c_256_29 : cd 256 29 = some (.baload, 1) := by decide +kernel
theorem c_256_30 : cd 256 30 = some (.ifCond .eq (7), 3) := by decide +kernel
theorem c_256_33 : cd 256 33 = some (.iconst (1), 1) := by decide +kernel
theorem c_256_34 : cd 256 34 = some (.goto (4), 3) := by decide +kernel
theorem c_256_37 : cd 256 37 = some (.iconst (0), 1) := by decide +kernel
theorem c_256_38 : cd 256 38 = some (.ireturn, 1) := by decide +kernel
def f_Mo_counts_16 (σ : Mm) : Option (Int32 × Mm) := some ((-1000000001 : Int32), σ)
set_option maxRecDepth 100000 in
set_option maxHeartbeats 4000000 in
theorem t_Mo_counts_16 {X : Xt} {S : Sh} (hS : ShOK S) {d : Nat} (hd : 5 ≤ d + 1) (u0 : Value) (u1 : Value) (u2 : Value) (σ : Mm) : Rf X S emM (f_Mo_counts_16 σ) (d + 1) 256 16 [u0, u1, u2] [] σ := by
  unfold f_Mo_counts_16
  refine rf_ldc (Or.inl ⟨rfl, rfl⟩) c_256_16 rfl kl_12_91 ?_
  exact rf_ret c_256_18 rfl rfl rfl rfl
def f_Mo_counts_38 (y0 : Int32) (σ : Mm) : Option (Int32 × Mm) := some (y0, σ)
set_option maxRecDepth 100000 in
set_option maxHeartbeats 4000000 in
theorem t_Mo_counts_38 {X : Xt} {S : Sh} (hS : ShOK S) {d : Nat} (hd : 5 ≤ d + 1) (y0 : Int32) (u0 : Value) (u1 : Value) (u2 : Value) (σ : Mm) : Rf X S emM (f_Mo_counts_38 y0 σ) (d + 1) 256 38 [u0, u1, u2] [.int y0] σ := by
  unfold f_Mo_counts_38
  exact rf_ret c_256_38 rfl rfl rfl rfl
def f_Mo_counts (x0 : Nat) (x1 : Int32) (x2 : Int32) (σ : Mm) : Option (Int32 × Mm) := (f_Mo_isRule σ x0 x1).bind fun v2 => (if v2 = 0 then (f_Mo_counts_16  σ) else ((f_Mo_isPaper σ x0 x2).bind fun v10 => (if ¬ v10 = 0 then ((f_Mo_findCounted x0 x2 σ).bind fun v21 => if inbB x1 16 = true then (if (v21 (rfT x0 35) (ix x1)) = 0 then (f_Mo_counts_38  (0 : Int32) v21) else (f_Mo_counts_38  (1 : Int32) v21)) else none) else (f_Mo_counts_16  σ))))
set_option maxRecDepth 100000 in
set_option maxHeartbeats 4000000 in
theorem t_Mo_counts_e {X : Xt} {S : Sh} (hS : ShOK S) {d : Nat} (hd : 5 ≤ d + 1) (x0 : Nat) (x1 : Int32) (x2 : Int32) (σ : Mm) (h_x0 : tgT x0 = 12) : Rf X S emM (f_Mo_counts x0 x1 x2 σ) (d + 1) 256 0 [.ref x0, .int x1, .int x2] [] σ := by
  unfold f_Mo_counts
  refine rf_ald (i := 0) (Or.inr ⟨0, rfl, rfl, rfl⟩) c_256_0 rfl ?_
  refine rf_ild (i := 1) (Or.inr ⟨1, rfl, rfl, rfl⟩) c_256_1 rfl ?_
  refine rf_callI (as := [.ref x0, .int x1]) (kd := 1) c_256_2 rfl (by decide) rfl ml_12_256 (by decide) rfl (rcv_1 hS rfl rfl h_x0 (by decide)) (Nat.zero_le _) rfl rfl (t_Mo_isRule hS (by omega) σ x0 x1 h_x0) (fun v2 => ?_)
  refine rf_ite (fun hc5 => ?_) (fun hc5 => ?_)
  · refine rf_b1t c_256_5 rfl (decide_eq_true hc5) ?_
    exact t_Mo_counts_16 hS hd  (.ref x0) (.int x1) (.int x2) σ
  · refine rf_b1f c_256_5 rfl (decide_eq_false hc5) ?_
    refine rf_ald (i := 0) (Or.inr ⟨0, rfl, rfl, rfl⟩) c_256_8 rfl ?_
    refine rf_ild (i := 2) (Or.inr ⟨2, rfl, rfl, rfl⟩) c_256_9 rfl ?_
    refine rf_callI (as := [.ref x0, .int x2]) (kd := 1) c_256_10 rfl (by decide) rfl ml_12_141 (by decide) rfl (rcv_1 hS rfl rfl h_x0 (by decide)) (Nat.zero_le _) rfl rfl (t_Mo_isPaper hS (by omega) σ x0 x2 h_x0) (fun v10 => ?_)
    refine rf_ite (fun hc13 => ?_) (fun hc13 => ?_)
    · refine rf_b1t c_256_13 rfl (decide_eq_true hc13) ?_
      refine rf_ald (i := 0) (Or.inr ⟨0, rfl, rfl, rfl⟩) c_256_19 rfl ?_
      refine rf_ild (i := 2) (Or.inr ⟨2, rfl, rfl, rfl⟩) c_256_20 rfl ?_
      refine rf_callV (as := [.ref x0, .int x2]) (kd := 1) c_256_21 rfl (by decide) rfl ml_12_292 (by decide) rfl (rcv_1 hS rfl rfl h_x0 (by decide)) (Nat.zero_le _) rfl rfl (t_Mo_findCounted hS (by omega) x0 x2 σ h_x0) (fun v21 => ?_)
      refine rf_ald (i := 0) (Or.inr ⟨0, rfl, rfl, rfl⟩) c_256_24 rfl ?_
      refine rf_getr hS c_256_25 rfl fl_12_48 rfl h_x0 ?_
      refine rf_ild (i := 1) (Or.inr ⟨1, rfl, rfl, rfl⟩) c_256_28 rfl ?_
      refine rf_ite (fun hb29 => ?_) (fun _ => rf_none)
      refine rf_bald hS c_256_29 (Or.inr (tf_12_35 h_x0)) (lf_12_35 h_x0) hb29 ?_
      refine rf_ite (fun hc30 => ?_) (fun hc30 => ?_)
      · refine rf_b1t c_256_30 rfl (decide_eq_true hc30) ?_
        refine rf_iconst c_256_37 ki_0 ?_
        exact t_Mo_counts_38 hS hd  (0 : Int32) (.ref x0) (.int x1) (.int x2) v21
      · refine rf_b1f c_256_30 rfl (decide_eq_false hc30) ?_
        refine rf_iconst c_256_33 ki_1 ?_
        refine rf_goto c_256_34 rfl ?_
        exact t_Mo_counts_38 hS hd  (1 : Int32) (.ref x0) (.int x1) (.int x2) v21
    · refine rf_b1f c_256_13 rfl (decide_eq_false hc13) ?_
      exact t_Mo_counts_16 hS hd  (.ref x0) (.int x1) (.int x2) σ
theorem t_Mo_counts {X : Xt} {S : Sh} (hS : ShOK S) {d : Nat} (hd : 5 ≤ d) (x0 : Nat) (x1 : Int32) (x2 : Int32) (σ : Mm) (h_x0 : tgT x0 = 12) : Rf X S emM (f_Mo_counts x0 x1 x2 σ) d 256 0 [.ref x0, .int x1, .int x2] [] σ := by
  obtain ⟨d1, rfl⟩ : ∃ d1, d = d1 + 1 := ⟨d - 1, by omega⟩
  exact t_Mo_counts_e hS hd x0 x1 x2 σ h_x0
theorem c_257_0 : cd 257 0 = some (.aload_n 0, 1) := by decide +kernel
theorem c_257_1 : cd 257 1 = some (.iload_n 1, 1) := by decide +kernel
theorem c_257_2 : cd 257 2 = some (.invokevirtual 292, 3) := by decide +kernel
theorem c_257_5 : cd 257 5 = some (.iconst (-1), 1) := by decide +kernel
theorem c_257_6 : cd 257 6 = some (.istore_n 3, 1) := by decide +kernel
theorem c_257_7 : cd 257 7 = some (.iconst (0), 1) := by decide +kernel
theorem c_257_8 : cd 257 8 = some (.istore 4, 2) := by decide +kernel
theorem c_257_10 : cd 257 10 = some (.iload 4, 2) := by decide +kernel
theorem c_257_12 : cd 257 12 = some (.aload_n 0, 1) := by decide +kernel
theorem c_257_13 : cd 257 13 = some (.getfield 9, 3) := by decide +kernel
theorem c_257_16 : cd 257 16 = some (.iconst (5), 1) := by decide +kernel
theorem c_257_17 : cd 257 17 = some (.iaload, 1) := by decide +kernel
theorem c_257_18 : cd 257 18 = some (.if_icmp .ge (37), 3) := by decide +kernel
theorem c_257_21 : cd 257 21 = some (.aload_n 0, 1) := by decide +kernel
theorem c_257_22 : cd 257 22 = some (.getfield 48, 3) := by decide +kernel
theorem c_257_25 : cd 257 25 = some (.iload 4, 2) := by decide +kernel
theorem c_257_27 : cd 257 27 = some (.baload, 1) := by decide +kernel
theorem c_257_28 : cd 257 28 = some (.ifCond .eq (19), 3) := by decide +kernel
theorem c_257_31 : cd 257 31 = some (.aload_n 0, 1) := by decide +kernel
theorem c_257_32 : cd 257 32 = some (.iload 4, 2) := by decide +kernel
theorem c_257_34 : cd 257 34 = some (.iconst (0), 1) := by decide +kernel
theorem c_257_35 : cd 257 35 = some (.invokevirtual 280, 3) := by decide +kernel
theorem c_257_38 : cd 257 38 = some (.iload_n 2, 1) := by decide +kernel
theorem c_257_39 : cd 257 39 = some (.if_icmp .ne (8), 3) := by decide +kernel
theorem c_257_42 : cd 257 42 = some (.iload 4, 2) := by decide +kernel
theorem c_257_44 : cd 257 44 = some (.goto (4), 3) := by decide +kernel
theorem c_257_47 : cd 257 47 = some (.iload_n 3, 1) := by decide +kernel
theorem c_257_48 : cd 257 48 = some (.istore_n 3, 1) := by decide +kernel
theorem c_257_49 : cd 257 49 = some (.iinc 4 (1), 3) := by decide +kernel
theorem c_257_52 : cd 257 52 = some (.goto (-42), 3) := by decide +kernel
theorem c_257_55 : cd 257 55 = some (.iload_n 3, 1) := by decide +kernel
theorem c_257_56 : cd 257 56 = some (.ireturn, 1) := by decide +kernel
def f_Mo_countsFor_48 (k10 : Nat → Int32 → Int32 → Int32 → Mm → Option (Int32 × Mm)) (x0 : Nat) (x2 : Int32) (x4 : Int32) (y0 : Int32) (σ : Mm) : Option (Int32 × Mm) := k10 x0 x2 y0 (x4 + (1 : Int32)) σ
set_option maxRecDepth 100000 in
set_option maxHeartbeats 4000000 in
theorem t_Mo_countsFor_48 {X : Xt} {S : Sh} (hS : ShOK S) {d : Nat} (hd : 5 ≤ d + 1) {k10 : Nat → Int32 → Int32 → Int32 → Mm → Option (Int32 × Mm)} (hk10 : ∀ (x0 : Nat) (x2 : Int32) (x3 : Int32) (x4 : Int32) (u1 : Value) (σ : Mm) (h_x0 : tgT x0 = 12), Rf X S emM (k10 x0 x2 x3 x4 σ) (d + 1) 257 10 [.ref x0, u1, .int x2, .int x3, .int x4] [] σ) (x0 : Nat) (x2 : Int32) (x4 : Int32) (y0 : Int32) (u1 : Value) (u3 : Value) (σ : Mm) (h_x0 : tgT x0 = 12) : Rf X S emM (f_Mo_countsFor_48 k10 x0 x2 x4 y0 σ) (d + 1) 257 48 [.ref x0, u1, .int x2, u3, .int x4] [.int y0] σ := by
  unfold f_Mo_countsFor_48
  refine rf_ist (i := 3) (Or.inr ⟨3, rfl, rfl, rfl⟩) c_257_48 (Nat.le_of_ble_eq_true rfl) rfl ?_
  refine rf_iinc c_257_49 rfl ki_1 rfl ?_
  refine rf_goto c_257_52 rfl ?_
  exact hk10 x0 x2 y0 (x4 + (1 : Int32)) (u1) σ h_x0
def f_Mo_countsFor_47 (k10 : Nat → Int32 → Int32 → Int32 → Mm → Option (Int32 × Mm)) (x0 : Nat) (x2 : Int32) (x3 : Int32) (x4 : Int32) (σ : Mm) : Option (Int32 × Mm) := f_Mo_countsFor_48 k10 x0 x2 x4 x3 σ
set_option maxRecDepth 100000 in
set_option maxHeartbeats 4000000 in
theorem t_Mo_countsFor_47 {X : Xt} {S : Sh} (hS : ShOK S) {d : Nat} (hd : 5 ≤ d + 1) {k10 : Nat → Int32 → Int32 → Int32 → Mm → Option (Int32 × Mm)} (hk10 : ∀ (x0 : Nat) (x2 : Int32) (x3 : Int32) (x4 : Int32) (u1 : Value) (σ : Mm) (h_x0 : tgT x0 = 12), Rf X S emM (k10 x0 x2 x3 x4 σ) (d + 1) 257 10 [.ref x0, u1, .int x2, .int x3, .int x4] [] σ) (x0 : Nat) (x2 : Int32) (x3 : Int32) (x4 : Int32) (u1 : Value) (σ : Mm) (h_x0 : tgT x0 = 12) : Rf X S emM (f_Mo_countsFor_47 k10 x0 x2 x3 x4 σ) (d + 1) 257 47 [.ref x0, u1, .int x2, .int x3, .int x4] [] σ := by
  unfold f_Mo_countsFor_47
  refine rf_ild (i := 3) (Or.inr ⟨3, rfl, rfl, rfl⟩) c_257_47 rfl ?_
  exact t_Mo_countsFor_48 hS hd hk10 x0 x2 x4 x3 (u1) (.int x3) σ h_x0
def f_Mo_countsFor_10 : Nat → Nat → Int32 → Int32 → Int32 → Mm → Option (Int32 × Mm)
  | 0, _, _, _, _, _ => none
  | n + 1, x0, x2, x3, x4, σ => (if (σ (rfT x0 0) (ix (5 : Int32))) ≤ x4 then (some (x3, σ)) else (if inbB x4 16 = true then (if (σ (rfT x0 35) (ix x4)) = 0 then (f_Mo_countsFor_47 (f_Mo_countsFor_10  n) x0 x2 x3 x4 σ) else ((f_Mo_ruleOf σ x0 x4 (0 : Int32)).bind fun v35 => (if ¬ v35 = x2 then (f_Mo_countsFor_47 (f_Mo_countsFor_10  n) x0 x2 x3 x4 σ) else (f_Mo_countsFor_48 (f_Mo_countsFor_10  n) x0 x2 x4 x4 σ)))) else none))
set_option maxRecDepth 100000 in
set_option maxHeartbeats 4000000 in
theorem t_Mo_countsFor_10 {X : Xt} {S : Sh} (hS : ShOK S) {d : Nat} (hd : 5 ≤ d + 1) : ∀ (n : Nat) (x0 : Nat) (x2 : Int32) (x3 : Int32) (x4 : Int32) (u1 : Value) (σ : Mm) (h_x0 : tgT x0 = 12), Rf X S emM (f_Mo_countsFor_10 n x0 x2 x3 x4 σ) (d + 1) 257 10 [.ref x0, u1, .int x2, .int x3, .int x4] [] σ := by
  intro n
  induction n with
  | zero => intro x0 x2 x3 x4 u1 σ h_x0; exact rf_none
  | succ n ih =>
    intro x0 x2 x3 x4 u1 σ h_x0
    rw [f_Mo_countsFor_10]
    refine rf_ild (i := 4) (Or.inl ⟨rfl, rfl⟩) c_257_10 rfl ?_
    refine rf_ald (i := 0) (Or.inr ⟨0, rfl, rfl, rfl⟩) c_257_12 rfl ?_
    refine rf_getr hS c_257_13 rfl fl_12_9 rfl h_x0 ?_
    refine rf_iconst c_257_16 ki_5 ?_
    refine rf_iald hS c_257_17 (tf_12_0 h_x0) (lf_12_0 h_x0) (by decide) ?_
    refine rf_ite (fun hc18 => ?_) (fun hc18 => ?_)
    · refine rf_b2t c_257_18 rfl (decide_eq_true hc18) ?_
      refine rf_ild (i := 3) (Or.inr ⟨3, rfl, rfl, rfl⟩) c_257_55 rfl ?_
      exact rf_ret c_257_56 rfl rfl rfl rfl
    · refine rf_b2f c_257_18 rfl (decide_eq_false hc18) ?_
      refine rf_ald (i := 0) (Or.inr ⟨0, rfl, rfl, rfl⟩) c_257_21 rfl ?_
      refine rf_getr hS c_257_22 rfl fl_12_48 rfl h_x0 ?_
      refine rf_ild (i := 4) (Or.inl ⟨rfl, rfl⟩) c_257_25 rfl ?_
      refine rf_ite (fun hb27 => ?_) (fun _ => rf_none)
      refine rf_bald hS c_257_27 (Or.inr (tf_12_35 h_x0)) (lf_12_35 h_x0) hb27 ?_
      refine rf_ite (fun hc28 => ?_) (fun hc28 => ?_)
      · refine rf_b1t c_257_28 rfl (decide_eq_true hc28) ?_
        exact t_Mo_countsFor_47 hS hd ih x0 x2 x3 x4 (u1) σ h_x0
      · refine rf_b1f c_257_28 rfl (decide_eq_false hc28) ?_
        refine rf_ald (i := 0) (Or.inr ⟨0, rfl, rfl, rfl⟩) c_257_31 rfl ?_
        refine rf_ild (i := 4) (Or.inl ⟨rfl, rfl⟩) c_257_32 rfl ?_
        refine rf_iconst c_257_34 ki_0 ?_
        refine rf_callI (as := [.ref x0, .int x4, .int (0 : Int32)]) (kd := 1) c_257_35 rfl (by decide) rfl ml_12_280 (by decide) rfl (rcv_1 hS rfl rfl h_x0 (by decide)) (Nat.zero_le _) rfl rfl (t_Mo_ruleOf hS (by omega) σ x0 x4 (0 : Int32) h_x0) (fun v35 => ?_)
        refine rf_ild (i := 2) (Or.inr ⟨2, rfl, rfl, rfl⟩) c_257_38 rfl ?_
        refine rf_ite (fun hc39 => ?_) (fun hc39 => ?_)
        · refine rf_b2t c_257_39 rfl (decide_eq_true hc39) ?_
          exact t_Mo_countsFor_47 hS hd ih x0 x2 x3 x4 (u1) σ h_x0
        · refine rf_b2f c_257_39 rfl (decide_eq_false hc39) ?_
          refine rf_ild (i := 4) (Or.inl ⟨rfl, rfl⟩) c_257_42 rfl ?_
          refine rf_goto c_257_44 rfl ?_
          exact t_Mo_countsFor_48 hS hd ih x0 x2 x4 x4 (u1) (.int x3) σ h_x0
def f_Mo_countsFor (x0 : Nat) (x1 : Int32) (x2 : Int32) (σ : Mm) : Option (Int32 × Mm) := (f_Mo_findCounted x0 x1 σ).bind fun v2 => f_Mo_countsFor_10  NN x0 x2 (-1 : Int32) (0 : Int32) v2
set_option maxRecDepth 100000 in
set_option maxHeartbeats 4000000 in
theorem t_Mo_countsFor_e {X : Xt} {S : Sh} (hS : ShOK S) {d : Nat} (hd : 5 ≤ d + 1) (x0 : Nat) (x1 : Int32) (x2 : Int32) (σ : Mm) (h_x0 : tgT x0 = 12) : Rf X S emM (f_Mo_countsFor x0 x1 x2 σ) (d + 1) 257 0 [.ref x0, .int x1, .int x2, unset0, unset0] [] σ := by
  unfold f_Mo_countsFor
  refine rf_ald (i := 0) (Or.inr ⟨0, rfl, rfl, rfl⟩) c_257_0 rfl ?_
  refine rf_ild (i := 1) (Or.inr ⟨1, rfl, rfl, rfl⟩) c_257_1 rfl ?_
  refine rf_callV (as := [.ref x0, .int x1]) (kd := 1) c_257_2 rfl (by decide) rfl ml_12_292 (by decide) rfl (rcv_1 hS rfl rfl h_x0 (by decide)) (Nat.zero_le _) rfl rfl (t_Mo_findCounted hS (by omega) x0 x1 σ h_x0) (fun v2 => ?_)
  refine rf_iconst c_257_5 ki_m1 ?_
  refine rf_ist (i := 3) (Or.inr ⟨3, rfl, rfl, rfl⟩) c_257_6 (Nat.le_of_ble_eq_true rfl) rfl ?_
  refine rf_iconst c_257_7 ki_0 ?_
  refine rf_ist (i := 4) (Or.inl ⟨rfl, rfl⟩) c_257_8 (Nat.le_of_ble_eq_true rfl) rfl ?_
  exact t_Mo_countsFor_10 hS hd  NN x0 x2 (-1 : Int32) (0 : Int32) (.int x1) v2 h_x0
theorem t_Mo_countsFor {X : Xt} {S : Sh} (hS : ShOK S) {d : Nat} (hd : 5 ≤ d) (x0 : Nat) (x1 : Int32) (x2 : Int32) (σ : Mm) (h_x0 : tgT x0 = 12) : Rf X S emM (f_Mo_countsFor x0 x1 x2 σ) d 257 0 [.ref x0, .int x1, .int x2, unset0, unset0] [] σ := by
  obtain ⟨d1, rfl⟩ : ∃ d1, d = d1 + 1 := ⟨d - 1, by omega⟩
  exact t_Mo_countsFor_e hS hd x0 x1 x2 σ h_x0
theorem c_258_0 : cd 258 0 = some (.aload_n 0, 1) := by decide +kernel
theorem c_258_1 : cd 258 1 = some (.iload_n 1, 1) := by decide +kernel
theorem c_258_2 : cd 258 2 = some (.invokevirtual 292, 3) := by decide +kernel
theorem c_258_5 : cd 258 5 = some (.iconst (0), 1) := by decide +kernel
theorem c_258_6 : cd 258 6 = some (.istore_n 2, 1) := by decide +kernel
theorem c_258_7 : cd 258 7 = some (.iconst (0), 1) := by decide +kernel
theorem c_258_8 : cd 258 8 = some (.istore_n 3, 1) := by decide +kernel
theorem c_258_9 : cd 258 9 = some (.iload_n 3, 1) := by decide +kernel
theorem c_258_10 : cd 258 10 = some (.aload_n 0, 1) := by decide +kernel
theorem c_258_11 : cd 258 11 = some (.getfield 9, 3) := by decide +kernel
theorem c_258_14 : cd 258 14 = some (.iconst (5), 1) := by decide +kernel
theorem c_258_15 : cd 258 15 = some (.iaload, 1) := by decide +kernel
theorem c_258_16 : cd 258 16 = some (.if_icmp .ge (43), 3) := by decide +kernel
theorem c_258_19 : cd 258 19 = some (.iload_n 2, 1) := by decide +kernel
theorem c_258_20 : cd 258 20 = some (.aload_n 0, 1) := by decide +kernel
theorem c_258_21 : cd 258 21 = some (.getfield 48, 3) := by decide +kernel
theorem c_258_24 : cd 258 24 = some (.iload_n 3, 1) := by decide +kernel
theorem c_258_25 : cd 258 25 = some (.baload, 1) := by decide +kernel
theorem c_258_26 : cd 258 26 = some (.ifCond .eq (24), 3) := by decide +kernel
theorem c_258_29 : cd 258 29 = some (.aload_n 0, 1) := by decide +kernel
theorem c_258_30 : cd 258 30 = some (.iload_n 3, 1) := by decide +kernel
theorem c_258_31 : cd 258 31 = some (.iconst (0), 1) := by decide +kernel
theorem c_258_32 : cd 258 32 = some (.invokevirtual 280, 3) := by decide +kernel
theorem c_258_35 : cd 258 35 = some (.iconst (2), 1) := by decide +kernel
theorem c_258_36 : cd 258 36 = some (.if_icmp .ne (14), 3) := by decide +kernel
theorem c_258_39 : cd 258 39 = some (.iconst (1), 1) := by decide +kernel
theorem c_258_40 : cd 258 40 = some (.aload_n 0, 1) := by decide +kernel
theorem c_258_41 : cd 258 41 = some (.iload_n 3, 1) := by decide +kernel
theorem c_258_42 : cd 258 42 = some (.iconst (2), 1) := by decide +kernel
theorem c_258_43 : cd 258 43 = some (.invokevirtual 280, 3) := by decide +kernel
theorem c_258_46 : cd 258 46 = some (.ishl, 1) := by decide +kernel
theorem c_258_47 : cd 258 47 = some (.goto (4), 3) := by decide +kernel
theorem c_258_50 : cd 258 50 = some (.iconst (0), 1) := by decide +kernel
theorem c_258_51 : cd 258 51 = some (.ior, 1) := by decide +kernel
theorem c_258_52 : cd 258 52 = some (.istore_n 2, 1) := by decide +kernel
theorem c_258_53 : cd 258 53 = some (.iinc 3 (1), 3) := by decide +kernel
theorem c_258_56 : cd 258 56 = some (.goto (-47), 3) := by decide +kernel
theorem c_258_59 : cd 258 59 = some (.iload_n 2, 1) := by decide +kernel
theorem c_258_60 : cd 258 60 = some (.ireturn, 1) := by decide +kernel
def f_Mo_needOf_51 (k9 : Nat → Int32 → Int32 → Mm → Option (Int32 × Mm)) (x0 : Nat) (x3 : Int32) (y0 : Int32) (y1 : Int32) (σ : Mm) : Option (Int32 × Mm) := k9 x0 (y0 ||| y1) (x3 + (1 : Int32)) σ
set_option maxRecDepth 100000 in
set_option maxHeartbeats 4000000 in
theorem t_Mo_needOf_51 {X : Xt} {S : Sh} (hS : ShOK S) {d : Nat} (hd : 5 ≤ d + 1) {k9 : Nat → Int32 → Int32 → Mm → Option (Int32 × Mm)} (hk9 : ∀ (x0 : Nat) (x2 : Int32) (x3 : Int32) (u1 : Value) (σ : Mm) (h_x0 : tgT x0 = 12), Rf X S emM (k9 x0 x2 x3 σ) (d + 1) 258 9 [.ref x0, u1, .int x2, .int x3] [] σ) (x0 : Nat) (x3 : Int32) (y0 : Int32) (y1 : Int32) (u1 : Value) (u2 : Value) (σ : Mm) (h_x0 : tgT x0 = 12) : Rf X S emM (f_Mo_needOf_51 k9 x0 x3 y0 y1 σ) (d + 1) 258 51 [.ref x0, u1, u2, .int x3] [.int y1, .int y0] σ := by
  unfold f_Mo_needOf_51
  refine rf_ior c_258_51 ?_
  refine rf_ist (i := 2) (Or.inr ⟨2, rfl, rfl, rfl⟩) c_258_52 (Nat.le_of_ble_eq_true rfl) rfl ?_
  refine rf_iinc c_258_53 rfl ki_1 rfl ?_
  refine rf_goto c_258_56 rfl ?_
  exact hk9 x0 (y0 ||| y1) (x3 + (1 : Int32)) (u1) σ h_x0
def f_Mo_needOf_50 (k9 : Nat → Int32 → Int32 → Mm → Option (Int32 × Mm)) (x0 : Nat) (x3 : Int32) (y0 : Int32) (σ : Mm) : Option (Int32 × Mm) := f_Mo_needOf_51 k9 x0 x3 y0 (0 : Int32) σ
set_option maxRecDepth 100000 in
set_option maxHeartbeats 4000000 in
theorem t_Mo_needOf_50 {X : Xt} {S : Sh} (hS : ShOK S) {d : Nat} (hd : 5 ≤ d + 1) {k9 : Nat → Int32 → Int32 → Mm → Option (Int32 × Mm)} (hk9 : ∀ (x0 : Nat) (x2 : Int32) (x3 : Int32) (u1 : Value) (σ : Mm) (h_x0 : tgT x0 = 12), Rf X S emM (k9 x0 x2 x3 σ) (d + 1) 258 9 [.ref x0, u1, .int x2, .int x3] [] σ) (x0 : Nat) (x3 : Int32) (y0 : Int32) (u1 : Value) (u2 : Value) (σ : Mm) (h_x0 : tgT x0 = 12) : Rf X S emM (f_Mo_needOf_50 k9 x0 x3 y0 σ) (d + 1) 258 50 [.ref x0, u1, u2, .int x3] [.int y0] σ := by
  unfold f_Mo_needOf_50
  refine rf_iconst c_258_50 ki_0 ?_
  exact t_Mo_needOf_51 hS hd hk9 x0 x3 y0 (0 : Int32) (u1) (u2) σ h_x0
def f_Mo_needOf_9 : Nat → Nat → Int32 → Int32 → Mm → Option (Int32 × Mm)
  | 0, _, _, _, _ => none
  | n + 1, x0, x2, x3, σ => (if (σ (rfT x0 0) (ix (5 : Int32))) ≤ x3 then (some (x2, σ)) else (if inbB x3 16 = true then (if (σ (rfT x0 35) (ix x3)) = 0 then (f_Mo_needOf_50 (f_Mo_needOf_9  n) x0 x3 x2 σ) else ((f_Mo_ruleOf σ x0 x3 (0 : Int32)).bind fun v32 => (if ¬ v32 = (2 : Int32) then (f_Mo_needOf_50 (f_Mo_needOf_9  n) x0 x3 x2 σ) else ((f_Mo_ruleOf σ x0 x3 (2 : Int32)).bind fun v43 => f_Mo_needOf_51 (f_Mo_needOf_9  n) x0 x3 x2 ((1 : Int32) <<< (v43 &&& 31)) σ)))) else none))
set_option maxRecDepth 100000 in
set_option maxHeartbeats 4000000 in
theorem t_Mo_needOf_9 {X : Xt} {S : Sh} (hS : ShOK S) {d : Nat} (hd : 5 ≤ d + 1) : ∀ (n : Nat) (x0 : Nat) (x2 : Int32) (x3 : Int32) (u1 : Value) (σ : Mm) (h_x0 : tgT x0 = 12), Rf X S emM (f_Mo_needOf_9 n x0 x2 x3 σ) (d + 1) 258 9 [.ref x0, u1, .int x2, .int x3] [] σ := by
  intro n
  induction n with
  | zero => intro x0 x2 x3 u1 σ h_x0; exact rf_none
  | succ n ih =>
    intro x0 x2 x3 u1 σ h_x0
    rw [f_Mo_needOf_9]
    refine rf_ild (i := 3) (Or.inr ⟨3, rfl, rfl, rfl⟩) c_258_9 rfl ?_
    refine rf_ald (i := 0) (Or.inr ⟨0, rfl, rfl, rfl⟩) c_258_10 rfl ?_
    refine rf_getr hS c_258_11 rfl fl_12_9 rfl h_x0 ?_
    refine rf_iconst c_258_14 ki_5 ?_
    refine rf_iald hS c_258_15 (tf_12_0 h_x0) (lf_12_0 h_x0) (by decide) ?_
    refine rf_ite (fun hc16 => ?_) (fun hc16 => ?_)
    · refine rf_b2t c_258_16 rfl (decide_eq_true hc16) ?_
      refine rf_ild (i := 2) (Or.inr ⟨2, rfl, rfl, rfl⟩) c_258_59 rfl ?_
      exact rf_ret c_258_60 rfl rfl rfl rfl
    · refine rf_b2f c_258_16 rfl (decide_eq_false hc16) ?_
      refine rf_ild (i := 2) (Or.inr ⟨2, rfl, rfl, rfl⟩) c_258_19 rfl ?_
      refine rf_ald (i := 0) (Or.inr ⟨0, rfl, rfl, rfl⟩) c_258_20 rfl ?_
      refine rf_getr hS c_258_21 rfl fl_12_48 rfl h_x0 ?_
      refine rf_ild (i := 3) (Or.inr ⟨3, rfl, rfl, rfl⟩) c_258_24 rfl ?_
      refine rf_ite (fun hb25 => ?_) (fun _ => rf_none)
      refine rf_bald hS c_258_25 (Or.inr (tf_12_35 h_x0)) (lf_12_35 h_x0) hb25 ?_
      refine rf_ite (fun hc26 => ?_) (fun hc26 => ?_)
      · refine rf_b1t c_258_26 rfl (decide_eq_true hc26) ?_
        exact t_Mo_needOf_50 hS hd ih x0 x3 x2 (u1) (.int x2) σ h_x0
      · refine rf_b1f c_258_26 rfl (decide_eq_false hc26) ?_
        refine rf_ald (i := 0) (Or.inr ⟨0, rfl, rfl, rfl⟩) c_258_29 rfl ?_
        refine rf_ild (i := 3) (Or.inr ⟨3, rfl, rfl, rfl⟩) c_258_30 rfl ?_
        refine rf_iconst c_258_31 ki_0 ?_
        refine rf_callI (as := [.ref x0, .int x3, .int (0 : Int32)]) (kd := 1) c_258_32 rfl (by decide) rfl ml_12_280 (by decide) rfl (rcv_1 hS rfl rfl h_x0 (by decide)) (by simp [Value.category]) rfl rfl (t_Mo_ruleOf hS (by omega) σ x0 x3 (0 : Int32) h_x0) (fun v32 => ?_)
        refine rf_iconst c_258_35 ki_2 ?_
        refine rf_ite (fun hc36 => ?_) (fun hc36 => ?_)
        · refine rf_b2t c_258_36 rfl (decide_eq_true hc36) ?_
          exact t_Mo_needOf_50 hS hd ih x0 x3 x2 (u1) (.int x2) σ h_x0
        · refine rf_b2f c_258_36 rfl (decide_eq_false hc36) ?_
          refine rf_iconst c_258_39 ki_1 ?_
          refine rf_ald (i := 0) (Or.inr ⟨0, rfl, rfl, rfl⟩) c_258_40 rfl ?_
          refine rf_ild (i := 3) (Or.inr ⟨3, rfl, rfl, rfl⟩) c_258_41 rfl ?_
          refine rf_iconst c_258_42 ki_2 ?_
          refine rf_callI (as := [.ref x0, .int x3, .int (2 : Int32)]) (kd := 1) c_258_43 rfl (by decide) rfl ml_12_280 (by decide) rfl (rcv_1 hS rfl rfl h_x0 (by decide)) (by simp [Value.category]) rfl rfl (t_Mo_ruleOf hS (by omega) σ x0 x3 (2 : Int32) h_x0) (fun v43 => ?_)
          refine rf_ishl c_258_46 ?_
          refine rf_goto c_258_47 rfl ?_
          exact t_Mo_needOf_51 hS hd ih x0 x3 x2 ((1 : Int32) <<< (v43 &&& 31)) (u1) (.int x2) σ h_x0
def f_Mo_needOf (x0 : Nat) (x1 : Int32) (σ : Mm) : Option (Int32 × Mm) := (f_Mo_findCounted x0 x1 σ).bind fun v2 => f_Mo_needOf_9  NN x0 (0 : Int32) (0 : Int32) v2
set_option maxRecDepth 100000 in
set_option maxHeartbeats 4000000 in
theorem t_Mo_needOf_e {X : Xt} {S : Sh} (hS : ShOK S) {d : Nat} (hd : 5 ≤ d + 1) (x0 : Nat) (x1 : Int32) (σ : Mm) (h_x0 : tgT x0 = 12) : Rf X S emM (f_Mo_needOf x0 x1 σ) (d + 1) 258 0 [.ref x0, .int x1, unset0, unset0] [] σ := by
  unfold f_Mo_needOf
  refine rf_ald (i := 0) (Or.inr ⟨0, rfl, rfl, rfl⟩) c_258_0 rfl ?_
  refine rf_ild (i := 1) (Or.inr ⟨1, rfl, rfl, rfl⟩) c_258_1 rfl ?_
  refine rf_callV (as := [.ref x0, .int x1]) (kd := 1) c_258_2 rfl (by decide) rfl ml_12_292 (by decide) rfl (rcv_1 hS rfl rfl h_x0 (by decide)) (Nat.zero_le _) rfl rfl (t_Mo_findCounted hS (by omega) x0 x1 σ h_x0) (fun v2 => ?_)
  refine rf_iconst c_258_5 ki_0 ?_
  refine rf_ist (i := 2) (Or.inr ⟨2, rfl, rfl, rfl⟩) c_258_6 (Nat.le_of_ble_eq_true rfl) rfl ?_
  refine rf_iconst c_258_7 ki_0 ?_
  refine rf_ist (i := 3) (Or.inr ⟨3, rfl, rfl, rfl⟩) c_258_8 (Nat.le_of_ble_eq_true rfl) rfl ?_
  exact t_Mo_needOf_9 hS hd  NN x0 (0 : Int32) (0 : Int32) (.int x1) v2 h_x0
theorem t_Mo_needOf {X : Xt} {S : Sh} (hS : ShOK S) {d : Nat} (hd : 5 ≤ d) (x0 : Nat) (x1 : Int32) (σ : Mm) (h_x0 : tgT x0 = 12) : Rf X S emM (f_Mo_needOf x0 x1 σ) d 258 0 [.ref x0, .int x1, unset0, unset0] [] σ := by
  obtain ⟨d1, rfl⟩ : ∃ d1, d = d1 + 1 := ⟨d - 1, by omega⟩
  exact t_Mo_needOf_e hS hd x0 x1 σ h_x0
theorem c_259_0 : cd 259 0 = some (.iload_n 2, 1) := by decide +kernel
theorem c_259_1 : cd 259 1 = some (.iconst (2), 1) := by decide +kernel
theorem c_259_2 : cd 259 2 = some (.if_icmp .ne (9), 3) := by decide +kernel
theorem c_259_5 : cd 259 5 = some (.aload_n 0, 1) := by decide +kernel
theorem c_259_6 : cd 259 6 = some (.iload_n 1, 1) := by decide +kernel
theorem c_259_7 : cd 259 7 = some (.invokevirtual 295, 3) := by decide +kernel
theorem c_259_10 : cd 259 10 = some (.ireturn, 1) := by decide +kernel
theorem c_259_11 : cd 259 11 = some (.aload_n 0, 1) := by decide +kernel
theorem c_259_12 : cd 259 12 = some (.iload_n 1, 1) := by decide +kernel
theorem c_259_13 : cd 259 13 = some (.iload_n 2, 1) := by decide +kernel
theorem c_259_14 : cd 259 14 = some (.invokevirtual 298, 3) := by decide +kernel
theorem c_259_17 : cd 259 17 = some (.istore_n 3, 1) := by decide +kernel
theorem c_259_18 : cd 259 18 = some (.iload_n 3, 1) := by decide +kernel
theorem c_259_19 : cd 259 19 = some (.ifCond .lt (10), 3) := by decide +kernel
theorem c_259_22 : cd 259 22 = some (.aload_n 0, 1) := by decide +kernel
theorem c_259_23 : cd 259 23 = some (.iload_n 3, 1) := by decide +kernel
theorem c_259_24 : cd 259 24 = some (.iconst (2), 1) := by decide +kernel
theorem c_259_25 : cd 259 25 = some (.invokevirtual 280, 3) := by decide +kernel
theorem c_259_28 : cd 259 28 = some (.ireturn, 1) := by decide +kernel
theorem c_259_29 : cd 259 29 = some (.aload_n 0, 1) := by decide +kernel
theorem c_259_30 : cd 259 30 = some (.iload_n 1, 1) := by decide +kernel
theorem c_259_31 : cd 259 31 = some (.iconst (0), 1) := by decide +kernel
theorem c_259_32 : cd 259 32 = some (.invokevirtual 144, 3) := by decide +kernel
theorem c_259_35 : cd 259 35 = some (.istore 4, 2) := by decide +kernel
theorem c_259_37 : cd 259 37 = some (.aload_n 0, 1) := by decide +kernel
theorem c_259_38 : cd 259 38 = some (.iload_n 1, 1) := by decide +kernel
theorem c_259_39 : cd 259 39 = some (.iconst (4), 1) := by decide +kernel
theorem c_259_40 : cd 259 40 = some (.invokevirtual 144, 3) := by decide +kernel
theorem c_259_43 : cd 259 43 = some (.istore 5, 2) := by decide +kernel
theorem c_259_45 : cd 259 45 = some (.iload_n 2, 1) := by decide +kernel
theorem c_259_46 : cd 259 46 = some (.iconst (1), 1) := by decide +kernel
theorem c_259_47 : cd 259 47 = some (.if_icmp .ne (13), 3) := by decide +kernel
theorem c_259_50 : cd 259 50 = some (.iload 4, 2) := by decide +kernel
theorem c_259_52 : cd 259 52 = some (.iload 5, 2) := by decide +kernel
theorem c_259_54 : cd 259 54 = some (.invokestatic 128, 3) := by decide +kernel
theorem c_259_57 : cd 259 57 = some (.goto (19), 3) := by decide +kernel
theorem c_259_60 : cd 259 60 = some (.iload_n 2, 1) := by decide +kernel
theorem c_259_61 : cd 259 61 = some (.iconst (4), 1) := by decide +kernel
theorem c_259_62 : cd 259 62 = some (.if_icmp .ne (13), 3) := by decide +kernel
theorem c_259_65 : cd 259 65 = some (.iload 4, 2) := by decide +kernel
theorem c_259_67 : cd 259 67 = some (.iload 5, 2) := by decide +kernel
theorem c_259_69 : cd 259 69 = some (.invokestatic 131, 3) := by decide +kernel
theorem c_259_72 : cd 259 72 = some (.goto (4), 3) := by decide +kernel
theorem c_259_75 : cd 259 75 = some (.iconst (0), 1) := by decide +kernel
theorem c_259_76 : cd 259 76 = some (.ireturn, 1) := by decide +kernel
def f_Mo_dueOf_76 (y0 : Int32) (σ : Mm) : Option (Int32 × Mm) := some (y0, σ)
set_option maxRecDepth 100000 in
set_option maxHeartbeats 4000000 in
theorem t_Mo_dueOf_76 {X : Xt} {S : Sh} (hS : ShOK S) {d : Nat} (hd : 6 ≤ d + 1) (y0 : Int32) (u0 : Value) (u1 : Value) (u2 : Value) (u3 : Value) (u4 : Value) (u5 : Value) (σ : Mm) : Rf X S emM (f_Mo_dueOf_76 y0 σ) (d + 1) 259 76 [u0, u1, u2, u3, u4, u5] [.int y0] σ := by
  unfold f_Mo_dueOf_76
  exact rf_ret c_259_76 rfl rfl rfl rfl
def f_Mo_dueOf (x0 : Nat) (x1 : Int32) (x2 : Int32) (σ : Mm) : Option (Int32 × Mm) := (if ¬ x2 = (2 : Int32) then ((f_Mo_countsFor x0 x1 x2 σ).bind fun v14 => (if v14.1 < 0 then ((f_Mo_paperOf v14.2 x0 x1 (0 : Int32)).bind fun v32 => (f_Mo_paperOf v14.2 x0 x1 (4 : Int32)).bind fun v40 => (if ¬ x2 = (1 : Int32) then (if ¬ x2 = (4 : Int32) then (f_Mo_dueOf_76  (0 : Int32) v14.2) else ((f_Mo_shuts v14.2 v32 v40).bind fun v69 => f_Mo_dueOf_76  v69 v14.2)) else ((f_Mo_reach v14.2 v32 v40).bind fun v54 => f_Mo_dueOf_76  v54 v14.2))) else ((f_Mo_ruleOf v14.2 x0 v14.1 (2 : Int32)).bind fun v25 => some (v25, v14.2)))) else ((f_Mo_needOf x0 x1 σ).bind fun v7 => some (v7.1, v7.2)))
set_option maxRecDepth 100000 in
set_option maxHeartbeats 4000000 in
theorem t_Mo_dueOf_e {X : Xt} {S : Sh} (hS : ShOK S) {d : Nat} (hd : 6 ≤ d + 1) (x0 : Nat) (x1 : Int32) (x2 : Int32) (σ : Mm) (h_x0 : tgT x0 = 12) : Rf X S emM (f_Mo_dueOf x0 x1 x2 σ) (d + 1) 259 0 [.ref x0, .int x1, .int x2, unset0, unset0, unset0] [] σ := by
  unfold f_Mo_dueOf
  refine rf_ild (i := 2) (Or.inr ⟨2, rfl, rfl, rfl⟩) c_259_0 rfl ?_
  refine rf_iconst c_259_1 ki_2 ?_
  refine rf_ite (fun hc2 => ?_) (fun hc2 => ?_)
  · refine rf_b2t c_259_2 rfl (decide_eq_true hc2) ?_
    refine rf_ald (i := 0) (Or.inr ⟨0, rfl, rfl, rfl⟩) c_259_11 rfl ?_
    refine rf_ild (i := 1) (Or.inr ⟨1, rfl, rfl, rfl⟩) c_259_12 rfl ?_
    refine rf_ild (i := 2) (Or.inr ⟨2, rfl, rfl, rfl⟩) c_259_13 rfl ?_
    refine rf_callM (as := [.ref x0, .int x1, .int x2]) (kd := 1) c_259_14 rfl (by decide) rfl ml_12_298 (by decide) rfl (rcv_1 hS rfl rfl h_x0 (by decide)) (Nat.zero_le _) rfl rfl (t_Mo_countsFor hS (by omega) x0 x1 x2 σ h_x0) (fun v14 => ?_)
    refine rf_ist (i := 3) (Or.inr ⟨3, rfl, rfl, rfl⟩) c_259_17 (Nat.le_of_ble_eq_true rfl) rfl ?_
    refine rf_ild (i := 3) (Or.inr ⟨3, rfl, rfl, rfl⟩) c_259_18 rfl ?_
    refine rf_ite (fun hc19 => ?_) (fun hc19 => ?_)
    · refine rf_b1t c_259_19 rfl (decide_eq_true hc19) ?_
      refine rf_ald (i := 0) (Or.inr ⟨0, rfl, rfl, rfl⟩) c_259_29 rfl ?_
      refine rf_ild (i := 1) (Or.inr ⟨1, rfl, rfl, rfl⟩) c_259_30 rfl ?_
      refine rf_iconst c_259_31 ki_0 ?_
      refine rf_callI (as := [.ref x0, .int x1, .int (0 : Int32)]) (kd := 1) c_259_32 rfl (by decide) rfl ml_12_144 (by decide) rfl (rcv_1 hS rfl rfl h_x0 (by decide)) (Nat.zero_le _) rfl rfl (t_Mo_paperOf hS (by omega) v14.2 x0 x1 (0 : Int32) h_x0) (fun v32 => ?_)
      refine rf_ist (i := 4) (Or.inl ⟨rfl, rfl⟩) c_259_35 (Nat.le_of_ble_eq_true rfl) rfl ?_
      refine rf_ald (i := 0) (Or.inr ⟨0, rfl, rfl, rfl⟩) c_259_37 rfl ?_
      refine rf_ild (i := 1) (Or.inr ⟨1, rfl, rfl, rfl⟩) c_259_38 rfl ?_
      refine rf_iconst c_259_39 ki_4 ?_
      refine rf_callI (as := [.ref x0, .int x1, .int (4 : Int32)]) (kd := 1) c_259_40 rfl (by decide) rfl ml_12_144 (by decide) rfl (rcv_1 hS rfl rfl h_x0 (by decide)) (Nat.zero_le _) rfl rfl (t_Mo_paperOf hS (by omega) v14.2 x0 x1 (4 : Int32) h_x0) (fun v40 => ?_)
      refine rf_ist (i := 5) (Or.inl ⟨rfl, rfl⟩) c_259_43 (Nat.le_of_ble_eq_true rfl) rfl ?_
      refine rf_ild (i := 2) (Or.inr ⟨2, rfl, rfl, rfl⟩) c_259_45 rfl ?_
      refine rf_iconst c_259_46 ki_1 ?_
      refine rf_ite (fun hc47 => ?_) (fun hc47 => ?_)
      · refine rf_b2t c_259_47 rfl (decide_eq_true hc47) ?_
        refine rf_ild (i := 2) (Or.inr ⟨2, rfl, rfl, rfl⟩) c_259_60 rfl ?_
        refine rf_iconst c_259_61 ki_4 ?_
        refine rf_ite (fun hc62 => ?_) (fun hc62 => ?_)
        · refine rf_b2t c_259_62 rfl (decide_eq_true hc62) ?_
          refine rf_iconst c_259_75 ki_0 ?_
          exact t_Mo_dueOf_76 hS hd  (0 : Int32) (.ref x0) (.int x1) (.int x2) (.int v14.1) (.int v32) (.int v40) v14.2
        · refine rf_b2f c_259_62 rfl (decide_eq_false hc62) ?_
          refine rf_ild (i := 4) (Or.inl ⟨rfl, rfl⟩) c_259_65 rfl ?_
          refine rf_ild (i := 5) (Or.inl ⟨rfl, rfl⟩) c_259_67 rfl ?_
          refine rf_callI (as := [.int v32, .int v40]) (kd := 0) c_259_69 rfl (by decide) rfl ml_12_131 (by decide) rfl (rcv_0 rfl) (Nat.zero_le _) rfl rfl (t_Mo_shuts hS (by omega) v14.2 v32 v40) (fun v69 => ?_)
          refine rf_goto c_259_72 rfl ?_
          exact t_Mo_dueOf_76 hS hd  v69 (.ref x0) (.int x1) (.int x2) (.int v14.1) (.int v32) (.int v40) v14.2
      · refine rf_b2f c_259_47 rfl (decide_eq_false hc47) ?_
        refine rf_ild (i := 4) (Or.inl ⟨rfl, rfl⟩) c_259_50 rfl ?_
        refine rf_ild (i := 5) (Or.inl ⟨rfl, rfl⟩) c_259_52 rfl ?_
        refine rf_callI (as := [.int v32, .int v40]) (kd := 0) c_259_54 rfl (by decide) rfl ml_12_128 (by decide) rfl (rcv_0 rfl) (Nat.zero_le _) rfl rfl (t_Mo_reach hS (by omega) v14.2 v32 v40) (fun v54 => ?_)
        refine rf_goto c_259_57 rfl ?_
        exact t_Mo_dueOf_76 hS hd  v54 (.ref x0) (.int x1) (.int x2) (.int v14.1) (.int v32) (.int v40) v14.2
    · refine rf_b1f c_259_19 rfl (decide_eq_false hc19) ?_
      refine rf_ald (i := 0) (Or.inr ⟨0, rfl, rfl, rfl⟩) c_259_22 rfl ?_
      refine rf_ild (i := 3) (Or.inr ⟨3, rfl, rfl, rfl⟩) c_259_23 rfl ?_
      refine rf_iconst c_259_24 ki_2 ?_
      refine rf_callI (as := [.ref x0, .int v14.1, .int (2 : Int32)]) (kd := 1) c_259_25 rfl (by decide) rfl ml_12_280 (by decide) rfl (rcv_1 hS rfl rfl h_x0 (by decide)) (Nat.zero_le _) rfl rfl (t_Mo_ruleOf hS (by omega) v14.2 x0 v14.1 (2 : Int32) h_x0) (fun v25 => ?_)
      exact rf_ret c_259_28 rfl rfl rfl rfl
  · refine rf_b2f c_259_2 rfl (decide_eq_false hc2) ?_
    refine rf_ald (i := 0) (Or.inr ⟨0, rfl, rfl, rfl⟩) c_259_5 rfl ?_
    refine rf_ild (i := 1) (Or.inr ⟨1, rfl, rfl, rfl⟩) c_259_6 rfl ?_
    refine rf_callM (as := [.ref x0, .int x1]) (kd := 1) c_259_7 rfl (by decide) rfl ml_12_295 (by decide) rfl (rcv_1 hS rfl rfl h_x0 (by decide)) (Nat.zero_le _) rfl rfl (t_Mo_needOf hS (by omega) x0 x1 σ h_x0) (fun v7 => ?_)
    exact rf_ret c_259_10 rfl rfl rfl rfl
theorem t_Mo_dueOf {X : Xt} {S : Sh} (hS : ShOK S) {d : Nat} (hd : 6 ≤ d) (x0 : Nat) (x1 : Int32) (x2 : Int32) (σ : Mm) (h_x0 : tgT x0 = 12) : Rf X S emM (f_Mo_dueOf x0 x1 x2 σ) d 259 0 [.ref x0, .int x1, .int x2, unset0, unset0, unset0] [] σ := by
  obtain ⟨d1, rfl⟩ : ∃ d1, d = d1 + 1 := ⟨d - 1, by omega⟩
  exact t_Mo_dueOf_e hS hd x0 x1 x2 σ h_x0
theorem c_260_0 : cd 260 0 = some (.aload_n 0, 1) := by decide +kernel
theorem c_260_1 : cd 260 1 = some (.iload_n 1, 1) := by decide +kernel
theorem c_260_2 : cd 260 2 = some (.invokevirtual 141, 3) := by decide +kernel
theorem c_260_5 : cd 260 5 = some (.ifCond .eq (21), 3) := by decide +kernel
theorem c_260_8 : cd 260 8 = some (.iload_n 2, 1) := by decide +kernel
theorem c_260_9 : cd 260 9 = some (.iconst (0), 1) := by decide +kernel
theorem c_260_10 : cd 260 10 = some (.iconst (4), 1) := by decide +kernel
theorem c_260_11 : cd 260 11 = some (.invokestatic 82, 3) := by decide +kernel
theorem c_260_14 : cd 260 14 = some (.ifCond .eq (12), 3) := by decide +kernel
theorem c_260_17 : cd 260 17 = some (.aload_n 0, 1) := by decide +kernel
theorem c_260_18 : cd 260 18 = some (.iload_n 1, 1) := by decide +kernel
theorem c_260_19 : cd 260 19 = some (.iload_n 2, 1) := by decide +kernel
theorem c_260_20 : cd 260 20 = some (.invokevirtual 301, 3) := by decide +kernel
theorem c_260_23 : cd 260 23 = some (.goto (5), 3) := by decide +kernel
theorem c_260_26 : cd 260 26 = some (.ldc 91, 2) := by decide +kernel
theorem c_260_28 : cd 260 28 = some (.ireturn, 1) := by decide +kernel
def f_Mo_due_28 (y0 : Int32) (σ : Mm) : Option (Int32 × Mm) := some (y0, σ)
set_option maxRecDepth 100000 in
set_option maxHeartbeats 4000000 in
theorem t_Mo_due_28 {X : Xt} {S : Sh} (hS : ShOK S) {d : Nat} (hd : 7 ≤ d + 1) (y0 : Int32) (u0 : Value) (u1 : Value) (u2 : Value) (σ : Mm) : Rf X S emM (f_Mo_due_28 y0 σ) (d + 1) 260 28 [u0, u1, u2] [.int y0] σ := by
  unfold f_Mo_due_28
  exact rf_ret c_260_28 rfl rfl rfl rfl
def f_Mo_due_26 (σ : Mm) : Option (Int32 × Mm) := f_Mo_due_28  (-1000000001 : Int32) σ
set_option maxRecDepth 100000 in
set_option maxHeartbeats 4000000 in
theorem t_Mo_due_26 {X : Xt} {S : Sh} (hS : ShOK S) {d : Nat} (hd : 7 ≤ d + 1) (u0 : Value) (u1 : Value) (u2 : Value) (σ : Mm) : Rf X S emM (f_Mo_due_26 σ) (d + 1) 260 26 [u0, u1, u2] [] σ := by
  unfold f_Mo_due_26
  refine rf_ldc (Or.inl ⟨rfl, rfl⟩) c_260_26 rfl kl_12_91 ?_
  exact t_Mo_due_28 hS hd  (-1000000001 : Int32) (u0) (u1) (u2) σ
def f_Mo_due (x0 : Nat) (x1 : Int32) (x2 : Int32) (σ : Mm) : Option (Int32 × Mm) := (f_Mo_isPaper σ x0 x1).bind fun v2 => (if v2 = 0 then (f_Mo_due_26  σ) else ((f_Mo_in σ x2 (0 : Int32) (4 : Int32)).bind fun v11 => (if v11 = 0 then (f_Mo_due_26  σ) else ((f_Mo_dueOf x0 x1 x2 σ).bind fun v20 => f_Mo_due_28  v20.1 v20.2))))
set_option maxRecDepth 100000 in
set_option maxHeartbeats 4000000 in
theorem t_Mo_due_e {X : Xt} {S : Sh} (hS : ShOK S) {d : Nat} (hd : 7 ≤ d + 1) (x0 : Nat) (x1 : Int32) (x2 : Int32) (σ : Mm) (h_x0 : tgT x0 = 12) : Rf X S emM (f_Mo_due x0 x1 x2 σ) (d + 1) 260 0 [.ref x0, .int x1, .int x2] [] σ := by
  unfold f_Mo_due
  refine rf_ald (i := 0) (Or.inr ⟨0, rfl, rfl, rfl⟩) c_260_0 rfl ?_
  refine rf_ild (i := 1) (Or.inr ⟨1, rfl, rfl, rfl⟩) c_260_1 rfl ?_
  refine rf_callI (as := [.ref x0, .int x1]) (kd := 1) c_260_2 rfl (by decide) rfl ml_12_141 (by decide) rfl (rcv_1 hS rfl rfl h_x0 (by decide)) (Nat.zero_le _) rfl rfl (t_Mo_isPaper hS (by omega) σ x0 x1 h_x0) (fun v2 => ?_)
  refine rf_ite (fun hc5 => ?_) (fun hc5 => ?_)
  · refine rf_b1t c_260_5 rfl (decide_eq_true hc5) ?_
    exact t_Mo_due_26 hS hd  (.ref x0) (.int x1) (.int x2) σ
  · refine rf_b1f c_260_5 rfl (decide_eq_false hc5) ?_
    refine rf_ild (i := 2) (Or.inr ⟨2, rfl, rfl, rfl⟩) c_260_8 rfl ?_
    refine rf_iconst c_260_9 ki_0 ?_
    refine rf_iconst c_260_10 ki_4 ?_
    refine rf_callI (as := [.int x2, .int (0 : Int32), .int (4 : Int32)]) (kd := 0) c_260_11 rfl (by decide) rfl ml_12_82 (by decide) rfl (rcv_0 rfl) (Nat.zero_le _) rfl rfl (t_Mo_in hS (by omega) σ x2 (0 : Int32) (4 : Int32)) (fun v11 => ?_)
    refine rf_ite (fun hc14 => ?_) (fun hc14 => ?_)
    · refine rf_b1t c_260_14 rfl (decide_eq_true hc14) ?_
      exact t_Mo_due_26 hS hd  (.ref x0) (.int x1) (.int x2) σ
    · refine rf_b1f c_260_14 rfl (decide_eq_false hc14) ?_
      refine rf_ald (i := 0) (Or.inr ⟨0, rfl, rfl, rfl⟩) c_260_17 rfl ?_
      refine rf_ild (i := 1) (Or.inr ⟨1, rfl, rfl, rfl⟩) c_260_18 rfl ?_
      refine rf_ild (i := 2) (Or.inr ⟨2, rfl, rfl, rfl⟩) c_260_19 rfl ?_
      refine rf_callM (as := [.ref x0, .int x1, .int x2]) (kd := 1) c_260_20 rfl (by decide) rfl ml_12_301 (by decide) rfl (rcv_1 hS rfl rfl h_x0 (by decide)) (Nat.zero_le _) rfl rfl (t_Mo_dueOf hS (by omega) x0 x1 x2 σ h_x0) (fun v20 => ?_)
      refine rf_goto c_260_23 rfl ?_
      exact t_Mo_due_28 hS hd  v20.1 (.ref x0) (.int x1) (.int x2) v20.2
theorem t_Mo_due {X : Xt} {S : Sh} (hS : ShOK S) {d : Nat} (hd : 7 ≤ d) (x0 : Nat) (x1 : Int32) (x2 : Int32) (σ : Mm) (h_x0 : tgT x0 = 12) : Rf X S emM (f_Mo_due x0 x1 x2 σ) d 260 0 [.ref x0, .int x1, .int x2] [] σ := by
  obtain ⟨d1, rfl⟩ : ∃ d1, d = d1 + 1 := ⟨d - 1, by omega⟩
  exact t_Mo_due_e hS hd x0 x1 x2 σ h_x0
theorem c_261_0 : cd 261 0 = some (.aload_n 0, 1) := by decide +kernel
theorem c_261_1 : cd 261 1 = some (.iload_n 1, 1) := by decide +kernel
theorem c_261_2 : cd 261 2 = some (.invokevirtual 141, 3) := by decide +kernel
theorem c_261_5 : cd 261 5 = some (.ifCond .eq (24), 3) := by decide +kernel
theorem c_261_8 : cd 261 8 = some (.iload_n 2, 1) := by decide +kernel
theorem c_261_9 : cd 261 9 = some (.iconst (0), 1) := by decide +kernel
theorem c_261_10 : cd 261 10 = some (.iconst (4), 1) := by decide +kernel
theorem c_261_11 : cd 261 11 = some (.invokestatic 82, 3) := by decide +kernel
theorem c_261_14 : cd 261 14 = some (.ifCond .eq (15), 3) := by decide +kernel
theorem c_261_17 : cd 261 17 = some (.aload_n 0, 1) := by decide +kernel
theorem c_261_18 : cd 261 18 = some (.iload_n 1, 1) := by decide +kernel
theorem c_261_19 : cd 261 19 = some (.iload_n 2, 1) := by decide +kernel
theorem c_261_20 : cd 261 20 = some (.invokevirtual 298, 3) := by decide +kernel
theorem c_261_23 : cd 261 23 = some (.invokestatic 96, 3) := by decide +kernel
theorem c_261_26 : cd 261 26 = some (.goto (5), 3) := by decide +kernel
theorem c_261_29 : cd 261 29 = some (.ldc 91, 2) := by decide +kernel
theorem c_261_31 : cd 261 31 = some (.ireturn, 1) := by decide +kernel
def f_Mo_why_31 (y0 : Int32) (σ : Mm) : Option (Int32 × Mm) := some (y0, σ)
set_option maxRecDepth 100000 in
set_option maxHeartbeats 4000000 in
theorem t_Mo_why_31 {X : Xt} {S : Sh} (hS : ShOK S) {d : Nat} (hd : 6 ≤ d + 1) (y0 : Int32) (u0 : Value) (u1 : Value) (u2 : Value) (σ : Mm) : Rf X S emM (f_Mo_why_31 y0 σ) (d + 1) 261 31 [u0, u1, u2] [.int y0] σ := by
  unfold f_Mo_why_31
  exact rf_ret c_261_31 rfl rfl rfl rfl
def f_Mo_why_29 (σ : Mm) : Option (Int32 × Mm) := f_Mo_why_31  (-1000000001 : Int32) σ
set_option maxRecDepth 100000 in
set_option maxHeartbeats 4000000 in
theorem t_Mo_why_29 {X : Xt} {S : Sh} (hS : ShOK S) {d : Nat} (hd : 6 ≤ d + 1) (u0 : Value) (u1 : Value) (u2 : Value) (σ : Mm) : Rf X S emM (f_Mo_why_29 σ) (d + 1) 261 29 [u0, u1, u2] [] σ := by
  unfold f_Mo_why_29
  refine rf_ldc (Or.inl ⟨rfl, rfl⟩) c_261_29 rfl kl_12_91 ?_
  exact t_Mo_why_31 hS hd  (-1000000001 : Int32) (u0) (u1) (u2) σ
def f_Mo_why (x0 : Nat) (x1 : Int32) (x2 : Int32) (σ : Mm) : Option (Int32 × Mm) := (f_Mo_isPaper σ x0 x1).bind fun v2 => (if v2 = 0 then (f_Mo_why_29  σ) else ((f_Mo_in σ x2 (0 : Int32) (4 : Int32)).bind fun v11 => (if v11 = 0 then (f_Mo_why_29  σ) else ((f_Mo_countsFor x0 x1 x2 σ).bind fun v20 => (f_Mo_orNone v20.2 v20.1).bind fun v23 => f_Mo_why_31  v23 v20.2))))
set_option maxRecDepth 100000 in
set_option maxHeartbeats 4000000 in
theorem t_Mo_why_e {X : Xt} {S : Sh} (hS : ShOK S) {d : Nat} (hd : 6 ≤ d + 1) (x0 : Nat) (x1 : Int32) (x2 : Int32) (σ : Mm) (h_x0 : tgT x0 = 12) : Rf X S emM (f_Mo_why x0 x1 x2 σ) (d + 1) 261 0 [.ref x0, .int x1, .int x2] [] σ := by
  unfold f_Mo_why
  refine rf_ald (i := 0) (Or.inr ⟨0, rfl, rfl, rfl⟩) c_261_0 rfl ?_
  refine rf_ild (i := 1) (Or.inr ⟨1, rfl, rfl, rfl⟩) c_261_1 rfl ?_
  refine rf_callI (as := [.ref x0, .int x1]) (kd := 1) c_261_2 rfl (by decide) rfl ml_12_141 (by decide) rfl (rcv_1 hS rfl rfl h_x0 (by decide)) (Nat.zero_le _) rfl rfl (t_Mo_isPaper hS (by omega) σ x0 x1 h_x0) (fun v2 => ?_)
  refine rf_ite (fun hc5 => ?_) (fun hc5 => ?_)
  · refine rf_b1t c_261_5 rfl (decide_eq_true hc5) ?_
    exact t_Mo_why_29 hS hd  (.ref x0) (.int x1) (.int x2) σ
  · refine rf_b1f c_261_5 rfl (decide_eq_false hc5) ?_
    refine rf_ild (i := 2) (Or.inr ⟨2, rfl, rfl, rfl⟩) c_261_8 rfl ?_
    refine rf_iconst c_261_9 ki_0 ?_
    refine rf_iconst c_261_10 ki_4 ?_
    refine rf_callI (as := [.int x2, .int (0 : Int32), .int (4 : Int32)]) (kd := 0) c_261_11 rfl (by decide) rfl ml_12_82 (by decide) rfl (rcv_0 rfl) (Nat.zero_le _) rfl rfl (t_Mo_in hS (by omega) σ x2 (0 : Int32) (4 : Int32)) (fun v11 => ?_)
    refine rf_ite (fun hc14 => ?_) (fun hc14 => ?_)
    · refine rf_b1t c_261_14 rfl (decide_eq_true hc14) ?_
      exact t_Mo_why_29 hS hd  (.ref x0) (.int x1) (.int x2) σ
    · refine rf_b1f c_261_14 rfl (decide_eq_false hc14) ?_
      refine rf_ald (i := 0) (Or.inr ⟨0, rfl, rfl, rfl⟩) c_261_17 rfl ?_
      refine rf_ild (i := 1) (Or.inr ⟨1, rfl, rfl, rfl⟩) c_261_18 rfl ?_
      refine rf_ild (i := 2) (Or.inr ⟨2, rfl, rfl, rfl⟩) c_261_19 rfl ?_
      refine rf_callM (as := [.ref x0, .int x1, .int x2]) (kd := 1) c_261_20 rfl (by decide) rfl ml_12_298 (by decide) rfl (rcv_1 hS rfl rfl h_x0 (by decide)) (Nat.zero_le _) rfl rfl (t_Mo_countsFor hS (by omega) x0 x1 x2 σ h_x0) (fun v20 => ?_)
      refine rf_callI (as := [.int v20.1]) (kd := 0) c_261_23 rfl (by decide) rfl ml_12_96 (by decide) rfl (rcv_0 rfl) (Nat.zero_le _) rfl rfl (t_Mo_orNone hS (by omega) v20.2 v20.1) (fun v23 => ?_)
      refine rf_goto c_261_26 rfl ?_
      exact t_Mo_why_31 hS hd  v23 (.ref x0) (.int x1) (.int x2) v20.2
theorem t_Mo_why {X : Xt} {S : Sh} (hS : ShOK S) {d : Nat} (hd : 6 ≤ d) (x0 : Nat) (x1 : Int32) (x2 : Int32) (σ : Mm) (h_x0 : tgT x0 = 12) : Rf X S emM (f_Mo_why x0 x1 x2 σ) d 261 0 [.ref x0, .int x1, .int x2] [] σ := by
  obtain ⟨d1, rfl⟩ : ∃ d1, d = d1 + 1 := ⟨d - 1, by omega⟩
  exact t_Mo_why_e hS hd x0 x1 x2 σ h_x0
theorem c_262_0 : cd 262 0 = some (.aload_n 0, 1) := by decide +kernel
theorem c_262_1 : cd 262 1 = some (.iload_n 1, 1) := by decide +kernel
theorem c_262_2 : cd 262 2 = some (.invokevirtual 256, 3) := by decide +kernel
theorem c_262_5 : cd 262 5 = some (.ifCond .eq (16), 3) := by decide +kernel
theorem c_262_8 : cd 262 8 = some (.aload_n 0, 1) := by decide +kernel
theorem c_262_9 : cd 262 9 = some (.iload_n 2, 1) := by decide +kernel
theorem c_262_10 : cd 262 10 = some (.invokevirtual 256, 3) := by decide +kernel
theorem c_262_13 : cd 262 13 = some (.ifCond .eq (8), 3) := by decide +kernel
theorem c_262_16 : cd 262 16 = some (.iload_n 1, 1) := by decide +kernel
theorem c_262_17 : cd 262 17 = some (.iload_n 2, 1) := by decide +kernel
theorem c_262_18 : cd 262 18 = some (.if_icmp .ne (6), 3) := by decide +kernel
theorem c_262_21 : cd 262 21 = some (.ldc 91, 2) := by decide +kernel
theorem c_262_23 : cd 262 23 = some (.ireturn, 1) := by decide +kernel
theorem c_262_24 : cd 262 24 = some (.aload_n 0, 1) := by decide +kernel
theorem c_262_25 : cd 262 25 = some (.iload_n 1, 1) := by decide +kernel
theorem c_262_26 : cd 262 26 = some (.iconst (0), 1) := by decide +kernel
theorem c_262_27 : cd 262 27 = some (.invokevirtual 280, 3) := by decide +kernel
theorem c_262_30 : cd 262 30 = some (.istore_n 3, 1) := by decide +kernel
theorem c_262_31 : cd 262 31 = some (.iload_n 3, 1) := by decide +kernel
theorem c_262_32 : cd 262 32 = some (.iconst (2), 1) := by decide +kernel
theorem c_262_33 : cd 262 33 = some (.if_icmp .eq (18), 3) := by decide +kernel
theorem c_262_36 : cd 262 36 = some (.iload_n 3, 1) := by decide +kernel
theorem c_262_37 : cd 262 37 = some (.iconst (5), 1) := by decide +kernel
theorem c_262_38 : cd 262 38 = some (.if_icmp .eq (13), 3) := by decide +kernel
theorem c_262_41 : cd 262 41 = some (.aload_n 0, 1) := by decide +kernel
theorem c_262_42 : cd 262 42 = some (.iload_n 2, 1) := by decide +kernel
theorem c_262_43 : cd 262 43 = some (.iconst (0), 1) := by decide +kernel
theorem c_262_44 : cd 262 44 = some (.invokevirtual 280, 3) := by decide +kernel
theorem c_262_47 : cd 262 47 = some (.iload_n 3, 1) := by decide +kernel
theorem c_262_48 : cd 262 48 = some (.if_icmp .eq (6), 3) := by decide +kernel
theorem c_262_51 : cd 262 51 = some (.ldc 154, 2) := by decide +kernel
theorem c_262_53 : cd 262 53 = some (.ireturn, 1) := by decide +kernel
theorem c_262_54 : cd 262 54 = some (.ldc 81, 2) := by decide +kernel
theorem c_262_56 : cd 262 56 = some (.istore 4, 2) := by decide +kernel
theorem c_262_58 : cd 262 58 = some (.aload_n 0, 1) := by decide +kernel
theorem c_262_59 : cd 262 59 = some (.getfield 9, 3) := by decide +kernel
theorem c_262_62 : cd 262 62 = some (.iconst (4), 1) := by decide +kernel
theorem c_262_63 : cd 262 63 = some (.iaload, 1) := by decide +kernel
theorem c_262_64 : cd 262 64 = some (.iconst (1), 1) := by decide +kernel
theorem c_262_65 : cd 262 65 = some (.isub, 1) := by decide +kernel
theorem c_262_66 : cd 262 66 = some (.istore 5, 2) := by decide +kernel
theorem c_262_68 : cd 262 68 = some (.iload 5, 2) := by decide +kernel
theorem c_262_70 : cd 262 70 = some (.ifCond .lt (53), 3) := by decide +kernel
theorem c_262_73 : cd 262 73 = some (.aload_n 0, 1) := by decide +kernel
theorem c_262_74 : cd 262 74 = some (.iload_n 1, 1) := by decide +kernel
theorem c_262_75 : cd 262 75 = some (.iconst (2), 1) := by decide +kernel
theorem c_262_76 : cd 262 76 = some (.invokevirtual 280, 3) := by decide +kernel
theorem c_262_79 : cd 262 79 = some (.aload_n 0, 1) := by decide +kernel
theorem c_262_80 : cd 262 80 = some (.iload_n 2, 1) := by decide +kernel
theorem c_262_81 : cd 262 81 = some (.iconst (2), 1) := by decide +kernel
theorem c_262_82 : cd 262 82 = some (.invokevirtual 280, 3) := by decide +kernel
theorem c_262_85 : cd 262 85 = some (.if_icmp .eq (38), 3) := by decide +kernel
theorem c_262_88 : cd 262 88 = some (.aload_n 0, 1) := by decide +kernel
theorem c_262_89 : cd 262 89 = some (.iload_n 1, 1) := by decide +kernel
theorem c_262_90 : cd 262 90 = some (.iload 5, 2) := by decide +kernel
theorem c_262_92 : cd 262 92 = some (.invokevirtual 289, 3) := by decide +kernel
theorem c_262_95 : cd 262 95 = some (.ifCond .eq (18), 3) := by decide +kernel
theorem c_262_98 : cd 262 98 = some (.aload_n 0, 1) := by decide +kernel
theorem c_262_99 : cd 262 99 = some (.iload_n 2, 1) := by decide +kernel
theorem c_262_100 : cd 262 100 = some (.iload 5, 2) := by decide +kernel
theorem c_262_102 : cd 262 102 = some (.invokevirtual 289, 3) := by decide +kernel
theorem c_262_105 : cd 262 105 = some (.ifCond .eq (8), 3) := by decide +kernel
theorem c_262_108 : cd 262 108 = some (.iload 5, 2) := by decide +kernel
theorem c_262_110 : cd 262 110 = some (.goto (5), 3) := by decide +kernel
theorem c_262_113 : cd 262 113 = some (.iload 4, 2) := by decide +kernel
theorem c_262_115 : cd 262 115 = some (.istore 4, 2) := by decide +kernel
theorem c_262_117 : cd 262 117 = some (.iinc 5 (-1), 3) := by decide +kernel
theorem c_262_120 : cd 262 120 = some (.goto (-52), 3) := by decide +kernel
theorem c_262_123 : cd 262 123 = some (.iload 4, 2) := by decide +kernel
theorem c_262_125 : cd 262 125 = some (.ireturn, 1) := by decide +kernel
def f_Mo_quarrel_21 (σ : Mm) : Option (Int32 × Mm) := some ((-1000000001 : Int32), σ)
set_option maxRecDepth 100000 in
set_option maxHeartbeats 4000000 in
theorem t_Mo_quarrel_21 {X : Xt} {S : Sh} (hS : ShOK S) {d : Nat} (hd : 4 ≤ d + 1) (u0 : Value) (u1 : Value) (u2 : Value) (u3 : Value) (u4 : Value) (u5 : Value) (σ : Mm) : Rf X S emM (f_Mo_quarrel_21 σ) (d + 1) 262 21 [u0, u1, u2, u3, u4, u5] [] σ := by
  unfold f_Mo_quarrel_21
  refine rf_ldc (Or.inl ⟨rfl, rfl⟩) c_262_21 rfl kl_12_91 ?_
  exact rf_ret c_262_23 rfl rfl rfl rfl
def f_Mo_quarrel_51 (σ : Mm) : Option (Int32 × Mm) := some ((-1000000012 : Int32), σ)
set_option maxRecDepth 100000 in
set_option maxHeartbeats 4000000 in
theorem t_Mo_quarrel_51 {X : Xt} {S : Sh} (hS : ShOK S) {d : Nat} (hd : 4 ≤ d + 1) (u0 : Value) (u1 : Value) (u2 : Value) (u3 : Value) (u4 : Value) (u5 : Value) (σ : Mm) : Rf X S emM (f_Mo_quarrel_51 σ) (d + 1) 262 51 [u0, u1, u2, u3, u4, u5] [] σ := by
  unfold f_Mo_quarrel_51
  refine rf_ldc (Or.inl ⟨rfl, rfl⟩) c_262_51 rfl kl_12_154 ?_
  exact rf_ret c_262_53 rfl rfl rfl rfl
def f_Mo_quarrel_115 (k68 : Nat → Int32 → Int32 → Int32 → Int32 → Mm → Option (Int32 × Mm)) (x0 : Nat) (x1 : Int32) (x2 : Int32) (x5 : Int32) (y0 : Int32) (σ : Mm) : Option (Int32 × Mm) := k68 x0 x1 x2 y0 (x5 + (-1 : Int32)) σ
set_option maxRecDepth 100000 in
set_option maxHeartbeats 4000000 in
theorem t_Mo_quarrel_115 {X : Xt} {S : Sh} (hS : ShOK S) {d : Nat} (hd : 4 ≤ d + 1) {k68 : Nat → Int32 → Int32 → Int32 → Int32 → Mm → Option (Int32 × Mm)} (hk68 : ∀ (x0 : Nat) (x1 : Int32) (x2 : Int32) (x4 : Int32) (x5 : Int32) (u3 : Value) (σ : Mm) (h_x0 : tgT x0 = 12), Rf X S emM (k68 x0 x1 x2 x4 x5 σ) (d + 1) 262 68 [.ref x0, .int x1, .int x2, u3, .int x4, .int x5] [] σ) (x0 : Nat) (x1 : Int32) (x2 : Int32) (x5 : Int32) (y0 : Int32) (u3 : Value) (u4 : Value) (σ : Mm) (h_x0 : tgT x0 = 12) : Rf X S emM (f_Mo_quarrel_115 k68 x0 x1 x2 x5 y0 σ) (d + 1) 262 115 [.ref x0, .int x1, .int x2, u3, u4, .int x5] [.int y0] σ := by
  unfold f_Mo_quarrel_115
  refine rf_ist (i := 4) (Or.inl ⟨rfl, rfl⟩) c_262_115 (Nat.le_of_ble_eq_true rfl) rfl ?_
  refine rf_iinc c_262_117 rfl ki_m1 rfl ?_
  refine rf_goto c_262_120 rfl ?_
  exact hk68 x0 x1 x2 y0 (x5 + (-1 : Int32)) (u3) σ h_x0
def f_Mo_quarrel_113 (k68 : Nat → Int32 → Int32 → Int32 → Int32 → Mm → Option (Int32 × Mm)) (x0 : Nat) (x1 : Int32) (x2 : Int32) (x4 : Int32) (x5 : Int32) (σ : Mm) : Option (Int32 × Mm) := f_Mo_quarrel_115 k68 x0 x1 x2 x5 x4 σ
set_option maxRecDepth 100000 in
set_option maxHeartbeats 4000000 in
theorem t_Mo_quarrel_113 {X : Xt} {S : Sh} (hS : ShOK S) {d : Nat} (hd : 4 ≤ d + 1) {k68 : Nat → Int32 → Int32 → Int32 → Int32 → Mm → Option (Int32 × Mm)} (hk68 : ∀ (x0 : Nat) (x1 : Int32) (x2 : Int32) (x4 : Int32) (x5 : Int32) (u3 : Value) (σ : Mm) (h_x0 : tgT x0 = 12), Rf X S emM (k68 x0 x1 x2 x4 x5 σ) (d + 1) 262 68 [.ref x0, .int x1, .int x2, u3, .int x4, .int x5] [] σ) (x0 : Nat) (x1 : Int32) (x2 : Int32) (x4 : Int32) (x5 : Int32) (u3 : Value) (σ : Mm) (h_x0 : tgT x0 = 12) : Rf X S emM (f_Mo_quarrel_113 k68 x0 x1 x2 x4 x5 σ) (d + 1) 262 113 [.ref x0, .int x1, .int x2, u3, .int x4, .int x5] [] σ := by
  unfold f_Mo_quarrel_113
  refine rf_ild (i := 4) (Or.inl ⟨rfl, rfl⟩) c_262_113 rfl ?_
  exact t_Mo_quarrel_115 hS hd hk68 x0 x1 x2 x5 x4 (u3) (.int x4) σ h_x0
def f_Mo_quarrel_123 (x4 : Int32) (σ : Mm) : Option (Int32 × Mm) := some (x4, σ)
set_option maxRecDepth 100000 in
set_option maxHeartbeats 4000000 in
theorem t_Mo_quarrel_123 {X : Xt} {S : Sh} (hS : ShOK S) {d : Nat} (hd : 4 ≤ d + 1) (x4 : Int32) (u0 : Value) (u1 : Value) (u2 : Value) (u3 : Value) (u5 : Value) (σ : Mm) : Rf X S emM (f_Mo_quarrel_123 x4 σ) (d + 1) 262 123 [u0, u1, u2, u3, .int x4, u5] [] σ := by
  unfold f_Mo_quarrel_123
  refine rf_ild (i := 4) (Or.inl ⟨rfl, rfl⟩) c_262_123 rfl ?_
  exact rf_ret c_262_125 rfl rfl rfl rfl
def f_Mo_quarrel_68 : Nat → Nat → Int32 → Int32 → Int32 → Int32 → Mm → Option (Int32 × Mm)
  | 0, _, _, _, _, _, _ => none
  | n + 1, x0, x1, x2, x4, x5, σ => (if x5 < 0 then (f_Mo_quarrel_123  x4 σ) else ((f_Mo_ruleOf σ x0 x1 (2 : Int32)).bind fun v76 => (f_Mo_ruleOf σ x0 x2 (2 : Int32)).bind fun v82 => (if v76 = v82 then (f_Mo_quarrel_123  x4 σ) else ((f_Mo_wouldCount x0 x1 x5 σ).bind fun v92 => (if v92.1 = 0 then (f_Mo_quarrel_113 (f_Mo_quarrel_68  n) x0 x1 x2 x4 x5 v92.2) else ((f_Mo_wouldCount x0 x2 x5 v92.2).bind fun v102 => (if v102.1 = 0 then (f_Mo_quarrel_113 (f_Mo_quarrel_68  n) x0 x1 x2 x4 x5 v102.2) else (f_Mo_quarrel_115 (f_Mo_quarrel_68  n) x0 x1 x2 x5 x5 v102.2))))))))
set_option maxRecDepth 100000 in
set_option maxHeartbeats 4000000 in
theorem t_Mo_quarrel_68 {X : Xt} {S : Sh} (hS : ShOK S) {d : Nat} (hd : 4 ≤ d + 1) : ∀ (n : Nat) (x0 : Nat) (x1 : Int32) (x2 : Int32) (x4 : Int32) (x5 : Int32) (u3 : Value) (σ : Mm) (h_x0 : tgT x0 = 12), Rf X S emM (f_Mo_quarrel_68 n x0 x1 x2 x4 x5 σ) (d + 1) 262 68 [.ref x0, .int x1, .int x2, u3, .int x4, .int x5] [] σ := by
  intro n
  induction n with
  | zero => intro x0 x1 x2 x4 x5 u3 σ h_x0; exact rf_none
  | succ n ih =>
    intro x0 x1 x2 x4 x5 u3 σ h_x0
    rw [f_Mo_quarrel_68]
    refine rf_ild (i := 5) (Or.inl ⟨rfl, rfl⟩) c_262_68 rfl ?_
    refine rf_ite (fun hc70 => ?_) (fun hc70 => ?_)
    · refine rf_b1t c_262_70 rfl (decide_eq_true hc70) ?_
      exact t_Mo_quarrel_123 hS hd  x4 (.ref x0) (.int x1) (.int x2) (u3) (.int x5) σ
    · refine rf_b1f c_262_70 rfl (decide_eq_false hc70) ?_
      refine rf_ald (i := 0) (Or.inr ⟨0, rfl, rfl, rfl⟩) c_262_73 rfl ?_
      refine rf_ild (i := 1) (Or.inr ⟨1, rfl, rfl, rfl⟩) c_262_74 rfl ?_
      refine rf_iconst c_262_75 ki_2 ?_
      refine rf_callI (as := [.ref x0, .int x1, .int (2 : Int32)]) (kd := 1) c_262_76 rfl (by decide) rfl ml_12_280 (by decide) rfl (rcv_1 hS rfl rfl h_x0 (by decide)) (Nat.zero_le _) rfl rfl (t_Mo_ruleOf hS (by omega) σ x0 x1 (2 : Int32) h_x0) (fun v76 => ?_)
      refine rf_ald (i := 0) (Or.inr ⟨0, rfl, rfl, rfl⟩) c_262_79 rfl ?_
      refine rf_ild (i := 2) (Or.inr ⟨2, rfl, rfl, rfl⟩) c_262_80 rfl ?_
      refine rf_iconst c_262_81 ki_2 ?_
      refine rf_callI (as := [.ref x0, .int x2, .int (2 : Int32)]) (kd := 1) c_262_82 rfl (by decide) rfl ml_12_280 (by decide) rfl (rcv_1 hS rfl rfl h_x0 (by decide)) (by simp [Value.category]) rfl rfl (t_Mo_ruleOf hS (by omega) σ x0 x2 (2 : Int32) h_x0) (fun v82 => ?_)
      refine rf_ite (fun hc85 => ?_) (fun hc85 => ?_)
      · refine rf_b2t c_262_85 rfl (decide_eq_true hc85) ?_
        exact t_Mo_quarrel_123 hS hd  x4 (.ref x0) (.int x1) (.int x2) (u3) (.int x5) σ
      · refine rf_b2f c_262_85 rfl (decide_eq_false hc85) ?_
        refine rf_ald (i := 0) (Or.inr ⟨0, rfl, rfl, rfl⟩) c_262_88 rfl ?_
        refine rf_ild (i := 1) (Or.inr ⟨1, rfl, rfl, rfl⟩) c_262_89 rfl ?_
        refine rf_ild (i := 5) (Or.inl ⟨rfl, rfl⟩) c_262_90 rfl ?_
        refine rf_callM (as := [.ref x0, .int x1, .int x5]) (kd := 1) c_262_92 rfl (by decide) rfl ml_12_289 (by decide) rfl (rcv_1 hS rfl rfl h_x0 (by decide)) (Nat.zero_le _) rfl rfl (t_Mo_wouldCount hS (by omega) x0 x1 x5 σ h_x0) (fun v92 => ?_)
        refine rf_ite (fun hc95 => ?_) (fun hc95 => ?_)
        · refine rf_b1t c_262_95 rfl (decide_eq_true hc95) ?_
          exact t_Mo_quarrel_113 hS hd ih x0 x1 x2 x4 x5 (u3) v92.2 h_x0
        · refine rf_b1f c_262_95 rfl (decide_eq_false hc95) ?_
          refine rf_ald (i := 0) (Or.inr ⟨0, rfl, rfl, rfl⟩) c_262_98 rfl ?_
          refine rf_ild (i := 2) (Or.inr ⟨2, rfl, rfl, rfl⟩) c_262_99 rfl ?_
          refine rf_ild (i := 5) (Or.inl ⟨rfl, rfl⟩) c_262_100 rfl ?_
          refine rf_callM (as := [.ref x0, .int x2, .int x5]) (kd := 1) c_262_102 rfl (by decide) rfl ml_12_289 (by decide) rfl (rcv_1 hS rfl rfl h_x0 (by decide)) (Nat.zero_le _) rfl rfl (t_Mo_wouldCount hS (by omega) x0 x2 x5 v92.2 h_x0) (fun v102 => ?_)
          refine rf_ite (fun hc105 => ?_) (fun hc105 => ?_)
          · refine rf_b1t c_262_105 rfl (decide_eq_true hc105) ?_
            exact t_Mo_quarrel_113 hS hd ih x0 x1 x2 x4 x5 (u3) v102.2 h_x0
          · refine rf_b1f c_262_105 rfl (decide_eq_false hc105) ?_
            refine rf_ild (i := 5) (Or.inl ⟨rfl, rfl⟩) c_262_108 rfl ?_
            refine rf_goto c_262_110 rfl ?_
            exact t_Mo_quarrel_115 hS hd ih x0 x1 x2 x5 x5 (u3) (.int x4) v102.2 h_x0
def f_Mo_quarrel (x0 : Nat) (x1 : Int32) (x2 : Int32) (σ : Mm) : Option (Int32 × Mm) := (f_Mo_isRule σ x0 x1).bind fun v2 => (if v2 = 0 then (f_Mo_quarrel_21  σ) else ((f_Mo_isRule σ x0 x2).bind fun v10 => (if v10 = 0 then (f_Mo_quarrel_21  σ) else (if ¬ x1 = x2 then ((f_Mo_ruleOf σ x0 x1 (0 : Int32)).bind fun v27 => (if v27 = (2 : Int32) then (f_Mo_quarrel_51  σ) else (if v27 = (5 : Int32) then (f_Mo_quarrel_51  σ) else ((f_Mo_ruleOf σ x0 x2 (0 : Int32)).bind fun v44 => (if v44 = v27 then (f_Mo_quarrel_68  NN x0 x1 x2 (-1000000005 : Int32) ((σ (rfT x0 0) (ix (4 : Int32))) - (1 : Int32)) σ) else (f_Mo_quarrel_51  σ)))))) else (f_Mo_quarrel_21  σ)))))
set_option maxRecDepth 100000 in
set_option maxHeartbeats 4000000 in
theorem t_Mo_quarrel_e {X : Xt} {S : Sh} (hS : ShOK S) {d : Nat} (hd : 4 ≤ d + 1) (x0 : Nat) (x1 : Int32) (x2 : Int32) (σ : Mm) (h_x0 : tgT x0 = 12) : Rf X S emM (f_Mo_quarrel x0 x1 x2 σ) (d + 1) 262 0 [.ref x0, .int x1, .int x2, unset0, unset0, unset0] [] σ := by
  unfold f_Mo_quarrel
  refine rf_ald (i := 0) (Or.inr ⟨0, rfl, rfl, rfl⟩) c_262_0 rfl ?_
  refine rf_ild (i := 1) (Or.inr ⟨1, rfl, rfl, rfl⟩) c_262_1 rfl ?_
  refine rf_callI (as := [.ref x0, .int x1]) (kd := 1) c_262_2 rfl (by decide) rfl ml_12_256 (by decide) rfl (rcv_1 hS rfl rfl h_x0 (by decide)) (Nat.zero_le _) rfl rfl (t_Mo_isRule hS (by omega) σ x0 x1 h_x0) (fun v2 => ?_)
  refine rf_ite (fun hc5 => ?_) (fun hc5 => ?_)
  · refine rf_b1t c_262_5 rfl (decide_eq_true hc5) ?_
    exact t_Mo_quarrel_21 hS hd  (.ref x0) (.int x1) (.int x2) (unset0) (unset0) (unset0) σ
  · refine rf_b1f c_262_5 rfl (decide_eq_false hc5) ?_
    refine rf_ald (i := 0) (Or.inr ⟨0, rfl, rfl, rfl⟩) c_262_8 rfl ?_
    refine rf_ild (i := 2) (Or.inr ⟨2, rfl, rfl, rfl⟩) c_262_9 rfl ?_
    refine rf_callI (as := [.ref x0, .int x2]) (kd := 1) c_262_10 rfl (by decide) rfl ml_12_256 (by decide) rfl (rcv_1 hS rfl rfl h_x0 (by decide)) (Nat.zero_le _) rfl rfl (t_Mo_isRule hS (by omega) σ x0 x2 h_x0) (fun v10 => ?_)
    refine rf_ite (fun hc13 => ?_) (fun hc13 => ?_)
    · refine rf_b1t c_262_13 rfl (decide_eq_true hc13) ?_
      exact t_Mo_quarrel_21 hS hd  (.ref x0) (.int x1) (.int x2) (unset0) (unset0) (unset0) σ
    · refine rf_b1f c_262_13 rfl (decide_eq_false hc13) ?_
      refine rf_ild (i := 1) (Or.inr ⟨1, rfl, rfl, rfl⟩) c_262_16 rfl ?_
      refine rf_ild (i := 2) (Or.inr ⟨2, rfl, rfl, rfl⟩) c_262_17 rfl ?_
      refine rf_ite (fun hc18 => ?_) (fun hc18 => ?_)
      · refine rf_b2t c_262_18 rfl (decide_eq_true hc18) ?_
        refine rf_ald (i := 0) (Or.inr ⟨0, rfl, rfl, rfl⟩) c_262_24 rfl ?_
        refine rf_ild (i := 1) (Or.inr ⟨1, rfl, rfl, rfl⟩) c_262_25 rfl ?_
        refine rf_iconst c_262_26 ki_0 ?_
        refine rf_callI (as := [.ref x0, .int x1, .int (0 : Int32)]) (kd := 1) c_262_27 rfl (by decide) rfl ml_12_280 (by decide) rfl (rcv_1 hS rfl rfl h_x0 (by decide)) (Nat.zero_le _) rfl rfl (t_Mo_ruleOf hS (by omega) σ x0 x1 (0 : Int32) h_x0) (fun v27 => ?_)
        refine rf_ist (i := 3) (Or.inr ⟨3, rfl, rfl, rfl⟩) c_262_30 (Nat.le_of_ble_eq_true rfl) rfl ?_
        refine rf_ild (i := 3) (Or.inr ⟨3, rfl, rfl, rfl⟩) c_262_31 rfl ?_
        refine rf_iconst c_262_32 ki_2 ?_
        refine rf_ite (fun hc33 => ?_) (fun hc33 => ?_)
        · refine rf_b2t c_262_33 rfl (decide_eq_true hc33) ?_
          exact t_Mo_quarrel_51 hS hd  (.ref x0) (.int x1) (.int x2) (.int v27) (unset0) (unset0) σ
        · refine rf_b2f c_262_33 rfl (decide_eq_false hc33) ?_
          refine rf_ild (i := 3) (Or.inr ⟨3, rfl, rfl, rfl⟩) c_262_36 rfl ?_
          refine rf_iconst c_262_37 ki_5 ?_
          refine rf_ite (fun hc38 => ?_) (fun hc38 => ?_)
          · refine rf_b2t c_262_38 rfl (decide_eq_true hc38) ?_
            exact t_Mo_quarrel_51 hS hd  (.ref x0) (.int x1) (.int x2) (.int v27) (unset0) (unset0) σ
          · refine rf_b2f c_262_38 rfl (decide_eq_false hc38) ?_
            refine rf_ald (i := 0) (Or.inr ⟨0, rfl, rfl, rfl⟩) c_262_41 rfl ?_
            refine rf_ild (i := 2) (Or.inr ⟨2, rfl, rfl, rfl⟩) c_262_42 rfl ?_
            refine rf_iconst c_262_43 ki_0 ?_
            refine rf_callI (as := [.ref x0, .int x2, .int (0 : Int32)]) (kd := 1) c_262_44 rfl (by decide) rfl ml_12_280 (by decide) rfl (rcv_1 hS rfl rfl h_x0 (by decide)) (Nat.zero_le _) rfl rfl (t_Mo_ruleOf hS (by omega) σ x0 x2 (0 : Int32) h_x0) (fun v44 => ?_)
            refine rf_ild (i := 3) (Or.inr ⟨3, rfl, rfl, rfl⟩) c_262_47 rfl ?_
            refine rf_ite (fun hc48 => ?_) (fun hc48 => ?_)
            · refine rf_b2t c_262_48 rfl (decide_eq_true hc48) ?_
              refine rf_ldc (Or.inl ⟨rfl, rfl⟩) c_262_54 rfl kl_12_81 ?_
              refine rf_ist (i := 4) (Or.inl ⟨rfl, rfl⟩) c_262_56 (Nat.le_of_ble_eq_true rfl) rfl ?_
              refine rf_ald (i := 0) (Or.inr ⟨0, rfl, rfl, rfl⟩) c_262_58 rfl ?_
              refine rf_getr hS c_262_59 rfl fl_12_9 rfl h_x0 ?_
              refine rf_iconst c_262_62 ki_4 ?_
              refine rf_iald hS c_262_63 (tf_12_0 h_x0) (lf_12_0 h_x0) (by decide) ?_
              refine rf_iconst c_262_64 ki_1 ?_
              refine rf_isub c_262_65 ?_
              refine rf_ist (i := 5) (Or.inl ⟨rfl, rfl⟩) c_262_66 (Nat.le_of_ble_eq_true rfl) rfl ?_
              exact t_Mo_quarrel_68 hS hd  NN x0 x1 x2 (-1000000005 : Int32) ((σ (rfT x0 0) (ix (4 : Int32))) - (1 : Int32)) (.int v27) σ h_x0
            · refine rf_b2f c_262_48 rfl (decide_eq_false hc48) ?_
              exact t_Mo_quarrel_51 hS hd  (.ref x0) (.int x1) (.int x2) (.int v27) (unset0) (unset0) σ
      · refine rf_b2f c_262_18 rfl (decide_eq_false hc18) ?_
        exact t_Mo_quarrel_21 hS hd  (.ref x0) (.int x1) (.int x2) (unset0) (unset0) (unset0) σ
theorem t_Mo_quarrel {X : Xt} {S : Sh} (hS : ShOK S) {d : Nat} (hd : 4 ≤ d) (x0 : Nat) (x1 : Int32) (x2 : Int32) (σ : Mm) (h_x0 : tgT x0 = 12) : Rf X S emM (f_Mo_quarrel x0 x1 x2 σ) d 262 0 [.ref x0, .int x1, .int x2, unset0, unset0, unset0] [] σ := by
  obtain ⟨d1, rfl⟩ : ∃ d1, d = d1 + 1 := ⟨d - 1, by omega⟩
  exact t_Mo_quarrel_e hS hd x0 x1 x2 σ h_x0
theorem c_263_0 : cd 263 0 = some (.aload_n 0, 1) := by decide +kernel
theorem c_263_1 : cd 263 1 = some (.iload_n 1, 1) := by decide +kernel
theorem c_263_2 : cd 263 2 = some (.invokevirtual 156, 3) := by decide +kernel
theorem c_263_5 : cd 263 5 = some (.ifCond .ne (5), 3) := by decide +kernel
theorem c_263_8 : cd 263 8 = some (.iconst (1), 1) := by decide +kernel
theorem c_263_9 : cd 263 9 = some (.ireturn, 1) := by decide +kernel
theorem c_263_10 : cd 263 10 = some (.aload_n 0, 1) := by decide +kernel
theorem c_263_11 : cd 263 11 = some (.iload_n 1, 1) := by decide +kernel
theorem c_263_12 : cd 263 12 = some (.iconst (0), 1) := by decide +kernel
theorem c_263_13 : cd 263 13 = some (.invokevirtual 301, 3) := by decide +kernel
theorem c_263_16 : cd 263 16 = some (.iload_n 2, 1) := by decide +kernel
theorem c_263_17 : cd 263 17 = some (.if_icmp .eq (5), 3) := by decide +kernel
theorem c_263_20 : cd 263 20 = some (.iconst (2), 1) := by decide +kernel
theorem c_263_21 : cd 263 21 = some (.ireturn, 1) := by decide +kernel
theorem c_263_22 : cd 263 22 = some (.aload_n 0, 1) := by decide +kernel
theorem c_263_23 : cd 263 23 = some (.iload_n 2, 1) := by decide +kernel
theorem c_263_24 : cd 263 24 = some (.aload_n 0, 1) := by decide +kernel
theorem c_263_25 : cd 263 25 = some (.getfield 9, 3) := by decide +kernel
theorem c_263_28 : cd 263 28 = some (.iconst (0), 1) := by decide +kernel
theorem c_263_29 : cd 263 29 = some (.iaload, 1) := by decide +kernel
theorem c_263_30 : cd 263 30 = some (.invokevirtual 106, 3) := by decide +kernel
theorem c_263_33 : cd 263 33 = some (.ifCond .ne (5), 3) := by decide +kernel
theorem c_263_36 : cd 263 36 = some (.iconst (3), 1) := by decide +kernel
theorem c_263_37 : cd 263 37 = some (.ireturn, 1) := by decide +kernel
theorem c_263_38 : cd 263 38 = some (.aload_n 0, 1) := by decide +kernel
theorem c_263_39 : cd 263 39 = some (.getfield 9, 3) := by decide +kernel
theorem c_263_42 : cd 263 42 = some (.iconst (0), 1) := by decide +kernel
theorem c_263_43 : cd 263 43 = some (.iaload, 1) := by decide +kernel
theorem c_263_44 : cd 263 44 = some (.aload_n 0, 1) := by decide +kernel
theorem c_263_45 : cd 263 45 = some (.iload_n 1, 1) := by decide +kernel
theorem c_263_46 : cd 263 46 = some (.iconst (5), 1) := by decide +kernel
theorem c_263_47 : cd 263 47 = some (.invokevirtual 144, 3) := by decide +kernel
theorem c_263_50 : cd 263 50 = some (.isub, 1) := by decide +kernel
theorem c_263_51 : cd 263 51 = some (.aload_n 0, 1) := by decide +kernel
theorem c_263_52 : cd 263 52 = some (.iload_n 1, 1) := by decide +kernel
theorem c_263_53 : cd 263 53 = some (.iconst (1), 1) := by decide +kernel
theorem c_263_54 : cd 263 54 = some (.invokevirtual 301, 3) := by decide +kernel
theorem c_263_57 : cd 263 57 = some (.if_icmp .ge (5), 3) := by decide +kernel
theorem c_263_60 : cd 263 60 = some (.iconst (4), 1) := by decide +kernel
theorem c_263_61 : cd 263 61 = some (.ireturn, 1) := by decide +kernel
theorem c_263_62 : cd 263 62 = some (.aload_n 0, 1) := by decide +kernel
theorem c_263_63 : cd 263 63 = some (.iload_n 1, 1) := by decide +kernel
theorem c_263_64 : cd 263 64 = some (.invokevirtual 295, 3) := by decide +kernel
theorem c_263_67 : cd 263 67 = some (.aload_n 0, 1) := by decide +kernel
theorem c_263_68 : cd 263 68 = some (.iload_n 1, 1) := by decide +kernel
theorem c_263_69 : cd 263 69 = some (.bipush (7), 2) := by decide +kernel
theorem c_263_71 : cd 263 71 = some (.invokevirtual 144, 3) := by decide +kernel
theorem c_263_74 : cd 263 74 = some (.iconst (-1), 1) := by decide +kernel
theorem c_263_75 : cd 263 75 = some (.ixor, 1) := by decide +kernel
theorem c_263_76 : cd 263 76 = some (.iand, 1) := by decide +kernel
theorem c_263_77 : cd 263 77 = some (.istore_n 3, 1) := by decide +kernel
theorem c_263_78 : cd 263 78 = some (.iload_n 3, 1) := by decide +kernel
theorem c_263_79 : cd 263 79 = some (.ifCond .ne (7), 3) := by decide +kernel
theorem c_263_82 : cd 263 82 = some (.iconst (0), 1) := by decide +kernel
theorem c_263_83 : cd 263 83 = some (.goto (10), 3) := by decide +kernel
theorem c_263_86 : cd 263 86 = some (.bipush (10), 2) := by decide +kernel
theorem c_263_88 : cd 263 88 = some (.iload_n 3, 1) := by decide +kernel
theorem c_263_89 : cd 263 89 = some (.invokestatic 304, 3) := by decide +kernel
theorem c_263_92 : cd 263 92 = some (.iadd, 1) := by decide +kernel
theorem c_263_93 : cd 263 93 = some (.ireturn, 1) := by decide +kernel
def f_Mo_lacksOf_93 (y0 : Int32) (σ : Mm) : Option (Int32 × Mm) := some (y0, σ)
set_option maxRecDepth 100000 in
set_option maxHeartbeats 4000000 in
theorem t_Mo_lacksOf_93 {X : Xt} {S : Sh} (hS : ShOK S) {d : Nat} (hd : 7 ≤ d + 1) (y0 : Int32) (u0 : Value) (u1 : Value) (u2 : Value) (u3 : Value) (σ : Mm) : Rf X S emM (f_Mo_lacksOf_93 y0 σ) (d + 1) 263 93 [u0, u1, u2, u3] [.int y0] σ := by
  unfold f_Mo_lacksOf_93
  exact rf_ret c_263_93 rfl rfl rfl rfl
def f_Mo_lacksOf (x0 : Nat) (x1 : Int32) (x2 : Int32) (σ : Mm) : Option (Int32 × Mm) := (f_Mo_isUnderWay σ x0 x1).bind fun v2 => (if ¬ v2 = 0 then ((f_Mo_dueOf x0 x1 (0 : Int32) σ).bind fun v13 => (if v13.1 = x2 then ((f_Mo_sitsOn v13.2 x0 x2 (v13.2 (rfT x0 0) (ix (0 : Int32)))).bind fun v30 => (if ¬ v30 = 0 then ((f_Mo_paperOf v13.2 x0 x1 (5 : Int32)).bind fun v47 => (f_Mo_dueOf x0 x1 (1 : Int32) v13.2).bind fun v54 => (if v54.1 ≤ ((v13.2 (rfT x0 0) (ix (0 : Int32))) - v47) then ((f_Mo_needOf x0 x1 v54.2).bind fun v64 => (f_Mo_paperOf v64.2 x0 x1 (7 : Int32)).bind fun v71 => (if ¬ (v64.1 &&& (v71 ^^^ (-1 : Int32))) = 0 then ((f_Mo_firstBit v64.2 (v64.1 &&& (v71 ^^^ (-1 : Int32)))).bind fun v89 => f_Mo_lacksOf_93  ((10 : Int32) + v89) v64.2) else (f_Mo_lacksOf_93  (0 : Int32) v64.2))) else (some ((4 : Int32), v54.2)))) else (some ((3 : Int32), v13.2)))) else (some ((2 : Int32), v13.2)))) else (some ((1 : Int32), σ)))
set_option maxRecDepth 100000 in
set_option maxHeartbeats 4000000 in
theorem t_Mo_lacksOf_e {X : Xt} {S : Sh} (hS : ShOK S) {d : Nat} (hd : 7 ≤ d + 1) (x0 : Nat) (x1 : Int32) (x2 : Int32) (σ : Mm) (h_x0 : tgT x0 = 12) : Rf X S emM (f_Mo_lacksOf x0 x1 x2 σ) (d + 1) 263 0 [.ref x0, .int x1, .int x2, unset0] [] σ := by
  unfold f_Mo_lacksOf
  refine rf_ald (i := 0) (Or.inr ⟨0, rfl, rfl, rfl⟩) c_263_0 rfl ?_
  refine rf_ild (i := 1) (Or.inr ⟨1, rfl, rfl, rfl⟩) c_263_1 rfl ?_
  refine rf_callI (as := [.ref x0, .int x1]) (kd := 1) c_263_2 rfl (by decide) rfl ml_12_156 (by decide) rfl (rcv_1 hS rfl rfl h_x0 (by decide)) (Nat.zero_le _) rfl rfl (t_Mo_isUnderWay hS (by omega) σ x0 x1 h_x0) (fun v2 => ?_)
  refine rf_ite (fun hc5 => ?_) (fun hc5 => ?_)
  · refine rf_b1t c_263_5 rfl (decide_eq_true hc5) ?_
    refine rf_ald (i := 0) (Or.inr ⟨0, rfl, rfl, rfl⟩) c_263_10 rfl ?_
    refine rf_ild (i := 1) (Or.inr ⟨1, rfl, rfl, rfl⟩) c_263_11 rfl ?_
    refine rf_iconst c_263_12 ki_0 ?_
    refine rf_callM (as := [.ref x0, .int x1, .int (0 : Int32)]) (kd := 1) c_263_13 rfl (by decide) rfl ml_12_301 (by decide) rfl (rcv_1 hS rfl rfl h_x0 (by decide)) (Nat.zero_le _) rfl rfl (t_Mo_dueOf hS (by omega) x0 x1 (0 : Int32) σ h_x0) (fun v13 => ?_)
    refine rf_ild (i := 2) (Or.inr ⟨2, rfl, rfl, rfl⟩) c_263_16 rfl ?_
    refine rf_ite (fun hc17 => ?_) (fun hc17 => ?_)
    · refine rf_b2t c_263_17 rfl (decide_eq_true hc17) ?_
      refine rf_ald (i := 0) (Or.inr ⟨0, rfl, rfl, rfl⟩) c_263_22 rfl ?_
      refine rf_ild (i := 2) (Or.inr ⟨2, rfl, rfl, rfl⟩) c_263_23 rfl ?_
      refine rf_ald (i := 0) (Or.inr ⟨0, rfl, rfl, rfl⟩) c_263_24 rfl ?_
      refine rf_getr hS c_263_25 rfl fl_12_9 rfl h_x0 ?_
      refine rf_iconst c_263_28 ki_0 ?_
      refine rf_iald hS c_263_29 (tf_12_0 h_x0) (lf_12_0 h_x0) (by decide) ?_
      refine rf_callI (as := [.ref x0, .int x2, .int (v13.2 (rfT x0 0) (ix (0 : Int32)))]) (kd := 1) c_263_30 rfl (by decide) rfl ml_12_106 (by decide) rfl (rcv_1 hS rfl rfl h_x0 (by decide)) (Nat.zero_le _) rfl rfl (t_Mo_sitsOn hS (by omega) v13.2 x0 x2 (v13.2 (rfT x0 0) (ix (0 : Int32))) h_x0) (fun v30 => ?_)
      refine rf_ite (fun hc33 => ?_) (fun hc33 => ?_)
      · refine rf_b1t c_263_33 rfl (decide_eq_true hc33) ?_
        refine rf_ald (i := 0) (Or.inr ⟨0, rfl, rfl, rfl⟩) c_263_38 rfl ?_
        refine rf_getr hS c_263_39 rfl fl_12_9 rfl h_x0 ?_
        refine rf_iconst c_263_42 ki_0 ?_
        refine rf_iald hS c_263_43 (tf_12_0 h_x0) (lf_12_0 h_x0) (by decide) ?_
        refine rf_ald (i := 0) (Or.inr ⟨0, rfl, rfl, rfl⟩) c_263_44 rfl ?_
        refine rf_ild (i := 1) (Or.inr ⟨1, rfl, rfl, rfl⟩) c_263_45 rfl ?_
        refine rf_iconst c_263_46 ki_5 ?_
        refine rf_callI (as := [.ref x0, .int x1, .int (5 : Int32)]) (kd := 1) c_263_47 rfl (by decide) rfl ml_12_144 (by decide) rfl (rcv_1 hS rfl rfl h_x0 (by decide)) (by simp [Value.category]) rfl rfl (t_Mo_paperOf hS (by omega) v13.2 x0 x1 (5 : Int32) h_x0) (fun v47 => ?_)
        refine rf_isub c_263_50 ?_
        refine rf_ald (i := 0) (Or.inr ⟨0, rfl, rfl, rfl⟩) c_263_51 rfl ?_
        refine rf_ild (i := 1) (Or.inr ⟨1, rfl, rfl, rfl⟩) c_263_52 rfl ?_
        refine rf_iconst c_263_53 ki_1 ?_
        refine rf_callM (as := [.ref x0, .int x1, .int (1 : Int32)]) (kd := 1) c_263_54 rfl (by decide) rfl ml_12_301 (by decide) rfl (rcv_1 hS rfl rfl h_x0 (by decide)) (by simp [Value.category]) rfl rfl (t_Mo_dueOf hS (by omega) x0 x1 (1 : Int32) v13.2 h_x0) (fun v54 => ?_)
        refine rf_ite (fun hc57 => ?_) (fun hc57 => ?_)
        · refine rf_b2t c_263_57 rfl (decide_eq_true hc57) ?_
          refine rf_ald (i := 0) (Or.inr ⟨0, rfl, rfl, rfl⟩) c_263_62 rfl ?_
          refine rf_ild (i := 1) (Or.inr ⟨1, rfl, rfl, rfl⟩) c_263_63 rfl ?_
          refine rf_callM (as := [.ref x0, .int x1]) (kd := 1) c_263_64 rfl (by decide) rfl ml_12_295 (by decide) rfl (rcv_1 hS rfl rfl h_x0 (by decide)) (Nat.zero_le _) rfl rfl (t_Mo_needOf hS (by omega) x0 x1 v54.2 h_x0) (fun v64 => ?_)
          refine rf_ald (i := 0) (Or.inr ⟨0, rfl, rfl, rfl⟩) c_263_67 rfl ?_
          refine rf_ild (i := 1) (Or.inr ⟨1, rfl, rfl, rfl⟩) c_263_68 rfl ?_
          refine rf_bipush c_263_69 kb_7 ?_
          refine rf_callI (as := [.ref x0, .int x1, .int (7 : Int32)]) (kd := 1) c_263_71 rfl (by decide) rfl ml_12_144 (by decide) rfl (rcv_1 hS rfl rfl h_x0 (by decide)) (by simp [Value.category]) rfl rfl (t_Mo_paperOf hS (by omega) v64.2 x0 x1 (7 : Int32) h_x0) (fun v71 => ?_)
          refine rf_iconst c_263_74 ki_m1 ?_
          refine rf_ixor c_263_75 ?_
          refine rf_iand c_263_76 ?_
          refine rf_ist (i := 3) (Or.inr ⟨3, rfl, rfl, rfl⟩) c_263_77 (Nat.le_of_ble_eq_true rfl) rfl ?_
          refine rf_ild (i := 3) (Or.inr ⟨3, rfl, rfl, rfl⟩) c_263_78 rfl ?_
          refine rf_ite (fun hc79 => ?_) (fun hc79 => ?_)
          · refine rf_b1t c_263_79 rfl (decide_eq_true hc79) ?_
            refine rf_bipush c_263_86 kb_10 ?_
            refine rf_ild (i := 3) (Or.inr ⟨3, rfl, rfl, rfl⟩) c_263_88 rfl ?_
            refine rf_callI (as := [.int (v64.1 &&& (v71 ^^^ (-1 : Int32)))]) (kd := 0) c_263_89 rfl (by decide) rfl ml_12_304 (by decide) rfl (rcv_0 rfl) (by simp [Value.category]) rfl rfl (t_Mo_firstBit hS (by omega) v64.2 (v64.1 &&& (v71 ^^^ (-1 : Int32)))) (fun v89 => ?_)
            refine rf_iadd c_263_92 ?_
            exact t_Mo_lacksOf_93 hS hd  ((10 : Int32) + v89) (.ref x0) (.int x1) (.int x2) (.int (v64.1 &&& (v71 ^^^ (-1 : Int32)))) v64.2
          · refine rf_b1f c_263_79 rfl (decide_eq_false hc79) ?_
            refine rf_iconst c_263_82 ki_0 ?_
            refine rf_goto c_263_83 rfl ?_
            exact t_Mo_lacksOf_93 hS hd  (0 : Int32) (.ref x0) (.int x1) (.int x2) (.int (v64.1 &&& (v71 ^^^ (-1 : Int32)))) v64.2
        · refine rf_b2f c_263_57 rfl (decide_eq_false hc57) ?_
          refine rf_iconst c_263_60 ki_4 ?_
          exact rf_ret c_263_61 rfl rfl rfl rfl
      · refine rf_b1f c_263_33 rfl (decide_eq_false hc33) ?_
        refine rf_iconst c_263_36 ki_3 ?_
        exact rf_ret c_263_37 rfl rfl rfl rfl
    · refine rf_b2f c_263_17 rfl (decide_eq_false hc17) ?_
      refine rf_iconst c_263_20 ki_2 ?_
      exact rf_ret c_263_21 rfl rfl rfl rfl
  · refine rf_b1f c_263_5 rfl (decide_eq_false hc5) ?_
    refine rf_iconst c_263_8 ki_1 ?_
    exact rf_ret c_263_9 rfl rfl rfl rfl
theorem t_Mo_lacksOf {X : Xt} {S : Sh} (hS : ShOK S) {d : Nat} (hd : 7 ≤ d) (x0 : Nat) (x1 : Int32) (x2 : Int32) (σ : Mm) (h_x0 : tgT x0 = 12) : Rf X S emM (f_Mo_lacksOf x0 x1 x2 σ) d 263 0 [.ref x0, .int x1, .int x2, unset0] [] σ := by
  obtain ⟨d1, rfl⟩ : ∃ d1, d = d1 + 1 := ⟨d - 1, by omega⟩
  exact t_Mo_lacksOf_e hS hd x0 x1 x2 σ h_x0
