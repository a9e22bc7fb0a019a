/-! methods: Mo_told Mo_as Mo_send Mo_isUnderWay Mo_take Mo_word Mo_feed Mo_trim Mo_isLetter Mo_isFigure Mo_readLetters Mo_readFigures Mo_go Mo_isWord Mo_isSign Mo_takesNumber Mo_emit Mo_takesAtom Mo_await Mo_endNots Mo_doAll Mo_isOver Mo_takesE -/
theorem c_223_0 : cd 223 0 = some (.aload_n 0, 1) := by decide +kernel
theorem c_223_1 : cd 223 1 = some (.iload_n 1, 1) := by decide +kernel
theorem c_223_2 : cd 223 2 = some (.invokevirtual 141, 3) := by decide +kernel
theorem c_223_5 : cd 223 5 = some (.ifCond .eq (13), 3) := by decide +kernel
theorem c_223_8 : cd 223 8 = some (.iload_n 2, 1) := by decide +kernel
theorem c_223_9 : cd 223 9 = some (.iconst (0), 1) := by decide +kernel
theorem c_223_10 : cd 223 10 = some (.bipush (15), 2) := by decide +kernel
theorem c_223_12 : cd 223 12 = some (.invokestatic 82, 3) := by decide +kernel
theorem c_223_15 : cd 223 15 = some (.ifCond .ne (6), 3) := by decide +kernel
theorem c_223_18 : cd 223 18 = some (.ldc 91, 2) := by decide +kernel
theorem c_223_20 : cd 223 20 = some (.ireturn, 1) := by decide +kernel
theorem c_223_21 : cd 223 21 = some (.aload_n 0, 1) := by decide +kernel
theorem c_223_22 : cd 223 22 = some (.iload_n 1, 1) := by decide +kernel
theorem c_223_23 : cd 223 23 = some (.iconst (0), 1) := by decide +kernel
theorem c_223_24 : cd 223 24 = some (.invokevirtual 144, 3) := by decide +kernel
theorem c_223_27 : cd 223 27 = some (.istore_n 3, 1) := by decide +kernel
theorem c_223_28 : cd 223 28 = some (.aload_n 0, 1) := by decide +kernel
theorem c_223_29 : cd 223 29 = some (.iload_n 1, 1) := by decide +kernel
theorem c_223_30 : cd 223 30 = some (.iconst (4), 1) := by decide +kernel
theorem c_223_31 : cd 223 31 = some (.invokevirtual 144, 3) := by decide +kernel
theorem c_223_34 : cd 223 34 = some (.istore 4, 2) := by decide +kernel
theorem c_223_36 : cd 223 36 = some (.iload_n 2, 1) := by decide +kernel
theorem c_223_37 : cd 223 37 = some (.tableswitch (69) (12) (15) #[31, 38, 45, 56], 31) := by decide +kernel
theorem c_223_68 : cd 223 68 = some (.iload_n 3, 1) := by decide +kernel
theorem c_223_69 : cd 223 69 = some (.iload 4, 2) := by decide +kernel
theorem c_223_71 : cd 223 71 = some (.invokestatic 128, 3) := by decide +kernel
theorem c_223_74 : cd 223 74 = some (.ireturn, 1) := by decide +kernel
theorem c_223_75 : cd 223 75 = some (.iload_n 3, 1) := by decide +kernel
theorem c_223_76 : cd 223 76 = some (.iload 4, 2) := by decide +kernel
theorem c_223_78 : cd 223 78 = some (.invokestatic 131, 3) := by decide +kernel
theorem c_223_81 : cd 223 81 = some (.ireturn, 1) := by decide +kernel
theorem c_223_82 : cd 223 82 = some (.iload_n 3, 1) := by decide +kernel
theorem c_223_83 : cd 223 83 = some (.iconst (1), 1) := by decide +kernel
theorem c_223_84 : cd 223 84 = some (.if_icmp .ne (7), 3) := by decide +kernel
theorem c_223_87 : cd 223 87 = some (.iconst (0), 1) := by decide +kernel
theorem c_223_88 : cd 223 88 = some (.goto (4), 3) := by decide +kernel
theorem c_223_91 : cd 223 91 = some (.iconst (1), 1) := by decide +kernel
theorem c_223_92 : cd 223 92 = some (.ireturn, 1) := by decide +kernel
theorem c_223_93 : cd 223 93 = some (.iload_n 3, 1) := by decide +kernel
theorem c_223_94 : cd 223 94 = some (.aload_n 0, 1) := by decide +kernel
theorem c_223_95 : cd 223 95 = some (.iload_n 1, 1) := by decide +kernel
theorem c_223_96 : cd 223 96 = some (.iconst (3), 1) := by decide +kernel
theorem c_223_97 : cd 223 97 = some (.invokevirtual 144, 3) := by decide +kernel
theorem c_223_100 : cd 223 100 = some (.iload 4, 2) := by decide +kernel
theorem c_223_102 : cd 223 102 = some (.invokestatic 147, 3) := by decide +kernel
theorem c_223_105 : cd 223 105 = some (.ireturn, 1) := by decide +kernel
theorem c_223_106 : cd 223 106 = some (.iload_n 2, 1) := by decide +kernel
theorem c_223_107 : cd 223 107 = some (.bipush (6), 2) := by decide +kernel
theorem c_223_109 : cd 223 109 = some (.if_icmp .lt (9), 3) := by decide +kernel
theorem c_223_112 : cd 223 112 = some (.iload_n 2, 1) := by decide +kernel
theorem c_223_113 : cd 223 113 = some (.bipush (8), 2) := by decide +kernel
theorem c_223_115 : cd 223 115 = some (.if_icmp .le (15), 3) := by decide +kernel
theorem c_223_118 : cd 223 118 = some (.aload_n 0, 1) := by decide +kernel
theorem c_223_119 : cd 223 119 = some (.iload_n 1, 1) := by decide +kernel
theorem c_223_120 : cd 223 120 = some (.iload_n 2, 1) := by decide +kernel
theorem c_223_121 : cd 223 121 = some (.invokevirtual 144, 3) := by decide +kernel
theorem c_223_124 : cd 223 124 = some (.invokestatic 96, 3) := by decide +kernel
theorem c_223_127 : cd 223 127 = some (.goto (9), 3) := by decide +kernel
theorem c_223_130 : cd 223 130 = some (.aload_n 0, 1) := by decide +kernel
theorem c_223_131 : cd 223 131 = some (.iload_n 1, 1) := by decide +kernel
theorem c_223_132 : cd 223 132 = some (.iload_n 2, 1) := by decide +kernel
theorem c_223_133 : cd 223 133 = some (.invokevirtual 144, 3) := by decide +kernel
theorem c_223_136 : cd 223 136 = some (.ireturn, 1) := by decide +kernel
def f_Mo_told_18 (σ : Mm) : Option Int32 := some (-1000000001 : Int32)
set_option maxRecDepth 100000 in
set_option maxHeartbeats 4000000 in
theorem t_Mo_told_18 {X : Xt} {S : Sh} (hS : ShOK S) {d : Nat} (hd : 3 ≤ d + 1) (σ : Mm) (u0 : Value) (u1 : Value) (u2 : Value) (u3 : Value) (u4 : Value) : Rf X S (emI σ) (f_Mo_told_18 σ) (d + 1) 223 18 [u0, u1, u2, u3, u4] [] σ := by
  unfold f_Mo_told_18
  refine rf_ldc (Or.inl ⟨rfl, rfl⟩) c_223_18 rfl kl_12_91 ?_
  exact rf_ret c_223_20 rfl rfl rfl rfl
def f_Mo_told_92 (σ : Mm) (y0 : Int32) : Option Int32 := some y0
set_option maxRecDepth 100000 in
set_option maxHeartbeats 4000000 in
theorem t_Mo_told_92 {X : Xt} {S : Sh} (hS : ShOK S) {d : Nat} (hd : 3 ≤ d + 1) (σ : Mm) (y0 : Int32) (u0 : Value) (u1 : Value) (u2 : Value) (u3 : Value) (u4 : Value) : Rf X S (emI σ) (f_Mo_told_92 σ y0) (d + 1) 223 92 [u0, u1, u2, u3, u4] [.int y0] σ := by
  unfold f_Mo_told_92
  exact rf_ret c_223_92 rfl rfl rfl rfl
def f_Mo_told_136 (σ : Mm) (y0 : Int32) : Option Int32 := some y0
set_option maxRecDepth 100000 in
set_option maxHeartbeats 4000000 in
theorem t_Mo_told_136 {X : Xt} {S : Sh} (hS : ShOK S) {d : Nat} (hd : 3 ≤ d + 1) (σ : Mm) (y0 : Int32) (u0 : Value) (u1 : Value) (u2 : Value) (u3 : Value) (u4 : Value) : Rf X S (emI σ) (f_Mo_told_136 σ y0) (d + 1) 223 136 [u0, u1, u2, u3, u4] [.int y0] σ := by
  unfold f_Mo_told_136
  exact rf_ret c_223_136 rfl rfl rfl rfl
def f_Mo_told_118 (σ : Mm) (x0 : Nat) (x1 : Int32) (x2 : Int32) : Option Int32 := (f_Mo_paperOf σ x0 x1 x2).bind fun v121 => (f_Mo_orNone σ v121).bind fun v124 => f_Mo_told_136 σ v124
set_option maxRecDepth 100000 in
set_option maxHeartbeats 4000000 in
theorem t_Mo_told_118 {X : Xt} {S : Sh} (hS : ShOK S) {d : Nat} (hd : 3 ≤ d + 1) (σ : Mm) (x0 : Nat) (x1 : Int32) (x2 : Int32) (u3 : Value) (u4 : Value) (h_x0 : tgT x0 = 12) : Rf X S (emI σ) (f_Mo_told_118 σ x0 x1 x2) (d + 1) 223 118 [.ref x0, .int x1, .int x2, u3, u4] [] σ := by
  unfold f_Mo_told_118
  refine rf_ald (i := 0) (Or.inr ⟨0, rfl, rfl, rfl⟩) c_223_118 rfl ?_
  refine rf_ild (i := 1) (Or.inr ⟨1, rfl, rfl, rfl⟩) c_223_119 rfl ?_
  refine rf_ild (i := 2) (Or.inr ⟨2, rfl, rfl, rfl⟩) c_223_120 rfl ?_
  refine rf_callI (as := [.ref x0, .int x1, .int x2]) (kd := 1) c_223_121 rfl (by decide) rfl ml_12_144 (by decide) rfl (rcv_1 hS rfl rfl h_x0 (by decide)) (Nat.zero_le _) rfl rfl (t_Mo_paperOf hS (by omega) σ x0 x1 x2 h_x0) (fun v121 => ?_)
  refine rf_callI (as := [.int v121]) (kd := 0) c_223_124 rfl (by decide) rfl ml_12_96 (by decide) rfl (rcv_0 rfl) (Nat.zero_le _) rfl rfl (t_Mo_orNone hS (by omega) σ v121) (fun v124 => ?_)
  refine rf_goto c_223_127 rfl ?_
  exact t_Mo_told_136 hS hd σ  v124 (.ref x0) (.int x1) (.int x2) (u3) (u4)
def f_Mo_told (σ : Mm) (x0 : Nat) (x1 : Int32) (x2 : Int32) : Option Int32 := (f_Mo_isPaper σ x0 x1).bind fun v2 => (if v2 = 0 then (f_Mo_told_18 σ ) else ((f_Mo_in σ x2 (0 : Int32) (15 : Int32)).bind fun v12 => (if ¬ v12 = 0 then ((f_Mo_paperOf σ x0 x1 (0 : Int32)).bind fun v24 => (f_Mo_paperOf σ x0 x1 (4 : Int32)).bind fun v31 => (if x2 = (12 : Int32) then ((f_Mo_reach σ v24 v31).bind fun v71 => some v71) else (if x2 = (13 : Int32) then ((f_Mo_shuts σ v24 v31).bind fun v78 => some v78) else (if x2 = (14 : Int32) then (if ¬ v24 = (1 : Int32) then (f_Mo_told_92 σ (1 : Int32)) else (f_Mo_told_92 σ (0 : Int32))) else (if x2 = (15 : Int32) then ((f_Mo_paperOf σ x0 x1 (3 : Int32)).bind fun v97 => (f_Mo_weighs σ v24 v97 v31).bind fun v102 => some v102) else (if x2 < (6 : Int32) then (f_Mo_told_118 σ x0 x1 x2) else (if x2 ≤ (8 : Int32) then ((f_Mo_paperOf σ x0 x1 x2).bind fun v133 => f_Mo_told_136 σ v133) else (f_Mo_told_118 σ x0 x1 x2)))))))) else (f_Mo_told_18 σ ))))
set_option maxRecDepth 100000 in
set_option maxHeartbeats 4000000 in
theorem t_Mo_told_e {X : Xt} {S : Sh} (hS : ShOK S) {d : Nat} (hd : 3 ≤ d + 1) (σ : Mm) (x0 : Nat) (x1 : Int32) (x2 : Int32) (h_x0 : tgT x0 = 12) : Rf X S (emI σ) (f_Mo_told σ x0 x1 x2) (d + 1) 223 0 [.ref x0, .int x1, .int x2, unset0, unset0] [] σ := by
  unfold f_Mo_told
  refine rf_ald (i := 0) (Or.inr ⟨0, rfl, rfl, rfl⟩) c_223_0 rfl ?_
  refine rf_ild (i := 1) (Or.inr ⟨1, rfl, rfl, rfl⟩) c_223_1 rfl ?_
  refine rf_callI (as := [.ref x0, .int x1]) (kd := 1) c_223_2 rfl (by decide) rfl ml_12_141 (by decide) rfl (rcv_1 hS rfl rfl h_x0 (by decide)) (Nat.zero_le _) rfl rfl (t_Mo_isPaper hS (by omega) σ x0 x1 h_x0) (fun v2 => ?_)
  refine rf_ite (fun hc5 => ?_) (fun hc5 => ?_)
  · refine rf_b1t c_223_5 rfl (decide_eq_true hc5) ?_
    exact t_Mo_told_18 hS hd σ  (.ref x0) (.int x1) (.int x2) (unset0) (unset0)
  · refine rf_b1f c_223_5 rfl (decide_eq_false hc5) ?_
    refine rf_ild (i := 2) (Or.inr ⟨2, rfl, rfl, rfl⟩) c_223_8 rfl ?_
    refine rf_iconst c_223_9 ki_0 ?_
    refine rf_bipush c_223_10 kb_15 ?_
    refine rf_callI (as := [.int x2, .int (0 : Int32), .int (15 : Int32)]) (kd := 0) c_223_12 rfl (by decide) rfl ml_12_82 (by decide) rfl (rcv_0 rfl) (Nat.zero_le _) rfl rfl (t_Mo_in hS (by omega) σ x2 (0 : Int32) (15 : Int32)) (fun v12 => ?_)
    refine rf_ite (fun hc15 => ?_) (fun hc15 => ?_)
    · refine rf_b1t c_223_15 rfl (decide_eq_true hc15) ?_
      refine rf_ald (i := 0) (Or.inr ⟨0, rfl, rfl, rfl⟩) c_223_21 rfl ?_
      refine rf_ild (i := 1) (Or.inr ⟨1, rfl, rfl, rfl⟩) c_223_22 rfl ?_
      refine rf_iconst c_223_23 ki_0 ?_
      refine rf_callI (as := [.ref x0, .int x1, .int (0 : Int32)]) (kd := 1) c_223_24 rfl (by decide) rfl ml_12_144 (by decide) rfl (rcv_1 hS rfl rfl h_x0 (by decide)) (Nat.zero_le _) rfl rfl (t_Mo_paperOf hS (by omega) σ x0 x1 (0 : Int32) h_x0) (fun v24 => ?_)
      refine rf_ist (i := 3) (Or.inr ⟨3, rfl, rfl, rfl⟩) c_223_27 (Nat.le_of_ble_eq_true rfl) rfl ?_
      refine rf_ald (i := 0) (Or.inr ⟨0, rfl, rfl, rfl⟩) c_223_28 rfl ?_
      refine rf_ild (i := 1) (Or.inr ⟨1, rfl, rfl, rfl⟩) c_223_29 rfl ?_
      refine rf_iconst c_223_30 ki_4 ?_
      refine rf_callI (as := [.ref x0, .int x1, .int (4 : Int32)]) (kd := 1) c_223_31 rfl (by decide) rfl ml_12_144 (by decide) rfl (rcv_1 hS rfl rfl h_x0 (by decide)) (Nat.zero_le _) rfl rfl (t_Mo_paperOf hS (by omega) σ x0 x1 (4 : Int32) h_x0) (fun v31 => ?_)
      refine rf_ist (i := 4) (Or.inl ⟨rfl, rfl⟩) c_223_34 (Nat.le_of_ble_eq_true rfl) rfl ?_
      refine rf_ild (i := 2) (Or.inr ⟨2, rfl, rfl, rfl⟩) c_223_36 rfl ?_
      refine rf_ite (fun hs37_12 => ?_) (fun hs37_12 => ?_)
      · refine rf_tsw (o := 31) c_223_37 (by rw [hs37_12]; decide) rfl ?_
        refine rf_ild (i := 3) (Or.inr ⟨3, rfl, rfl, rfl⟩) c_223_68 rfl ?_
        refine rf_ild (i := 4) (Or.inl ⟨rfl, rfl⟩) c_223_69 rfl ?_
        refine rf_callI (as := [.int v24, .int v31]) (kd := 0) c_223_71 rfl (by decide) rfl ml_12_128 (by decide) rfl (rcv_0 rfl) (Nat.zero_le _) rfl rfl (t_Mo_reach hS (by omega) σ v24 v31) (fun v71 => ?_)
        exact rf_ret c_223_74 rfl rfl rfl rfl
      · refine rf_ite (fun hs37_13 => ?_) (fun hs37_13 => ?_)
        · refine rf_tsw (o := 38) c_223_37 (by rw [hs37_13]; decide) rfl ?_
          refine rf_ild (i := 3) (Or.inr ⟨3, rfl, rfl, rfl⟩) c_223_75 rfl ?_
          refine rf_ild (i := 4) (Or.inl ⟨rfl, rfl⟩) c_223_76 rfl ?_
          refine rf_callI (as := [.int v24, .int v31]) (kd := 0) c_223_78 rfl (by decide) rfl ml_12_131 (by decide) rfl (rcv_0 rfl) (Nat.zero_le _) rfl rfl (t_Mo_shuts hS (by omega) σ v24 v31) (fun v78 => ?_)
          exact rf_ret c_223_81 rfl rfl rfl rfl
        · refine rf_ite (fun hs37_14 => ?_) (fun hs37_14 => ?_)
          · refine rf_tsw (o := 45) c_223_37 (by rw [hs37_14]; decide) rfl ?_
            refine rf_ild (i := 3) (Or.inr ⟨3, rfl, rfl, rfl⟩) c_223_82 rfl ?_
            refine rf_iconst c_223_83 ki_1 ?_
            refine rf_ite (fun hc84 => ?_) (fun hc84 => ?_)
            · refine rf_b2t c_223_84 rfl (decide_eq_true hc84) ?_
              refine rf_iconst c_223_91 ki_1 ?_
              exact t_Mo_told_92 hS hd σ  (1 : Int32) (.ref x0) (.int x1) (.int x2) (.int v24) (.int v31)
            · refine rf_b2f c_223_84 rfl (decide_eq_false hc84) ?_
              refine rf_iconst c_223_87 ki_0 ?_
              refine rf_goto c_223_88 rfl ?_
              exact t_Mo_told_92 hS hd σ  (0 : Int32) (.ref x0) (.int x1) (.int x2) (.int v24) (.int v31)
          · refine rf_ite (fun hs37_15 => ?_) (fun hs37_15 => ?_)
            · refine rf_tsw (o := 56) c_223_37 (by rw [hs37_15]; decide) rfl ?_
              refine rf_ild (i := 3) (Or.inr ⟨3, rfl, rfl, rfl⟩) c_223_93 rfl ?_
              refine rf_ald (i := 0) (Or.inr ⟨0, rfl, rfl, rfl⟩) c_223_94 rfl ?_
              refine rf_ild (i := 1) (Or.inr ⟨1, rfl, rfl, rfl⟩) c_223_95 rfl ?_
              refine rf_iconst c_223_96 ki_3 ?_
              refine rf_callI (as := [.ref x0, .int x1, .int (3 : Int32)]) (kd := 1) c_223_97 rfl (by decide) rfl ml_12_144 (by decide) rfl (rcv_1 hS rfl rfl h_x0 (by decide)) (by simp [Value.category]) rfl rfl (t_Mo_paperOf hS (by omega) σ x0 x1 (3 : Int32) h_x0) (fun v97 => ?_)
              refine rf_ild (i := 4) (Or.inl ⟨rfl, rfl⟩) c_223_100 rfl ?_
              refine rf_callI (as := [.int v24, .int v97, .int v31]) (kd := 0) c_223_102 rfl (by decide) rfl ml_12_147 (by decide) rfl (rcv_0 rfl) (Nat.zero_le _) rfl rfl (t_Mo_weighs hS (by omega) σ v24 v97 v31) (fun v102 => ?_)
              exact rf_ret c_223_105 rfl rfl rfl rfl
            · refine rf_tsw c_223_37 (if_pos (by have e12 := lv_neT hs37_12 (a := 12) (by decide); have e13 := lv_neT hs37_13 (a := 13) (by decide); have e14 := lv_neT hs37_14 (a := 14) (by decide); have e15 := lv_neT hs37_15 (a := 15) (by decide); omega)) rfl ?_
              refine rf_ild (i := 2) (Or.inr ⟨2, rfl, rfl, rfl⟩) c_223_106 rfl ?_
              refine rf_bipush c_223_107 kb_6 ?_
              refine rf_ite (fun hc109 => ?_) (fun hc109 => ?_)
              · refine rf_b2t c_223_109 rfl (decide_eq_true hc109) ?_
                exact t_Mo_told_118 hS hd σ  x0 x1 x2 (.int v24) (.int v31) h_x0
              · refine rf_b2f c_223_109 rfl (decide_eq_false hc109) ?_
                refine rf_ild (i := 2) (Or.inr ⟨2, rfl, rfl, rfl⟩) c_223_112 rfl ?_
                refine rf_bipush c_223_113 kb_8 ?_
                refine rf_ite (fun hc115 => ?_) (fun hc115 => ?_)
                · refine rf_b2t c_223_115 rfl (decide_eq_true hc115) ?_
                  refine rf_ald (i := 0) (Or.inr ⟨0, rfl, rfl, rfl⟩) c_223_130 rfl ?_
                  refine rf_ild (i := 1) (Or.inr ⟨1, rfl, rfl, rfl⟩) c_223_131 rfl ?_
                  refine rf_ild (i := 2) (Or.inr ⟨2, rfl, rfl, rfl⟩) c_223_132 rfl ?_
                  refine rf_callI (as := [.ref x0, .int x1, .int x2]) (kd := 1) c_223_133 rfl (by decide) rfl ml_12_144 (by decide) rfl (rcv_1 hS rfl rfl h_x0 (by decide)) (Nat.zero_le _) rfl rfl (t_Mo_paperOf hS (by omega) σ x0 x1 x2 h_x0) (fun v133 => ?_)
                  exact t_Mo_told_136 hS hd σ  v133 (.ref x0) (.int x1) (.int x2) (.int v24) (.int v31)
                · refine rf_b2f c_223_115 rfl (decide_eq_false hc115) ?_
                  exact t_Mo_told_118 hS hd σ  x0 x1 x2 (.int v24) (.int v31) h_x0
    · refine rf_b1f c_223_15 rfl (decide_eq_false hc15) ?_
      exact t_Mo_told_18 hS hd σ  (.ref x0) (.int x1) (.int x2) (unset0) (unset0)
theorem t_Mo_told {X : Xt} {S : Sh} (hS : ShOK S) {d : Nat} (hd : 3 ≤ d) (σ : Mm) (x0 : Nat) (x1 : Int32) (x2 : Int32) (h_x0 : tgT x0 = 12) : Rf X S (emI σ) (f_Mo_told σ x0 x1 x2) d 223 0 [.ref x0, .int x1, .int x2, unset0, unset0] [] σ := by
  obtain ⟨d1, rfl⟩ : ∃ d1, d = d1 + 1 := ⟨d - 1, by omega⟩
  exact t_Mo_told_e hS hd σ x0 x1 x2 h_x0
theorem c_224_0 : cd 224 0 = some (.aload_n 0, 1) := by decide +kernel
theorem c_224_1 : cd 224 1 = some (.iload_n 1, 1) := by decide +kernel
theorem c_224_2 : cd 224 2 = some (.invokevirtual 141, 3) := by decide +kernel
theorem c_224_5 : cd 224 5 = some (.ifCond .eq (12), 3) := by decide +kernel
theorem c_224_8 : cd 224 8 = some (.iload_n 2, 1) := by decide +kernel
theorem c_224_9 : cd 224 9 = some (.iconst (0), 1) := by decide +kernel
theorem c_224_10 : cd 224 10 = some (.iconst (4), 1) := by decide +kernel
theorem c_224_11 : cd 224 11 = some (.invokestatic 82, 3) := by decide +kernel
theorem c_224_14 : cd 224 14 = some (.ifCond .ne (6), 3) := by decide +kernel
theorem c_224_17 : cd 224 17 = some (.ldc 91, 2) := by decide +kernel
theorem c_224_19 : cd 224 19 = some (.ireturn, 1) := by decide +kernel
theorem c_224_20 : cd 224 20 = some (.aload_n 0, 1) := by decide +kernel
theorem c_224_21 : cd 224 21 = some (.iload_n 1, 1) := by decide +kernel
theorem c_224_22 : cd 224 22 = some (.iconst (0), 1) := by decide +kernel
theorem c_224_23 : cd 224 23 = some (.invokevirtual 144, 3) := by decide +kernel
theorem c_224_26 : cd 224 26 = some (.iload_n 2, 1) := by decide +kernel
theorem c_224_27 : cd 224 27 = some (.invokestatic 151, 3) := by decide +kernel
theorem c_224_30 : cd 224 30 = some (.ifCond .eq (12), 3) := by decide +kernel
theorem c_224_33 : cd 224 33 = some (.aload_n 0, 1) := by decide +kernel
theorem c_224_34 : cd 224 34 = some (.iload_n 1, 1) := by decide +kernel
theorem c_224_35 : cd 224 35 = some (.iconst (3), 1) := by decide +kernel
theorem c_224_36 : cd 224 36 = some (.invokevirtual 144, 3) := by decide +kernel
theorem c_224_39 : cd 224 39 = some (.goto (5), 3) := by decide +kernel
theorem c_224_42 : cd 224 42 = some (.ldc 154, 2) := by decide +kernel
theorem c_224_44 : cd 224 44 = some (.ireturn, 1) := by decide +kernel
def f_Mo_as_17 (σ : Mm) : Option Int32 := some (-1000000001 : Int32)
set_option maxRecDepth 100000 in
set_option maxHeartbeats 4000000 in
theorem t_Mo_as_17 {X : Xt} {S : Sh} (hS : ShOK S) {d : Nat} (hd : 2 ≤ d + 1) (σ : Mm) (u0 : Value) (u1 : Value) (u2 : Value) : Rf X S (emI σ) (f_Mo_as_17 σ) (d + 1) 224 17 [u0, u1, u2] [] σ := by
  unfold f_Mo_as_17
  refine rf_ldc (Or.inl ⟨rfl, rfl⟩) c_224_17 rfl kl_12_91 ?_
  exact rf_ret c_224_19 rfl rfl rfl rfl
def f_Mo_as_44 (σ : Mm) (y0 : Int32) : Option Int32 := some y0
set_option maxRecDepth 100000 in
set_option maxHeartbeats 4000000 in
theorem t_Mo_as_44 {X : Xt} {S : Sh} (hS : ShOK S) {d : Nat} (hd : 2 ≤ d + 1) (σ : Mm) (y0 : Int32) (u0 : Value) (u1 : Value) (u2 : Value) : Rf X S (emI σ) (f_Mo_as_44 σ y0) (d + 1) 224 44 [u0, u1, u2] [.int y0] σ := by
  unfold f_Mo_as_44
  exact rf_ret c_224_44 rfl rfl rfl rfl
def f_Mo_as (σ : Mm) (x0 : Nat) (x1 : Int32) (x2 : Int32) : Option Int32 := (f_Mo_isPaper σ x0 x1).bind fun v2 => (if v2 = 0 then (f_Mo_as_17 σ ) else ((f_Mo_in σ x2 (0 : Int32) (4 : Int32)).bind fun v11 => (if ¬ v11 = 0 then ((f_Mo_paperOf σ x0 x1 (0 : Int32)).bind fun v23 => (f_Mo_isUnder σ v23 x2).bind fun v27 => (if v27 = 0 then (f_Mo_as_44 σ (-1000000012 : Int32)) else ((f_Mo_paperOf σ x0 x1 (3 : Int32)).bind fun v36 => f_Mo_as_44 σ v36))) else (f_Mo_as_17 σ ))))
set_option maxRecDepth 100000 in
set_option maxHeartbeats 4000000 in
theorem t_Mo_as_e {X : Xt} {S : Sh} (hS : ShOK S) {d : Nat} (hd : 2 ≤ d + 1) (σ : Mm) (x0 : Nat) (x1 : Int32) (x2 : Int32) (h_x0 : tgT x0 = 12) : Rf X S (emI σ) (f_Mo_as σ x0 x1 x2) (d + 1) 224 0 [.ref x0, .int x1, .int x2] [] σ := by
  unfold f_Mo_as
  refine rf_ald (i := 0) (Or.inr ⟨0, rfl, rfl, rfl⟩) c_224_0 rfl ?_
  refine rf_ild (i := 1) (Or.inr ⟨1, rfl, rfl, rfl⟩) c_224_1 rfl ?_
  refine rf_callI (as := [.ref x0, .int x1]) (kd := 1) c_224_2 rfl (by decide) rfl ml_12_141 (by decide) rfl (rcv_1 hS rfl rfl h_x0 (by decide)) (Nat.zero_le _) rfl rfl (t_Mo_isPaper hS (by omega) σ x0 x1 h_x0) (fun v2 => ?_)
  refine rf_ite (fun hc5 => ?_) (fun hc5 => ?_)
  · refine rf_b1t c_224_5 rfl (decide_eq_true hc5) ?_
    exact t_Mo_as_17 hS hd σ  (.ref x0) (.int x1) (.int x2)
  · refine rf_b1f c_224_5 rfl (decide_eq_false hc5) ?_
    refine rf_ild (i := 2) (Or.inr ⟨2, rfl, rfl, rfl⟩) c_224_8 rfl ?_
    refine rf_iconst c_224_9 ki_0 ?_
    refine rf_iconst c_224_10 ki_4 ?_
    refine rf_callI (as := [.int x2, .int (0 : Int32), .int (4 : Int32)]) (kd := 0) c_224_11 rfl (by decide) rfl ml_12_82 (by decide) rfl (rcv_0 rfl) (Nat.zero_le _) rfl rfl (t_Mo_in hS (by omega) σ x2 (0 : Int32) (4 : Int32)) (fun v11 => ?_)
    refine rf_ite (fun hc14 => ?_) (fun hc14 => ?_)
    · refine rf_b1t c_224_14 rfl (decide_eq_true hc14) ?_
      refine rf_ald (i := 0) (Or.inr ⟨0, rfl, rfl, rfl⟩) c_224_20 rfl ?_
      refine rf_ild (i := 1) (Or.inr ⟨1, rfl, rfl, rfl⟩) c_224_21 rfl ?_
      refine rf_iconst c_224_22 ki_0 ?_
      refine rf_callI (as := [.ref x0, .int x1, .int (0 : Int32)]) (kd := 1) c_224_23 rfl (by decide) rfl ml_12_144 (by decide) rfl (rcv_1 hS rfl rfl h_x0 (by decide)) (Nat.zero_le _) rfl rfl (t_Mo_paperOf hS (by omega) σ x0 x1 (0 : Int32) h_x0) (fun v23 => ?_)
      refine rf_ild (i := 2) (Or.inr ⟨2, rfl, rfl, rfl⟩) c_224_26 rfl ?_
      refine rf_callI (as := [.int v23, .int x2]) (kd := 0) c_224_27 rfl (by decide) rfl ml_12_151 (by decide) rfl (rcv_0 rfl) (Nat.zero_le _) rfl rfl (t_Mo_isUnder hS (by omega) σ v23 x2) (fun v27 => ?_)
      refine rf_ite (fun hc30 => ?_) (fun hc30 => ?_)
      · refine rf_b1t c_224_30 rfl (decide_eq_true hc30) ?_
        refine rf_ldc (Or.inl ⟨rfl, rfl⟩) c_224_42 rfl kl_12_154 ?_
        exact t_Mo_as_44 hS hd σ  (-1000000012 : Int32) (.ref x0) (.int x1) (.int x2)
      · refine rf_b1f c_224_30 rfl (decide_eq_false hc30) ?_
        refine rf_ald (i := 0) (Or.inr ⟨0, rfl, rfl, rfl⟩) c_224_33 rfl ?_
        refine rf_ild (i := 1) (Or.inr ⟨1, rfl, rfl, rfl⟩) c_224_34 rfl ?_
        refine rf_iconst c_224_35 ki_3 ?_
        refine rf_callI (as := [.ref x0, .int x1, .int (3 : Int32)]) (kd := 1) c_224_36 rfl (by decide) rfl ml_12_144 (by decide) rfl (rcv_1 hS rfl rfl h_x0 (by decide)) (Nat.zero_le _) rfl rfl (t_Mo_paperOf hS (by omega) σ x0 x1 (3 : Int32) h_x0) (fun v36 => ?_)
        refine rf_goto c_224_39 rfl ?_
        exact t_Mo_as_44 hS hd σ  v36 (.ref x0) (.int x1) (.int x2)
    · refine rf_b1f c_224_14 rfl (decide_eq_false hc14) ?_
      exact t_Mo_as_17 hS hd σ  (.ref x0) (.int x1) (.int x2)
theorem t_Mo_as {X : Xt} {S : Sh} (hS : ShOK S) {d : Nat} (hd : 2 ≤ d) (σ : Mm) (x0 : Nat) (x1 : Int32) (x2 : Int32) (h_x0 : tgT x0 = 12) : Rf X S (emI σ) (f_Mo_as σ x0 x1 x2) d 224 0 [.ref x0, .int x1, .int x2] [] σ := by
  obtain ⟨d1, rfl⟩ : ∃ d1, d = d1 + 1 := ⟨d - 1, by omega⟩
  exact t_Mo_as_e hS hd σ x0 x1 x2 h_x0
theorem c_225_0 : cd 225 0 = some (.aload_n 0, 1) := by decide +kernel
theorem c_225_1 : cd 225 1 = some (.iload_n 1, 1) := by decide +kernel
theorem c_225_2 : cd 225 2 = some (.invokevirtual 141, 3) := by decide +kernel
theorem c_225_5 : cd 225 5 = some (.ifCond .ne (6), 3) := by decide +kernel
theorem c_225_8 : cd 225 8 = some (.ldc 91, 2) := by decide +kernel
theorem c_225_10 : cd 225 10 = some (.ireturn, 1) := by decide +kernel
theorem c_225_11 : cd 225 11 = some (.aload_n 0, 1) := by decide +kernel
theorem c_225_12 : cd 225 12 = some (.iload_n 1, 1) := by decide +kernel
theorem c_225_13 : cd 225 13 = some (.iconst (5), 1) := by decide +kernel
theorem c_225_14 : cd 225 14 = some (.invokevirtual 144, 3) := by decide +kernel
theorem c_225_17 : cd 225 17 = some (.ifCond .lt (6), 3) := by decide +kernel
theorem c_225_20 : cd 225 20 = some (.ldc 155, 2) := by decide +kernel
theorem c_225_22 : cd 225 22 = some (.ireturn, 1) := by decide +kernel
theorem c_225_23 : cd 225 23 = some (.aload_n 0, 1) := by decide +kernel
theorem c_225_24 : cd 225 24 = some (.iload_n 1, 1) := by decide +kernel
theorem c_225_25 : cd 225 25 = some (.iconst (5), 1) := by decide +kernel
theorem c_225_26 : cd 225 26 = some (.aload_n 0, 1) := by decide +kernel
theorem c_225_27 : cd 225 27 = some (.getfield 9, 3) := by decide +kernel
theorem c_225_30 : cd 225 30 = some (.iconst (0), 1) := by decide +kernel
theorem c_225_31 : cd 225 31 = some (.iaload, 1) := by decide +kernel
theorem c_225_32 : cd 225 32 = some (.invokevirtual 137, 3) := by decide +kernel
theorem c_225_35 : cd 225 35 = some (.iconst (1), 1) := by decide +kernel
theorem c_225_36 : cd 225 36 = some (.ireturn, 1) := by decide +kernel
def f_Mo_send (x0 : Nat) (x1 : Int32) (σ : Mm) : Option (Int32 × Mm) := (f_Mo_isPaper σ x0 x1).bind fun v2 => (if ¬ v2 = 0 then ((f_Mo_paperOf σ x0 x1 (5 : Int32)).bind fun v14 => (if v14 < 0 then ((f_Mo_set x0 x1 (5 : Int32) (σ (rfT x0 0) (ix (0 : Int32))) σ).bind fun v32 => some ((1 : Int32), v32)) else (some ((-1000000002 : Int32), σ)))) else (some ((-1000000001 : Int32), σ)))
set_option maxRecDepth 100000 in
set_option maxHeartbeats 4000000 in
theorem t_Mo_send_e {X : Xt} {S : Sh} (hS : ShOK S) {d : Nat} (hd : 2 ≤ d + 1) (x0 : Nat) (x1 : Int32) (σ : Mm) (h_x0 : tgT x0 = 12) : Rf X S emM (f_Mo_send x0 x1 σ) (d + 1) 225 0 [.ref x0, .int x1] [] σ := by
  unfold f_Mo_send
  refine rf_ald (i := 0) (Or.inr ⟨0, rfl, rfl, rfl⟩) c_225_0 rfl ?_
  refine rf_ild (i := 1) (Or.inr ⟨1, rfl, rfl, rfl⟩) c_225_1 rfl ?_
  refine rf_callI (as := [.ref x0, .int x1]) (kd := 1) c_225_2 rfl (by decide) rfl ml_12_141 (by decide) rfl (rcv_1 hS rfl rfl h_x0 (by decide)) (Nat.zero_le _) rfl rfl (t_Mo_isPaper hS (by omega) σ x0 x1 h_x0) (fun v2 => ?_)
  refine rf_ite (fun hc5 => ?_) (fun hc5 => ?_)
  · refine rf_b1t c_225_5 rfl (decide_eq_true hc5) ?_
    refine rf_ald (i := 0) (Or.inr ⟨0, rfl, rfl, rfl⟩) c_225_11 rfl ?_
    refine rf_ild (i := 1) (Or.inr ⟨1, rfl, rfl, rfl⟩) c_225_12 rfl ?_
    refine rf_iconst c_225_13 ki_5 ?_
    refine rf_callI (as := [.ref x0, .int x1, .int (5 : Int32)]) (kd := 1) c_225_14 rfl (by decide) rfl ml_12_144 (by decide) rfl (rcv_1 hS rfl rfl h_x0 (by decide)) (Nat.zero_le _) rfl rfl (t_Mo_paperOf hS (by omega) σ x0 x1 (5 : Int32) h_x0) (fun v14 => ?_)
    refine rf_ite (fun hc17 => ?_) (fun hc17 => ?_)
    · refine rf_b1t c_225_17 rfl (decide_eq_true hc17) ?_
      refine rf_ald (i := 0) (Or.inr ⟨0, rfl, rfl, rfl⟩) c_225_23 rfl ?_
      refine rf_ild (i := 1) (Or.inr ⟨1, rfl, rfl, rfl⟩) c_225_24 rfl ?_
      refine rf_iconst c_225_25 ki_5 ?_
      refine rf_ald (i := 0) (Or.inr ⟨0, rfl, rfl, rfl⟩) c_225_26 rfl ?_
      refine rf_getr hS c_225_27 rfl fl_12_9 rfl h_x0 ?_
      refine rf_iconst c_225_30 ki_0 ?_
      refine rf_iald hS c_225_31 (tf_12_0 h_x0) (lf_12_0 h_x0) (by decide) ?_
      refine rf_callV (as := [.ref x0, .int x1, .int (5 : Int32), .int (σ (rfT x0 0) (ix (0 : Int32)))]) (kd := 1) c_225_32 rfl (by decide) rfl ml_12_137 (by decide) rfl (rcv_1 hS rfl rfl h_x0 (by decide)) (Nat.zero_le _) rfl rfl (t_Mo_set hS (by omega) x0 x1 (5 : Int32) (σ (rfT x0 0) (ix (0 : Int32))) σ h_x0) (fun v32 => ?_)
      refine rf_iconst c_225_35 ki_1 ?_
      exact rf_ret c_225_36 rfl rfl rfl rfl
    · refine rf_b1f c_225_17 rfl (decide_eq_false hc17) ?_
      refine rf_ldc (Or.inl ⟨rfl, rfl⟩) c_225_20 rfl kl_12_155 ?_
      exact rf_ret c_225_22 rfl rfl rfl rfl
  · refine rf_b1f c_225_5 rfl (decide_eq_false hc5) ?_
    refine rf_ldc (Or.inl ⟨rfl, rfl⟩) c_225_8 rfl kl_12_91 ?_
    exact rf_ret c_225_10 rfl rfl rfl rfl
theorem t_Mo_send {X : Xt} {S : Sh} (hS : ShOK S) {d : Nat} (hd : 2 ≤ d) (x0 : Nat) (x1 : Int32) (σ : Mm) (h_x0 : tgT x0 = 12) : Rf X S emM (f_Mo_send x0 x1 σ) d 225 0 [.ref x0, .int x1] [] σ := by
  obtain ⟨d1, rfl⟩ : ∃ d1, d = d1 + 1 := ⟨d - 1, by omega⟩
  exact t_Mo_send_e hS hd x0 x1 σ h_x0
theorem c_226_0 : cd 226 0 = some (.aload_n 0, 1) := by decide +kernel
theorem c_226_1 : cd 226 1 = some (.iload_n 1, 1) := by decide +kernel
theorem c_226_2 : cd 226 2 = some (.iconst (5), 1) := by decide +kernel
theorem c_226_3 : cd 226 3 = some (.invokevirtual 144, 3) := by decide +kernel
theorem c_226_6 : cd 226 6 = some (.ifCond .lt (27), 3) := by decide +kernel
theorem c_226_9 : cd 226 9 = some (.aload_n 0, 1) := by decide +kernel
theorem c_226_10 : cd 226 10 = some (.iload_n 1, 1) := by decide +kernel
theorem c_226_11 : cd 226 11 = some (.bipush (6), 2) := by decide +kernel
theorem c_226_13 : cd 226 13 = some (.invokevirtual 144, 3) := by decide +kernel
theorem c_226_16 : cd 226 16 = some (.ifCond .ne (17), 3) := by decide +kernel
theorem c_226_19 : cd 226 19 = some (.aload_n 0, 1) := by decide +kernel
theorem c_226_20 : cd 226 20 = some (.iload_n 1, 1) := by decide +kernel
theorem c_226_21 : cd 226 21 = some (.bipush (9), 2) := by decide +kernel
theorem c_226_23 : cd 226 23 = some (.invokevirtual 144, 3) := by decide +kernel
theorem c_226_26 : cd 226 26 = some (.ifCond .ge (7), 3) := by decide +kernel
theorem c_226_29 : cd 226 29 = some (.iconst (1), 1) := by decide +kernel
theorem c_226_30 : cd 226 30 = some (.goto (4), 3) := by decide +kernel
theorem c_226_33 : cd 226 33 = some (.iconst (0), 1) := by decide +kernel
theorem c_226_34 : cd 226 34 = some (.ireturn, 1) := by decide +kernel
def f_Mo_isUnderWay_34 (σ : Mm) (y0 : Int32) : Option Int32 := if zB y0 = true then some y0 else none
set_option maxRecDepth 100000 in
set_option maxHeartbeats 4000000 in
theorem t_Mo_isUnderWay_34 {X : Xt} {S : Sh} (hS : ShOK S) {d : Nat} (hd : 1 ≤ d + 1) (σ : Mm) (y0 : Int32) (u0 : Value) (u1 : Value) : Rf X S (emI σ) (f_Mo_isUnderWay_34 σ y0) (d + 1) 226 34 [u0, u1] [.int y0] σ := by
  unfold f_Mo_isUnderWay_34
  refine rf_ite (fun hq34 => ?_) (fun _ => rf_none)
  exact rf_ret c_226_34 rfl (zB_n hq34) rfl rfl
def f_Mo_isUnderWay_33 (σ : Mm) : Option Int32 := f_Mo_isUnderWay_34 σ (0 : Int32)
set_option maxRecDepth 100000 in
set_option maxHeartbeats 4000000 in
theorem t_Mo_isUnderWay_33 {X : Xt} {S : Sh} (hS : ShOK S) {d : Nat} (hd : 1 ≤ d + 1) (σ : Mm) (u0 : Value) (u1 : Value) : Rf X S (emI σ) (f_Mo_isUnderWay_33 σ) (d + 1) 226 33 [u0, u1] [] σ := by
  unfold f_Mo_isUnderWay_33
  refine rf_iconst c_226_33 ki_0 ?_
  exact t_Mo_isUnderWay_34 hS hd σ  (0 : Int32) (u0) (u1)
def f_Mo_isUnderWay (σ : Mm) (x0 : Nat) (x1 : Int32) : Option Int32 := (f_Mo_paperOf σ x0 x1 (5 : Int32)).bind fun v3 => (if v3 < 0 then (f_Mo_isUnderWay_33 σ ) else ((f_Mo_paperOf σ x0 x1 (6 : Int32)).bind fun v13 => (if ¬ v13 = 0 then (f_Mo_isUnderWay_33 σ ) else ((f_Mo_paperOf σ x0 x1 (9 : Int32)).bind fun v23 => (if 0 ≤ v23 then (f_Mo_isUnderWay_33 σ ) else (f_Mo_isUnderWay_34 σ (1 : Int32)))))))
set_option maxRecDepth 100000 in
set_option maxHeartbeats 4000000 in
theorem t_Mo_isUnderWay_e {X : Xt} {S : Sh} (hS : ShOK S) {d : Nat} (hd : 1 ≤ d + 1) (σ : Mm) (x0 : Nat) (x1 : Int32) (h_x0 : tgT x0 = 12) : Rf X S (emI σ) (f_Mo_isUnderWay σ x0 x1) (d + 1) 226 0 [.ref x0, .int x1] [] σ := by
  unfold f_Mo_isUnderWay
  refine rf_ald (i := 0) (Or.inr ⟨0, rfl, rfl, rfl⟩) c_226_0 rfl ?_
  refine rf_ild (i := 1) (Or.inr ⟨1, rfl, rfl, rfl⟩) c_226_1 rfl ?_
  refine rf_iconst c_226_2 ki_5 ?_
  refine rf_callI (as := [.ref x0, .int x1, .int (5 : Int32)]) (kd := 1) c_226_3 rfl (by decide) rfl ml_12_144 (by decide) rfl (rcv_1 hS rfl rfl h_x0 (by decide)) (Nat.zero_le _) rfl rfl (t_Mo_paperOf hS (by omega) σ x0 x1 (5 : Int32) h_x0) (fun v3 => ?_)
  refine rf_ite (fun hc6 => ?_) (fun hc6 => ?_)
  · refine rf_b1t c_226_6 rfl (decide_eq_true hc6) ?_
    exact t_Mo_isUnderWay_33 hS hd σ  (.ref x0) (.int x1)
  · refine rf_b1f c_226_6 rfl (decide_eq_false hc6) ?_
    refine rf_ald (i := 0) (Or.inr ⟨0, rfl, rfl, rfl⟩) c_226_9 rfl ?_
    refine rf_ild (i := 1) (Or.inr ⟨1, rfl, rfl, rfl⟩) c_226_10 rfl ?_
    refine rf_bipush c_226_11 kb_6 ?_
    refine rf_callI (as := [.ref x0, .int x1, .int (6 : Int32)]) (kd := 1) c_226_13 rfl (by decide) rfl ml_12_144 (by decide) rfl (rcv_1 hS rfl rfl h_x0 (by decide)) (Nat.zero_le _) rfl rfl (t_Mo_paperOf hS (by omega) σ x0 x1 (6 : Int32) h_x0) (fun v13 => ?_)
    refine rf_ite (fun hc16 => ?_) (fun hc16 => ?_)
    · refine rf_b1t c_226_16 rfl (decide_eq_true hc16) ?_
      exact t_Mo_isUnderWay_33 hS hd σ  (.ref x0) (.int x1)
    · refine rf_b1f c_226_16 rfl (decide_eq_false hc16) ?_
      refine rf_ald (i := 0) (Or.inr ⟨0, rfl, rfl, rfl⟩) c_226_19 rfl ?_
      refine rf_ild (i := 1) (Or.inr ⟨1, rfl, rfl, rfl⟩) c_226_20 rfl ?_
      refine rf_bipush c_226_21 kb_9 ?_
      refine rf_callI (as := [.ref x0, .int x1, .int (9 : Int32)]) (kd := 1) c_226_23 rfl (by decide) rfl ml_12_144 (by decide) rfl (rcv_1 hS rfl rfl h_x0 (by decide)) (Nat.zero_le _) rfl rfl (t_Mo_paperOf hS (by omega) σ x0 x1 (9 : Int32) h_x0) (fun v23 => ?_)
      refine rf_ite (fun hc26 => ?_) (fun hc26 => ?_)
      · refine rf_b1t c_226_26 rfl (decide_eq_true hc26) ?_
        exact t_Mo_isUnderWay_33 hS hd σ  (.ref x0) (.int x1)
      · refine rf_b1f c_226_26 rfl (decide_eq_false hc26) ?_
        refine rf_iconst c_226_29 ki_1 ?_
        refine rf_goto c_226_30 rfl ?_
        exact t_Mo_isUnderWay_34 hS hd σ  (1 : Int32) (.ref x0) (.int x1)
theorem t_Mo_isUnderWay {X : Xt} {S : Sh} (hS : ShOK S) {d : Nat} (hd : 1 ≤ d) (σ : Mm) (x0 : Nat) (x1 : Int32) (h_x0 : tgT x0 = 12) : Rf X S (emI σ) (f_Mo_isUnderWay σ x0 x1) d 226 0 [.ref x0, .int x1] [] σ := by
  obtain ⟨d1, rfl⟩ : ∃ d1, d = d1 + 1 := ⟨d - 1, by omega⟩
  exact t_Mo_isUnderWay_e hS hd σ x0 x1 h_x0
theorem c_227_0 : cd 227 0 = some (.aload_n 0, 1) := by decide +kernel
theorem c_227_1 : cd 227 1 = some (.iload_n 1, 1) := by decide +kernel
theorem c_227_2 : cd 227 2 = some (.invokevirtual 141, 3) := by decide +kernel
theorem c_227_5 : cd 227 5 = some (.ifCond .ne (6), 3) := by decide +kernel
theorem c_227_8 : cd 227 8 = some (.ldc 91, 2) := by decide +kernel
theorem c_227_10 : cd 227 10 = some (.ireturn, 1) := by decide +kernel
theorem c_227_11 : cd 227 11 = some (.aload_n 0, 1) := by decide +kernel
theorem c_227_12 : cd 227 12 = some (.iload_n 1, 1) := by decide +kernel
theorem c_227_13 : cd 227 13 = some (.invokevirtual 156, 3) := by decide +kernel
theorem c_227_16 : cd 227 16 = some (.ifCond .ne (6), 3) := by decide +kernel
theorem c_227_19 : cd 227 19 = some (.ldc 155, 2) := by decide +kernel
theorem c_227_21 : cd 227 21 = some (.ireturn, 1) := by decide +kernel
theorem c_227_22 : cd 227 22 = some (.aload_n 0, 1) := by decide +kernel
theorem c_227_23 : cd 227 23 = some (.iload_n 1, 1) := by decide +kernel
theorem c_227_24 : cd 227 24 = some (.bipush (6), 2) := by decide +kernel
theorem c_227_26 : cd 227 26 = some (.iconst (1), 1) := by decide +kernel
theorem c_227_27 : cd 227 27 = some (.invokevirtual 137, 3) := by decide +kernel
theorem c_227_30 : cd 227 30 = some (.iconst (1), 1) := by decide +kernel
theorem c_227_31 : cd 227 31 = some (.ireturn, 1) := by decide +kernel
def f_Mo_take (x0 : Nat) (x1 : Int32) (σ : Mm) : Option (Int32 × Mm) := (f_Mo_isPaper σ x0 x1).bind fun v2 => (if ¬ v2 = 0 then ((f_Mo_isUnderWay σ x0 x1).bind fun v13 => (if ¬ v13 = 0 then ((f_Mo_set x0 x1 (6 : Int32) (1 : Int32) σ).bind fun v27 => some ((1 : Int32), v27)) else (some ((-1000000002 : Int32), σ)))) else (some ((-1000000001 : Int32), σ)))
set_option maxRecDepth 100000 in
set_option maxHeartbeats 4000000 in
theorem t_Mo_take_e {X : Xt} {S : Sh} (hS : ShOK S) {d : Nat} (hd : 2 ≤ d + 1) (x0 : Nat) (x1 : Int32) (σ : Mm) (h_x0 : tgT x0 = 12) : Rf X S emM (f_Mo_take x0 x1 σ) (d + 1) 227 0 [.ref x0, .int x1] [] σ := by
  unfold f_Mo_take
  refine rf_ald (i := 0) (Or.inr ⟨0, rfl, rfl, rfl⟩) c_227_0 rfl ?_
  refine rf_ild (i := 1) (Or.inr ⟨1, rfl, rfl, rfl⟩) c_227_1 rfl ?_
  refine rf_callI (as := [.ref x0, .int x1]) (kd := 1) c_227_2 rfl (by decide) rfl ml_12_141 (by decide) rfl (rcv_1 hS rfl rfl h_x0 (by decide)) (Nat.zero_le _) rfl rfl (t_Mo_isPaper hS (by omega) σ x0 x1 h_x0) (fun v2 => ?_)
  refine rf_ite (fun hc5 => ?_) (fun hc5 => ?_)
  · refine rf_b1t c_227_5 rfl (decide_eq_true hc5) ?_
    refine rf_ald (i := 0) (Or.inr ⟨0, rfl, rfl, rfl⟩) c_227_11 rfl ?_
    refine rf_ild (i := 1) (Or.inr ⟨1, rfl, rfl, rfl⟩) c_227_12 rfl ?_
    refine rf_callI (as := [.ref x0, .int x1]) (kd := 1) c_227_13 rfl (by decide) rfl ml_12_156 (by decide) rfl (rcv_1 hS rfl rfl h_x0 (by decide)) (Nat.zero_le _) rfl rfl (t_Mo_isUnderWay hS (by omega) σ x0 x1 h_x0) (fun v13 => ?_)
    refine rf_ite (fun hc16 => ?_) (fun hc16 => ?_)
    · refine rf_b1t c_227_16 rfl (decide_eq_true hc16) ?_
      refine rf_ald (i := 0) (Or.inr ⟨0, rfl, rfl, rfl⟩) c_227_22 rfl ?_
      refine rf_ild (i := 1) (Or.inr ⟨1, rfl, rfl, rfl⟩) c_227_23 rfl ?_
      refine rf_bipush c_227_24 kb_6 ?_
      refine rf_iconst c_227_26 ki_1 ?_
      refine rf_callV (as := [.ref x0, .int x1, .int (6 : Int32), .int (1 : Int32)]) (kd := 1) c_227_27 rfl (by decide) rfl ml_12_137 (by decide) rfl (rcv_1 hS rfl rfl h_x0 (by decide)) (Nat.zero_le _) rfl rfl (t_Mo_set hS (by omega) x0 x1 (6 : Int32) (1 : Int32) σ h_x0) (fun v27 => ?_)
      refine rf_iconst c_227_30 ki_1 ?_
      exact rf_ret c_227_31 rfl rfl rfl rfl
    · refine rf_b1f c_227_16 rfl (decide_eq_false hc16) ?_
      refine rf_ldc (Or.inl ⟨rfl, rfl⟩) c_227_19 rfl kl_12_155 ?_
      exact rf_ret c_227_21 rfl rfl rfl rfl
  · refine rf_b1f c_227_5 rfl (decide_eq_false hc5) ?_
    refine rf_ldc (Or.inl ⟨rfl, rfl⟩) c_227_8 rfl kl_12_91 ?_
    exact rf_ret c_227_10 rfl rfl rfl rfl
theorem t_Mo_take {X : Xt} {S : Sh} (hS : ShOK S) {d : Nat} (hd : 2 ≤ d) (x0 : Nat) (x1 : Int32) (σ : Mm) (h_x0 : tgT x0 = 12) : Rf X S emM (f_Mo_take x0 x1 σ) d 227 0 [.ref x0, .int x1] [] σ := by
  obtain ⟨d1, rfl⟩ : ∃ d1, d = d1 + 1 := ⟨d - 1, by omega⟩
  exact t_Mo_take_e hS hd x0 x1 σ h_x0
theorem c_228_0 : cd 228 0 = some (.aload_n 0, 1) := by decide +kernel
theorem c_228_1 : cd 228 1 = some (.iload_n 1, 1) := by decide +kernel
theorem c_228_2 : cd 228 2 = some (.invokevirtual 141, 3) := by decide +kernel
theorem c_228_5 : cd 228 5 = some (.ifCond .eq (20), 3) := by decide +kernel
theorem c_228_8 : cd 228 8 = some (.aload_n 0, 1) := by decide +kernel
theorem c_228_9 : cd 228 9 = some (.iload_n 2, 1) := by decide +kernel
theorem c_228_10 : cd 228 10 = some (.invokevirtual 87, 3) := by decide +kernel
theorem c_228_13 : cd 228 13 = some (.ifCond .eq (12), 3) := by decide +kernel
theorem c_228_16 : cd 228 16 = some (.iload_n 3, 1) := by decide +kernel
theorem c_228_17 : cd 228 17 = some (.iconst (0), 1) := by decide +kernel
theorem c_228_18 : cd 228 18 = some (.iconst (1), 1) := by decide +kernel
theorem c_228_19 : cd 228 19 = some (.invokestatic 82, 3) := by decide +kernel
theorem c_228_22 : cd 228 22 = some (.ifCond .ne (6), 3) := by decide +kernel
theorem c_228_25 : cd 228 25 = some (.ldc 91, 2) := by decide +kernel
theorem c_228_27 : cd 228 27 = some (.ireturn, 1) := by decide +kernel
theorem c_228_28 : cd 228 28 = some (.aload_n 0, 1) := by decide +kernel
theorem c_228_29 : cd 228 29 = some (.iload_n 1, 1) := by decide +kernel
theorem c_228_30 : cd 228 30 = some (.invokevirtual 156, 3) := by decide +kernel
theorem c_228_33 : cd 228 33 = some (.ifCond .ne (6), 3) := by decide +kernel
theorem c_228_36 : cd 228 36 = some (.ldc 155, 2) := by decide +kernel
theorem c_228_38 : cd 228 38 = some (.ireturn, 1) := by decide +kernel
theorem c_228_39 : cd 228 39 = some (.iconst (1), 1) := by decide +kernel
theorem c_228_40 : cd 228 40 = some (.iload_n 2, 1) := by decide +kernel
theorem c_228_41 : cd 228 41 = some (.ishl, 1) := by decide +kernel
theorem c_228_42 : cd 228 42 = some (.istore 4, 2) := by decide +kernel
theorem c_228_44 : cd 228 44 = some (.aload_n 0, 1) := by decide +kernel
theorem c_228_45 : cd 228 45 = some (.iload_n 1, 1) := by decide +kernel
theorem c_228_46 : cd 228 46 = some (.bipush (7), 2) := by decide +kernel
theorem c_228_48 : cd 228 48 = some (.invokevirtual 144, 3) := by decide +kernel
theorem c_228_51 : cd 228 51 = some (.istore 5, 2) := by decide +kernel
theorem c_228_53 : cd 228 53 = some (.aload_n 0, 1) := by decide +kernel
theorem c_228_54 : cd 228 54 = some (.iload_n 1, 1) := by decide +kernel
theorem c_228_55 : cd 228 55 = some (.bipush (8), 2) := by decide +kernel
theorem c_228_57 : cd 228 57 = some (.invokevirtual 144, 3) := by decide +kernel
theorem c_228_60 : cd 228 60 = some (.istore 6, 2) := by decide +kernel
theorem c_228_62 : cd 228 62 = some (.aload_n 0, 1) := by decide +kernel
theorem c_228_63 : cd 228 63 = some (.iload_n 1, 1) := by decide +kernel
theorem c_228_64 : cd 228 64 = some (.bipush (7), 2) := by decide +kernel
theorem c_228_66 : cd 228 66 = some (.iload_n 3, 1) := by decide +kernel
theorem c_228_67 : cd 228 67 = some (.iconst (1), 1) := by decide +kernel
theorem c_228_68 : cd 228 68 = some (.if_icmp .ne (11), 3) := by decide +kernel
theorem c_228_71 : cd 228 71 = some (.iload 5, 2) := by decide +kernel
theorem c_228_73 : cd 228 73 = some (.iload 4, 2) := by decide +kernel
theorem c_228_75 : cd 228 75 = some (.ior, 1) := by decide +kernel
theorem c_228_76 : cd 228 76 = some (.goto (10), 3) := by decide +kernel
theorem c_228_79 : cd 228 79 = some (.iload 5, 2) := by decide +kernel
theorem c_228_81 : cd 228 81 = some (.iload 4, 2) := by decide +kernel
theorem c_228_83 : cd 228 83 = some (.iconst (-1), 1) := by decide +kernel
theorem c_228_84 : cd 228 84 = some (.ixor, 1) := by decide +kernel
theorem c_228_85 : cd 228 85 = some (.iand, 1) := by decide +kernel
theorem c_228_86 : cd 228 86 = some (.invokevirtual 137, 3) := by decide +kernel
theorem c_228_89 : cd 228 89 = some (.aload_n 0, 1) := by decide +kernel
theorem c_228_90 : cd 228 90 = some (.iload_n 1, 1) := by decide +kernel
theorem c_228_91 : cd 228 91 = some (.bipush (8), 2) := by decide +kernel
theorem c_228_93 : cd 228 93 = some (.iload_n 3, 1) := by decide +kernel
theorem c_228_94 : cd 228 94 = some (.iconst (1), 1) := by decide +kernel
theorem c_228_95 : cd 228 95 = some (.if_icmp .ne (13), 3) := by decide +kernel
theorem c_228_98 : cd 228 98 = some (.iload 6, 2) := by decide +kernel
theorem c_228_100 : cd 228 100 = some (.iload 4, 2) := by decide +kernel
theorem c_228_102 : cd 228 102 = some (.iconst (-1), 1) := by decide +kernel
theorem c_228_103 : cd 228 103 = some (.ixor, 1) := by decide +kernel
theorem c_228_104 : cd 228 104 = some (.iand, 1) := by decide +kernel
theorem c_228_105 : cd 228 105 = some (.goto (8), 3) := by decide +kernel
theorem c_228_108 : cd 228 108 = some (.iload 6, 2) := by decide +kernel
theorem c_228_110 : cd 228 110 = some (.iload 4, 2) := by decide +kernel
theorem c_228_112 : cd 228 112 = some (.ior, 1) := by decide +kernel
theorem c_228_113 : cd 228 113 = some (.invokevirtual 137, 3) := by decide +kernel
theorem c_228_116 : cd 228 116 = some (.iload 5, 2) := by decide +kernel
theorem c_228_118 : cd 228 118 = some (.iload 4, 2) := by decide +kernel
theorem c_228_120 : cd 228 120 = some (.iand, 1) := by decide +kernel
theorem c_228_121 : cd 228 121 = some (.ifCond .eq (7), 3) := by decide +kernel
theorem c_228_124 : cd 228 124 = some (.iconst (1), 1) := by decide +kernel
theorem c_228_125 : cd 228 125 = some (.goto (17), 3) := by decide +kernel
theorem c_228_128 : cd 228 128 = some (.iload 6, 2) := by decide +kernel
theorem c_228_130 : cd 228 130 = some (.iload 4, 2) := by decide +kernel
theorem c_228_132 : cd 228 132 = some (.iand, 1) := by decide +kernel
theorem c_228_133 : cd 228 133 = some (.ifCond .eq (7), 3) := by decide +kernel
theorem c_228_136 : cd 228 136 = some (.iconst (0), 1) := by decide +kernel
theorem c_228_137 : cd 228 137 = some (.goto (5), 3) := by decide +kernel
theorem c_228_140 : cd 228 140 = some (.ldc 81, 2) := by decide +kernel
theorem c_228_142 : cd 228 142 = some (.ireturn, 1) := by decide +kernel
def f_Mo_word_25 (σ : Mm) : Option (Int32 × Mm) := some ((-1000000001 : Int32), σ)
set_option maxRecDepth 100000 in
set_option maxHeartbeats 4000000 in
theorem t_Mo_word_25 {X : Xt} {S : Sh} (hS : ShOK S) {d : Nat} (hd : 2 ≤ d + 1) (u0 : Value) (u1 : Value) (u2 : Value) (u3 : Value) (u4 : Value) (u5 : Value) (u6 : Value) (σ : Mm) : Rf X S emM (f_Mo_word_25 σ) (d + 1) 228 25 [u0, u1, u2, u3, u4, u5, u6] [] σ := by
  unfold f_Mo_word_25
  refine rf_ldc (Or.inl ⟨rfl, rfl⟩) c_228_25 rfl kl_12_91 ?_
  exact rf_ret c_228_27 rfl rfl rfl rfl
def f_Mo_word_142 (y0 : Int32) (σ : Mm) : Option (Int32 × Mm) := some (y0, σ)
set_option maxRecDepth 100000 in
set_option maxHeartbeats 4000000 in
theorem t_Mo_word_142 {X : Xt} {S : Sh} (hS : ShOK S) {d : Nat} (hd : 2 ≤ d + 1) (y0 : Int32) (u0 : Value) (u1 : Value) (u2 : Value) (u3 : Value) (u4 : Value) (u5 : Value) (u6 : Value) (σ : Mm) : Rf X S emM (f_Mo_word_142 y0 σ) (d + 1) 228 142 [u0, u1, u2, u3, u4, u5, u6] [.int y0] σ := by
  unfold f_Mo_word_142
  exact rf_ret c_228_142 rfl rfl rfl rfl
def f_Mo_word_113 (x4 : Int32) (x5 : Int32) (x6 : Int32) (y0 : Nat) (y1 : Int32) (y2 : Int32) (y3 : Int32) (σ : Mm) : Option (Int32 × Mm) := (f_Mo_set y0 y1 y2 y3 σ).bind fun v113 => (if (x5 &&& x4) = 0 then (if (x6 &&& x4) = 0 then (f_Mo_word_142  (-1000000005 : Int32) v113) else (f_Mo_word_142  (0 : Int32) v113)) else (f_Mo_word_142  (1 : Int32) v113))
set_option maxRecDepth 100000 in
set_option maxHeartbeats 4000000 in
theorem t_Mo_word_113 {X : Xt} {S : Sh} (hS : ShOK S) {d : Nat} (hd : 2 ≤ d + 1) (x4 : Int32) (x5 : Int32) (x6 : Int32) (y0 : Nat) (y1 : Int32) (y2 : Int32) (y3 : Int32) (u0 : Value) (u1 : Value) (u2 : Value) (u3 : Value) (σ : Mm) (h_y0 : tgT y0 = 12) : Rf X S emM (f_Mo_word_113 x4 x5 x6 y0 y1 y2 y3 σ) (d + 1) 228 113 [u0, u1, u2, u3, .int x4, .int x5, .int x6] [.int y3, .int y2, .int y1, .ref y0] σ := by
  unfold f_Mo_word_113
  refine rf_callV (as := [.ref y0, .int y1, .int y2, .int y3]) (kd := 1) c_228_113 rfl (by decide) rfl ml_12_137 (by decide) rfl (rcv_1 hS rfl rfl h_y0 (by decide)) (Nat.zero_le _) rfl rfl (t_Mo_set hS (by omega) y0 y1 y2 y3 σ h_y0) (fun v113 => ?_)
  refine rf_ild (i := 5) (Or.inl ⟨rfl, rfl⟩) c_228_116 rfl ?_
  refine rf_ild (i := 4) (Or.inl ⟨rfl, rfl⟩) c_228_118 rfl ?_
  refine rf_iand c_228_120 ?_
  refine rf_ite (fun hc121 => ?_) (fun hc121 => ?_)
  · refine rf_b1t c_228_121 rfl (decide_eq_true hc121) ?_
    refine rf_ild (i := 6) (Or.inl ⟨rfl, rfl⟩) c_228_128 rfl ?_
    refine rf_ild (i := 4) (Or.inl ⟨rfl, rfl⟩) c_228_130 rfl ?_
    refine rf_iand c_228_132 ?_
    refine rf_ite (fun hc133 => ?_) (fun hc133 => ?_)
    · refine rf_b1t c_228_133 rfl (decide_eq_true hc133) ?_
      refine rf_ldc (Or.inl ⟨rfl, rfl⟩) c_228_140 rfl kl_12_81 ?_
      exact t_Mo_word_142 hS hd  (-1000000005 : Int32) (u0) (u1) (u2) (u3) (.int x4) (.int x5) (.int x6) v113
    · refine rf_b1f c_228_133 rfl (decide_eq_false hc133) ?_
      refine rf_iconst c_228_136 ki_0 ?_
      refine rf_goto c_228_137 rfl ?_
      exact t_Mo_word_142 hS hd  (0 : Int32) (u0) (u1) (u2) (u3) (.int x4) (.int x5) (.int x6) v113
  · refine rf_b1f c_228_121 rfl (decide_eq_false hc121) ?_
    refine rf_iconst c_228_124 ki_1 ?_
    refine rf_goto c_228_125 rfl ?_
    exact t_Mo_word_142 hS hd  (1 : Int32) (u0) (u1) (u2) (u3) (.int x4) (.int x5) (.int x6) v113
def f_Mo_word_86 (x0 : Nat) (x1 : Int32) (x3 : Int32) (x4 : Int32) (x5 : Int32) (x6 : Int32) (y0 : Nat) (y1 : Int32) (y2 : Int32) (y3 : Int32) (σ : Mm) : Option (Int32 × Mm) := (f_Mo_set y0 y1 y2 y3 σ).bind fun v86 => (if ¬ x3 = (1 : Int32) then (f_Mo_word_113  x4 x5 x6 x0 x1 (8 : Int32) (x6 ||| x4) v86) else (f_Mo_word_113  x4 x5 x6 x0 x1 (8 : Int32) (x6 &&& (x4 ^^^ (-1 : Int32))) v86))
set_option maxRecDepth 100000 in
set_option maxHeartbeats 4000000 in
theorem t_Mo_word_86 {X : Xt} {S : Sh} (hS : ShOK S) {d : Nat} (hd : 2 ≤ d + 1) (x0 : Nat) (x1 : Int32) (x3 : Int32) (x4 : Int32) (x5 : Int32) (x6 : Int32) (y0 : Nat) (y1 : Int32) (y2 : Int32) (y3 : Int32) (u2 : Value) (σ : Mm) (h_x0 : tgT x0 = 12) (h_y0 : tgT y0 = 12) : Rf X S emM (f_Mo_word_86 x0 x1 x3 x4 x5 x6 y0 y1 y2 y3 σ) (d + 1) 228 86 [.ref x0, .int x1, u2, .int x3, .int x4, .int x5, .int x6] [.int y3, .int y2, .int y1, .ref y0] σ := by
  unfold f_Mo_word_86
  refine rf_callV (as := [.ref y0, .int y1, .int y2, .int y3]) (kd := 1) c_228_86 rfl (by decide) rfl ml_12_137 (by decide) rfl (rcv_1 hS rfl rfl h_y0 (by decide)) (Nat.zero_le _) rfl rfl (t_Mo_set hS (by omega) y0 y1 y2 y3 σ h_y0) (fun v86 => ?_)
  refine rf_ald (i := 0) (Or.inr ⟨0, rfl, rfl, rfl⟩) c_228_89 rfl ?_
  refine rf_ild (i := 1) (Or.inr ⟨1, rfl, rfl, rfl⟩) c_228_90 rfl ?_
  refine rf_bipush c_228_91 kb_8 ?_
  refine rf_ild (i := 3) (Or.inr ⟨3, rfl, rfl, rfl⟩) c_228_93 rfl ?_
  refine rf_iconst c_228_94 ki_1 ?_
  refine rf_ite (fun hc95 => ?_) (fun hc95 => ?_)
  · refine rf_b2t c_228_95 rfl (decide_eq_true hc95) ?_
    refine rf_ild (i := 6) (Or.inl ⟨rfl, rfl⟩) c_228_108 rfl ?_
    refine rf_ild (i := 4) (Or.inl ⟨rfl, rfl⟩) c_228_110 rfl ?_
    refine rf_ior c_228_112 ?_
    exact t_Mo_word_113 hS hd  x4 x5 x6 x0 x1 (8 : Int32) (x6 ||| x4) (.ref x0) (.int x1) (u2) (.int x3) v86 h_x0
  · refine rf_b2f c_228_95 rfl (decide_eq_false hc95) ?_
    refine rf_ild (i := 6) (Or.inl ⟨rfl, rfl⟩) c_228_98 rfl ?_
    refine rf_ild (i := 4) (Or.inl ⟨rfl, rfl⟩) c_228_100 rfl ?_
    refine rf_iconst c_228_102 ki_m1 ?_
    refine rf_ixor c_228_103 ?_
    refine rf_iand c_228_104 ?_
    refine rf_goto c_228_105 rfl ?_
    exact t_Mo_word_113 hS hd  x4 x5 x6 x0 x1 (8 : Int32) (x6 &&& (x4 ^^^ (-1 : Int32))) (.ref x0) (.int x1) (u2) (.int x3) v86 h_x0
def f_Mo_word (x0 : Nat) (x1 : Int32) (x2 : Int32) (x3 : Int32) (σ : Mm) : Option (Int32 × Mm) := (f_Mo_isPaper σ x0 x1).bind fun v2 => (if v2 = 0 then (f_Mo_word_25  σ) else ((f_Mo_isOffice σ x0 x2).bind fun v10 => (if v10 = 0 then (f_Mo_word_25  σ) else ((f_Mo_in σ x3 (0 : Int32) (1 : Int32)).bind fun v19 => (if ¬ v19 = 0 then ((f_Mo_isUnderWay σ x0 x1).bind fun v30 => (if ¬ v30 = 0 then ((f_Mo_paperOf σ x0 x1 (7 : Int32)).bind fun v48 => (f_Mo_paperOf σ x0 x1 (8 : Int32)).bind fun v57 => (if ¬ x3 = (1 : Int32) then (f_Mo_word_86  x0 x1 x3 ((1 : Int32) <<< (x2 &&& 31)) v48 v57 x0 x1 (7 : Int32) (v48 &&& (((1 : Int32) <<< (x2 &&& 31)) ^^^ (-1 : Int32))) σ) else (f_Mo_word_86  x0 x1 x3 ((1 : Int32) <<< (x2 &&& 31)) v48 v57 x0 x1 (7 : Int32) (v48 ||| ((1 : Int32) <<< (x2 &&& 31))) σ))) else (some ((-1000000002 : Int32), σ)))) else (f_Mo_word_25  σ))))))
set_option maxRecDepth 100000 in
set_option maxHeartbeats 4000000 in
theorem t_Mo_word_e {X : Xt} {S : Sh} (hS : ShOK S) {d : Nat} (hd : 2 ≤ d + 1) (x0 : Nat) (x1 : Int32) (x2 : Int32) (x3 : Int32) (σ : Mm) (h_x0 : tgT x0 = 12) : Rf X S emM (f_Mo_word x0 x1 x2 x3 σ) (d + 1) 228 0 [.ref x0, .int x1, .int x2, .int x3, unset0, unset0, unset0] [] σ := by
  unfold f_Mo_word
  refine rf_ald (i := 0) (Or.inr ⟨0, rfl, rfl, rfl⟩) c_228_0 rfl ?_
  refine rf_ild (i := 1) (Or.inr ⟨1, rfl, rfl, rfl⟩) c_228_1 rfl ?_
  refine rf_callI (as := [.ref x0, .int x1]) (kd := 1) c_228_2 rfl (by decide) rfl ml_12_141 (by decide) rfl (rcv_1 hS rfl rfl h_x0 (by decide)) (Nat.zero_le _) rfl rfl (t_Mo_isPaper hS (by omega) σ x0 x1 h_x0) (fun v2 => ?_)
  refine rf_ite (fun hc5 => ?_) (fun hc5 => ?_)
  · refine rf_b1t c_228_5 rfl (decide_eq_true hc5) ?_
    exact t_Mo_word_25 hS hd  (.ref x0) (.int x1) (.int x2) (.int x3) (unset0) (unset0) (unset0) σ
  · refine rf_b1f c_228_5 rfl (decide_eq_false hc5) ?_
    refine rf_ald (i := 0) (Or.inr ⟨0, rfl, rfl, rfl⟩) c_228_8 rfl ?_
    refine rf_ild (i := 2) (Or.inr ⟨2, rfl, rfl, rfl⟩) c_228_9 rfl ?_
    refine rf_callI (as := [.ref x0, .int x2]) (kd := 1) c_228_10 rfl (by decide) rfl ml_12_87 (by decide) rfl (rcv_1 hS rfl rfl h_x0 (by decide)) (Nat.zero_le _) rfl rfl (t_Mo_isOffice hS (by omega) σ x0 x2 h_x0) (fun v10 => ?_)
    refine rf_ite (fun hc13 => ?_) (fun hc13 => ?_)
    · refine rf_b1t c_228_13 rfl (decide_eq_true hc13) ?_
      exact t_Mo_word_25 hS hd  (.ref x0) (.int x1) (.int x2) (.int x3) (unset0) (unset0) (unset0) σ
    · refine rf_b1f c_228_13 rfl (decide_eq_false hc13) ?_
      refine rf_ild (i := 3) (Or.inr ⟨3, rfl, rfl, rfl⟩) c_228_16 rfl ?_
      refine rf_iconst c_228_17 ki_0 ?_
      refine rf_iconst c_228_18 ki_1 ?_
      refine rf_callI (as := [.int x3, .int (0 : Int32), .int (1 : Int32)]) (kd := 0) c_228_19 rfl (by decide) rfl ml_12_82 (by decide) rfl (rcv_0 rfl) (Nat.zero_le _) rfl rfl (t_Mo_in hS (by omega) σ x3 (0 : Int32) (1 : Int32)) (fun v19 => ?_)
      refine rf_ite (fun hc22 => ?_) (fun hc22 => ?_)
      · refine rf_b1t c_228_22 rfl (decide_eq_true hc22) ?_
        refine rf_ald (i := 0) (Or.inr ⟨0, rfl, rfl, rfl⟩) c_228_28 rfl ?_
        refine rf_ild (i := 1) (Or.inr ⟨1, rfl, rfl, rfl⟩) c_228_29 rfl ?_
        refine rf_callI (as := [.ref x0, .int x1]) (kd := 1) c_228_30 rfl (by decide) rfl ml_12_156 (by decide) rfl (rcv_1 hS rfl rfl h_x0 (by decide)) (Nat.zero_le _) rfl rfl (t_Mo_isUnderWay hS (by omega) σ x0 x1 h_x0) (fun v30 => ?_)
        refine rf_ite (fun hc33 => ?_) (fun hc33 => ?_)
        · refine rf_b1t c_228_33 rfl (decide_eq_true hc33) ?_
          refine rf_iconst c_228_39 ki_1 ?_
          refine rf_ild (i := 2) (Or.inr ⟨2, rfl, rfl, rfl⟩) c_228_40 rfl ?_
          refine rf_ishl c_228_41 ?_
          refine rf_ist (i := 4) (Or.inl ⟨rfl, rfl⟩) c_228_42 (Nat.le_of_ble_eq_true rfl) rfl ?_
          refine rf_ald (i := 0) (Or.inr ⟨0, rfl, rfl, rfl⟩) c_228_44 rfl ?_
          refine rf_ild (i := 1) (Or.inr ⟨1, rfl, rfl, rfl⟩) c_228_45 rfl ?_
          refine rf_bipush c_228_46 kb_7 ?_
          refine rf_callI (as := [.ref x0, .int x1, .int (7 : Int32)]) (kd := 1) c_228_48 rfl (by decide) rfl ml_12_144 (by decide) rfl (rcv_1 hS rfl rfl h_x0 (by decide)) (Nat.zero_le _) rfl rfl (t_Mo_paperOf hS (by omega) σ x0 x1 (7 : Int32) h_x0) (fun v48 => ?_)
          refine rf_ist (i := 5) (Or.inl ⟨rfl, rfl⟩) c_228_51 (Nat.le_of_ble_eq_true rfl) rfl ?_
          refine rf_ald (i := 0) (Or.inr ⟨0, rfl, rfl, rfl⟩) c_228_53 rfl ?_
          refine rf_ild (i := 1) (Or.inr ⟨1, rfl, rfl, rfl⟩) c_228_54 rfl ?_
          refine rf_bipush c_228_55 kb_8 ?_
          refine rf_callI (as := [.ref x0, .int x1, .int (8 : Int32)]) (kd := 1) c_228_57 rfl (by decide) rfl ml_12_144 (by decide) rfl (rcv_1 hS rfl rfl h_x0 (by decide)) (Nat.zero_le _) rfl rfl (t_Mo_paperOf hS (by omega) σ x0 x1 (8 : Int32) h_x0) (fun v57 => ?_)
          refine rf_ist (i := 6) (Or.inl ⟨rfl, rfl⟩) c_228_60 (Nat.le_of_ble_eq_true rfl) rfl ?_
          refine rf_ald (i := 0) (Or.inr ⟨0, rfl, rfl, rfl⟩) c_228_62 rfl ?_
          refine rf_ild (i := 1) (Or.inr ⟨1, rfl, rfl, rfl⟩) c_228_63 rfl ?_
          refine rf_bipush c_228_64 kb_7 ?_
          refine rf_ild (i := 3) (Or.inr ⟨3, rfl, rfl, rfl⟩) c_228_66 rfl ?_
          refine rf_iconst c_228_67 ki_1 ?_
          refine rf_ite (fun hc68 => ?_) (fun hc68 => ?_)
          · refine rf_b2t c_228_68 rfl (decide_eq_true hc68) ?_
            refine rf_ild (i := 5) (Or.inl ⟨rfl, rfl⟩) c_228_79 rfl ?_
            refine rf_ild (i := 4) (Or.inl ⟨rfl, rfl⟩) c_228_81 rfl ?_
            refine rf_iconst c_228_83 ki_m1 ?_
            refine rf_ixor c_228_84 ?_
            refine rf_iand c_228_85 ?_
            exact t_Mo_word_86 hS hd  x0 x1 x3 ((1 : Int32) <<< (x2 &&& 31)) v48 v57 x0 x1 (7 : Int32) (v48 &&& (((1 : Int32) <<< (x2 &&& 31)) ^^^ (-1 : Int32))) (.int x2) σ h_x0 h_x0
          · refine rf_b2f c_228_68 rfl (decide_eq_false hc68) ?_
            refine rf_ild (i := 5) (Or.inl ⟨rfl, rfl⟩) c_228_71 rfl ?_
            refine rf_ild (i := 4) (Or.inl ⟨rfl, rfl⟩) c_228_73 rfl ?_
            refine rf_ior c_228_75 ?_
            refine rf_goto c_228_76 rfl ?_
            exact t_Mo_word_86 hS hd  x0 x1 x3 ((1 : Int32) <<< (x2 &&& 31)) v48 v57 x0 x1 (7 : Int32) (v48 ||| ((1 : Int32) <<< (x2 &&& 31))) (.int x2) σ h_x0 h_x0
        · refine rf_b1f c_228_33 rfl (decide_eq_false hc33) ?_
          refine rf_ldc (Or.inl ⟨rfl, rfl⟩) c_228_36 rfl kl_12_155 ?_
          exact rf_ret c_228_38 rfl rfl rfl rfl
      · refine rf_b1f c_228_22 rfl (decide_eq_false hc22) ?_
        exact t_Mo_word_25 hS hd  (.ref x0) (.int x1) (.int x2) (.int x3) (unset0) (unset0) (unset0) σ
theorem t_Mo_word {X : Xt} {S : Sh} (hS : ShOK S) {d : Nat} (hd : 2 ≤ d) (x0 : Nat) (x1 : Int32) (x2 : Int32) (x3 : Int32) (σ : Mm) (h_x0 : tgT x0 = 12) : Rf X S emM (f_Mo_word x0 x1 x2 x3 σ) d 228 0 [.ref x0, .int x1, .int x2, .int x3, unset0, unset0, unset0] [] σ := by
  obtain ⟨d1, rfl⟩ : ∃ d1, d = d1 + 1 := ⟨d - 1, by omega⟩
  exact t_Mo_word_e hS hd x0 x1 x2 x3 σ h_x0
theorem c_229_0 : cd 229 0 = some (.aload_n 0, 1) := by decide +kernel
theorem c_229_1 : cd 229 1 = some (.getfield 159, 3) := by decide +kernel
theorem c_229_4 : cd 229 4 = some (.bipush (12), 2) := by decide +kernel
theorem c_229_6 : cd 229 6 = some (.iadd, 1) := by decide +kernel
theorem c_229_7 : cd 229 7 = some (.bipush (96), 2) := by decide +kernel
theorem c_229_9 : cd 229 9 = some (.if_icmp .le (6), 3) := by decide +kernel
theorem c_229_12 : cd 229 12 = some (.ldc 86, 2) := by decide +kernel
theorem c_229_14 : cd 229 14 = some (.ireturn, 1) := by decide +kernel
theorem c_229_15 : cd 229 15 = some (.iconst (0), 1) := by decide +kernel
theorem c_229_16 : cd 229 16 = some (.istore 4, 2) := by decide +kernel
theorem c_229_18 : cd 229 18 = some (.iload 4, 2) := by decide +kernel
theorem c_229_20 : cd 229 20 = some (.bipush (12), 2) := by decide +kernel
theorem c_229_22 : cd 229 22 = some (.if_icmp .ge (62), 3) := by decide +kernel
theorem c_229_25 : cd 229 25 = some (.iload 4, 2) := by decide +kernel
theorem c_229_27 : cd 229 27 = some (.iconst (4), 1) := by decide +kernel
theorem c_229_28 : cd 229 28 = some (.if_icmp .ge (7), 3) := by decide +kernel
theorem c_229_31 : cd 229 31 = some (.iload_n 1, 1) := by decide +kernel
theorem c_229_32 : cd 229 32 = some (.goto (15), 3) := by decide +kernel
theorem c_229_35 : cd 229 35 = some (.iload 4, 2) := by decide +kernel
theorem c_229_37 : cd 229 37 = some (.bipush (8), 2) := by decide +kernel
theorem c_229_39 : cd 229 39 = some (.if_icmp .ge (7), 3) := by decide +kernel
theorem c_229_42 : cd 229 42 = some (.iload_n 2, 1) := by decide +kernel
theorem c_229_43 : cd 229 43 = some (.goto (4), 3) := by decide +kernel
theorem c_229_46 : cd 229 46 = some (.iload_n 3, 1) := by decide +kernel
theorem c_229_47 : cd 229 47 = some (.istore 5, 2) := by decide +kernel
theorem c_229_49 : cd 229 49 = some (.aload_n 0, 1) := by decide +kernel
theorem c_229_50 : cd 229 50 = some (.getfield 28, 3) := by decide +kernel
theorem c_229_53 : cd 229 53 = some (.aload_n 0, 1) := by decide +kernel
theorem c_229_54 : cd 229 54 = some (.getfield 159, 3) := by decide +kernel
theorem c_229_57 : cd 229 57 = some (.iload 4, 2) := by decide +kernel
theorem c_229_59 : cd 229 59 = some (.iadd, 1) := by decide +kernel
theorem c_229_60 : cd 229 60 = some (.iload 5, 2) := by decide +kernel
theorem c_229_62 : cd 229 62 = some (.bipush (24), 2) := by decide +kernel
theorem c_229_64 : cd 229 64 = some (.bipush (8), 2) := by decide +kernel
theorem c_229_66 : cd 229 66 = some (.iload 4, 2) := by decide +kernel
theorem c_229_68 : cd 229 68 = some (.iconst (4), 1) := by decide +kernel
theorem c_229_69 : cd 229 69 = some (.irem, 1) := by decide +kernel
theorem c_229_70 : cd 229 70 = some (.imul, 1) := by decide +kernel
theorem c_229_71 : cd 229 71 = some (.isub, 1) := by decide +kernel
theorem c_229_72 : cd 229 72 = some (.ishr, 1) := by decide +kernel
theorem c_229_73 : cd 229 73 = some (.sipush (255), 3) := by decide +kernel
theorem c_229_76 : cd 229 76 = some (.iand, 1) := by decide +kernel
theorem c_229_77 : cd 229 77 = some (.iastore, 1) := by decide +kernel
theorem c_229_78 : cd 229 78 = some (.iinc 4 (1), 3) := by decide +kernel
theorem c_229_81 : cd 229 81 = some (.goto (-63), 3) := by decide +kernel
theorem c_229_84 : cd 229 84 = some (.aload_n 0, 1) := by decide +kernel
theorem c_229_85 : cd 229 85 = some (.dup, 1) := by decide +kernel
theorem c_229_86 : cd 229 86 = some (.getfield 159, 3) := by decide +kernel
theorem c_229_89 : cd 229 89 = some (.bipush (12), 2) := by decide +kernel
theorem c_229_91 : cd 229 91 = some (.iadd, 1) := by decide +kernel
theorem c_229_92 : cd 229 92 = some (.putfield 159, 3) := by decide +kernel
theorem c_229_95 : cd 229 95 = some (.aload_n 0, 1) := by decide +kernel
theorem c_229_96 : cd 229 96 = some (.getfield 159, 3) := by decide +kernel
theorem c_229_99 : cd 229 99 = some (.ireturn, 1) := by decide +kernel
def f_Mo_feed_47 (k18 : Nat → Int32 → Int32 → Int32 → Int32 → Mm → Option (Int32 × Mm)) (x0 : Nat) (x1 : Int32) (x2 : Int32) (x3 : Int32) (x4 : Int32) (y0 : Int32) (σ : Mm) : Option (Int32 × Mm) := if inbB ((σ x0 10) + x4) 96 = true then nmM (up2 σ (rfT x0 9) (ix ((σ x0 10) + x4)) ((y0 >>> (((24 : Int32) - ((8 : Int32) * (irm x4 (4 : Int32)))) &&& 31)) &&& (255 : Int32))) fun σ77 => k18 x0 x1 x2 x3 (x4 + (1 : Int32)) σ77 else none
set_option maxRecDepth 100000 in
set_option maxHeartbeats 4000000 in
theorem t_Mo_feed_47 {X : Xt} {S : Sh} (hS : ShOK S) {d : Nat} (hd : 0 ≤ d) {k18 : Nat → Int32 → Int32 → Int32 → Int32 → Mm → Option (Int32 × Mm)} (hk18 : ∀ (x0 : Nat) (x1 : Int32) (x2 : Int32) (x3 : Int32) (x4 : Int32) (u5 : Value) (σ : Mm) (h_x0 : tgT x0 = 12), Rf X S emM (k18 x0 x1 x2 x3 x4 σ) d 229 18 [.ref x0, .int x1, .int x2, .int x3, .int x4, u5] [] σ) (x0 : Nat) (x1 : Int32) (x2 : Int32) (x3 : Int32) (x4 : Int32) (y0 : Int32) (u5 : Value) (σ : Mm) (h_x0 : tgT x0 = 12) : Rf X S emM (f_Mo_feed_47 k18 x0 x1 x2 x3 x4 y0 σ) d 229 47 [.ref x0, .int x1, .int x2, .int x3, .int x4, u5] [.int y0] σ := by
  unfold f_Mo_feed_47
  refine rf_ist (i := 5) (Or.inl ⟨rfl, rfl⟩) c_229_47 (Nat.le_of_ble_eq_true rfl) rfl ?_
  refine rf_ald (i := 0) (Or.inr ⟨0, rfl, rfl, rfl⟩) c_229_49 rfl ?_
  refine rf_getr hS c_229_50 rfl fl_12_28 rfl h_x0 ?_
  refine rf_ald (i := 0) (Or.inr ⟨0, rfl, rfl, rfl⟩) c_229_53 rfl ?_
  refine rf_geti hS c_229_54 rfl fl_12_159 rfl h_x0 ?_
  refine rf_ild (i := 4) (Or.inl ⟨rfl, rfl⟩) c_229_57 rfl ?_
  refine rf_iadd c_229_59 ?_
  refine rf_ild (i := 5) (Or.inl ⟨rfl, rfl⟩) c_229_60 rfl ?_
  refine rf_bipush c_229_62 kb_24 ?_
  refine rf_bipush c_229_64 kb_8 ?_
  refine rf_ild (i := 4) (Or.inl ⟨rfl, rfl⟩) c_229_66 rfl ?_
  refine rf_iconst c_229_68 ki_4 ?_
  refine rf_irem c_229_69 (by decide) ?_
  refine rf_imul c_229_70 ?_
  refine rf_isub c_229_71 ?_
  refine rf_ishr c_229_72 ?_
  refine rf_sipush c_229_73 ks_255 ?_
  refine rf_iand c_229_76 ?_
  refine rf_ite (fun hb77 => ?_) (fun _ => rf_none)
  refine rf_iast hS c_229_77 (tf_12_9 h_x0) (lf_12_9 h_x0) hb77 ?_
  refine rf_nm (fun σ77 => ?_)
  refine rf_iinc c_229_78 rfl ki_1 rfl ?_
  refine rf_goto c_229_81 rfl ?_
  exact hk18 x0 x1 x2 x3 (x4 + (1 : Int32)) (.int y0) σ77 h_x0
def f_Mo_feed_18 : Nat → Nat → Int32 → Int32 → Int32 → Int32 → Mm → Option (Int32 × Mm)
  | 0, _, _, _, _, _, _ => none
  | n + 1, x0, x1, x2, x3, x4, σ => (if (12 : Int32) ≤ x4 then (nmM (up2 σ x0 10 ((σ x0 10) + (12 : Int32))) fun σ92 => some ((σ92 x0 10), σ92)) else (if (4 : Int32) ≤ x4 then (if (8 : Int32) ≤ x4 then (f_Mo_feed_47 (f_Mo_feed_18  n) x0 x1 x2 x3 x4 x3 σ) else (f_Mo_feed_47 (f_Mo_feed_18  n) x0 x1 x2 x3 x4 x2 σ)) else (f_Mo_feed_47 (f_Mo_feed_18  n) x0 x1 x2 x3 x4 x1 σ)))
set_option maxRecDepth 100000 in
set_option maxHeartbeats 4000000 in
theorem t_Mo_feed_18 {X : Xt} {S : Sh} (hS : ShOK S) {d : Nat} (hd : 0 ≤ d) : ∀ (n : Nat) (x0 : Nat) (x1 : Int32) (x2 : Int32) (x3 : Int32) (x4 : Int32) (u5 : Value) (σ : Mm) (h_x0 : tgT x0 = 12), Rf X S emM (f_Mo_feed_18 n x0 x1 x2 x3 x4 σ) d 229 18 [.ref x0, .int x1, .int x2, .int x3, .int x4, u5] [] σ := by
  intro n
  induction n with
  | zero => intro x0 x1 x2 x3 x4 u5 σ h_x0; exact rf_none
  | succ n ih =>
    intro x0 x1 x2 x3 x4 u5 σ h_x0
    rw [f_Mo_feed_18]
    refine rf_ild (i := 4) (Or.inl ⟨rfl, rfl⟩) c_229_18 rfl ?_
    refine rf_bipush c_229_20 kb_12 ?_
    refine rf_ite (fun hc22 => ?_) (fun hc22 => ?_)
    · refine rf_b2t c_229_22 rfl (decide_eq_true hc22) ?_
      refine rf_ald (i := 0) (Or.inr ⟨0, rfl, rfl, rfl⟩) c_229_84 rfl ?_
      refine rf_dup c_229_85 rfl ?_
      refine rf_geti hS c_229_86 rfl fl_12_159 rfl h_x0 ?_
      refine rf_bipush c_229_89 kb_12 ?_
      refine rf_iadd c_229_91 ?_
      refine rf_puti hS c_229_92 rfl fl_12_159 rfl rfl rfl rfl h_x0 ?_
      refine rf_nm (fun σ92 => ?_)
      refine rf_ald (i := 0) (Or.inr ⟨0, rfl, rfl, rfl⟩) c_229_95 rfl ?_
      refine rf_geti hS c_229_96 rfl fl_12_159 rfl h_x0 ?_
      exact rf_ret c_229_99 rfl rfl rfl rfl
    · refine rf_b2f c_229_22 rfl (decide_eq_false hc22) ?_
      refine rf_ild (i := 4) (Or.inl ⟨rfl, rfl⟩) c_229_25 rfl ?_
      refine rf_iconst c_229_27 ki_4 ?_
      refine rf_ite (fun hc28 => ?_) (fun hc28 => ?_)
      · refine rf_b2t c_229_28 rfl (decide_eq_true hc28) ?_
        refine rf_ild (i := 4) (Or.inl ⟨rfl, rfl⟩) c_229_35 rfl ?_
        refine rf_bipush c_229_37 kb_8 ?_
        refine rf_ite (fun hc39 => ?_) (fun hc39 => ?_)
        · refine rf_b2t c_229_39 rfl (decide_eq_true hc39) ?_
          refine rf_ild (i := 3) (Or.inr ⟨3, rfl, rfl, rfl⟩) c_229_46 rfl ?_
          exact t_Mo_feed_47 hS hd ih x0 x1 x2 x3 x4 x3 (u5) σ h_x0
        · refine rf_b2f c_229_39 rfl (decide_eq_false hc39) ?_
          refine rf_ild (i := 2) (Or.inr ⟨2, rfl, rfl, rfl⟩) c_229_42 rfl ?_
          refine rf_goto c_229_43 rfl ?_
          exact t_Mo_feed_47 hS hd ih x0 x1 x2 x3 x4 x2 (u5) σ h_x0
      · refine rf_b2f c_229_28 rfl (decide_eq_false hc28) ?_
        refine rf_ild (i := 1) (Or.inr ⟨1, rfl, rfl, rfl⟩) c_229_31 rfl ?_
        refine rf_goto c_229_32 rfl ?_
        exact t_Mo_feed_47 hS hd ih x0 x1 x2 x3 x4 x1 (u5) σ h_x0
def f_Mo_feed (x0 : Nat) (x1 : Int32) (x2 : Int32) (x3 : Int32) (σ : Mm) : Option (Int32 × Mm) := (if ((σ x0 10) + (12 : Int32)) ≤ (96 : Int32) then (f_Mo_feed_18  NN x0 x1 x2 x3 (0 : Int32) σ) else (some ((-1000000003 : Int32), σ)))
set_option maxRecDepth 100000 in
set_option maxHeartbeats 4000000 in
theorem t_Mo_feed {X : Xt} {S : Sh} (hS : ShOK S) {d : Nat} (hd : 0 ≤ d) (x0 : Nat) (x1 : Int32) (x2 : Int32) (x3 : Int32) (σ : Mm) (h_x0 : tgT x0 = 12) : Rf X S emM (f_Mo_feed x0 x1 x2 x3 σ) d 229 0 [.ref x0, .int x1, .int x2, .int x3, unset0, unset0] [] σ := by
  unfold f_Mo_feed
  refine rf_ald (i := 0) (Or.inr ⟨0, rfl, rfl, rfl⟩) c_229_0 rfl ?_
  refine rf_geti hS c_229_1 rfl fl_12_159 rfl h_x0 ?_
  refine rf_bipush c_229_4 kb_12 ?_
  refine rf_iadd c_229_6 ?_
  refine rf_bipush c_229_7 kb_96 ?_
  refine rf_ite (fun hc9 => ?_) (fun hc9 => ?_)
  · refine rf_b2t c_229_9 rfl (decide_eq_true hc9) ?_
    refine rf_iconst c_229_15 ki_0 ?_
    refine rf_ist (i := 4) (Or.inl ⟨rfl, rfl⟩) c_229_16 (Nat.le_of_ble_eq_true rfl) rfl ?_
    exact t_Mo_feed_18 hS hd  NN x0 x1 x2 x3 (0 : Int32) (unset0) σ h_x0
  · refine rf_b2f c_229_9 rfl (decide_eq_false hc9) ?_
    refine rf_ldc (Or.inl ⟨rfl, rfl⟩) c_229_12 rfl kl_12_86 ?_
    exact rf_ret c_229_14 rfl rfl rfl rfl
theorem c_230_0 : cd 230 0 = some (.iload_n 1, 1) := by decide +kernel
theorem c_230_1 : cd 230 1 = some (.iconst (0), 1) := by decide +kernel
theorem c_230_2 : cd 230 2 = some (.aload_n 0, 1) := by decide +kernel
theorem c_230_3 : cd 230 3 = some (.getfield 159, 3) := by decide +kernel
theorem c_230_6 : cd 230 6 = some (.invokestatic 82, 3) := by decide +kernel
theorem c_230_9 : cd 230 9 = some (.ifCond .ne (6), 3) := by decide +kernel
theorem c_230_12 : cd 230 12 = some (.ldc 91, 2) := by decide +kernel
theorem c_230_14 : cd 230 14 = some (.ireturn, 1) := by decide +kernel
theorem c_230_15 : cd 230 15 = some (.aload_n 0, 1) := by decide +kernel
theorem c_230_16 : cd 230 16 = some (.iload_n 1, 1) := by decide +kernel
theorem c_230_17 : cd 230 17 = some (.putfield 159, 3) := by decide +kernel
theorem c_230_20 : cd 230 20 = some (.iload_n 1, 1) := by decide +kernel
theorem c_230_21 : cd 230 21 = some (.ireturn, 1) := by decide +kernel
def f_Mo_trim (x0 : Nat) (x1 : Int32) (σ : Mm) : Option (Int32 × Mm) := (f_Mo_in σ x1 (0 : Int32) (σ x0 10)).bind fun v6 => (if ¬ v6 = 0 then (nmM (up2 σ x0 10 x1) fun σ17 => some (x1, σ17)) else (some ((-1000000001 : Int32), σ)))
set_option maxRecDepth 100000 in
set_option maxHeartbeats 4000000 in
theorem t_Mo_trim_e {X : Xt} {S : Sh} (hS : ShOK S) {d : Nat} (hd : 1 ≤ d + 1) (x0 : Nat) (x1 : Int32) (σ : Mm) (h_x0 : tgT x0 = 12) : Rf X S emM (f_Mo_trim x0 x1 σ) (d + 1) 230 0 [.ref x0, .int x1] [] σ := by
  unfold f_Mo_trim
  refine rf_ild (i := 1) (Or.inr ⟨1, rfl, rfl, rfl⟩) c_230_0 rfl ?_
  refine rf_iconst c_230_1 ki_0 ?_
  refine rf_ald (i := 0) (Or.inr ⟨0, rfl, rfl, rfl⟩) c_230_2 rfl ?_
  refine rf_geti hS c_230_3 rfl fl_12_159 rfl h_x0 ?_
  refine rf_callI (as := [.int x1, .int (0 : Int32), .int (σ x0 10)]) (kd := 0) c_230_6 rfl (by decide) rfl ml_12_82 (by decide) rfl (rcv_0 rfl) (Nat.zero_le _) rfl rfl (t_Mo_in hS (by omega) σ x1 (0 : Int32) (σ x0 10)) (fun v6 => ?_)
  refine rf_ite (fun hc9 => ?_) (fun hc9 => ?_)
  · refine rf_b1t c_230_9 rfl (decide_eq_true hc9) ?_
    refine rf_ald (i := 0) (Or.inr ⟨0, rfl, rfl, rfl⟩) c_230_15 rfl ?_
    refine rf_ild (i := 1) (Or.inr ⟨1, rfl, rfl, rfl⟩) c_230_16 rfl ?_
    refine rf_puti hS c_230_17 rfl fl_12_159 rfl rfl rfl rfl h_x0 ?_
    refine rf_nm (fun σ17 => ?_)
    refine rf_ild (i := 1) (Or.inr ⟨1, rfl, rfl, rfl⟩) c_230_20 rfl ?_
    exact rf_ret c_230_21 rfl rfl rfl rfl
  · refine rf_b1f c_230_9 rfl (decide_eq_false hc9) ?_
    refine rf_ldc (Or.inl ⟨rfl, rfl⟩) c_230_12 rfl kl_12_91 ?_
    exact rf_ret c_230_14 rfl rfl rfl rfl
theorem t_Mo_trim {X : Xt} {S : Sh} (hS : ShOK S) {d : Nat} (hd : 1 ≤ d) (x0 : Nat) (x1 : Int32) (σ : Mm) (h_x0 : tgT x0 = 12) : Rf X S emM (f_Mo_trim x0 x1 σ) d 230 0 [.ref x0, .int x1] [] σ := by
  obtain ⟨d1, rfl⟩ : ∃ d1, d = d1 + 1 := ⟨d - 1, by omega⟩
  exact t_Mo_trim_e hS hd x0 x1 σ h_x0
theorem c_231_0 : cd 231 0 = some (.iload_n 1, 1) := by decide +kernel
theorem c_231_1 : cd 231 1 = some (.aload_n 0, 1) := by decide +kernel
theorem c_231_2 : cd 231 2 = some (.getfield 162, 3) := by decide +kernel
theorem c_231_5 : cd 231 5 = some (.if_icmp .ge (29), 3) := by decide +kernel
theorem c_231_8 : cd 231 8 = some (.aload_n 0, 1) := by decide +kernel
theorem c_231_9 : cd 231 9 = some (.getfield 28, 3) := by decide +kernel
theorem c_231_12 : cd 231 12 = some (.iload_n 1, 1) := by decide +kernel
theorem c_231_13 : cd 231 13 = some (.iaload, 1) := by decide +kernel
theorem c_231_14 : cd 231 14 = some (.bipush (97), 2) := by decide +kernel
theorem c_231_16 : cd 231 16 = some (.if_icmp .lt (18), 3) := by decide +kernel
theorem c_231_19 : cd 231 19 = some (.aload_n 0, 1) := by decide +kernel
theorem c_231_20 : cd 231 20 = some (.getfield 28, 3) := by decide +kernel
theorem c_231_23 : cd 231 23 = some (.iload_n 1, 1) := by decide +kernel
theorem c_231_24 : cd 231 24 = some (.iaload, 1) := by decide +kernel
theorem c_231_25 : cd 231 25 = some (.bipush (122), 2) := by decide +kernel
theorem c_231_27 : cd 231 27 = some (.if_icmp .gt (7), 3) := by decide +kernel
theorem c_231_30 : cd 231 30 = some (.iconst (1), 1) := by decide +kernel
theorem c_231_31 : cd 231 31 = some (.goto (4), 3) := by decide +kernel
theorem c_231_34 : cd 231 34 = some (.iconst (0), 1) := by decide +kernel
theorem c_231_35 : cd 231 35 = some (.ireturn, 1) := by decide +kernel
def f_Mo_isLetter_35 (σ : Mm) (y0 : Int32) : Option Int32 := if zB y0 = true then some y0 else none
set_option maxRecDepth 100000 in
set_option maxHeartbeats 4000000 in
theorem t_Mo_isLetter_35 {X : Xt} {S : Sh} (hS : ShOK S) {d : Nat} (hd : 0 ≤ d) (σ : Mm) (y0 : Int32) (u0 : Value) (u1 : Value) : Rf X S (emI σ) (f_Mo_isLetter_35 σ y0) d 231 35 [u0, u1] [.int y0] σ := by
  unfold f_Mo_isLetter_35
  refine rf_ite (fun hq35 => ?_) (fun _ => rf_none)
  exact rf_ret c_231_35 rfl (zB_n hq35) rfl rfl
def f_Mo_isLetter_34 (σ : Mm) : Option Int32 := f_Mo_isLetter_35 σ (0 : Int32)
set_option maxRecDepth 100000 in
set_option maxHeartbeats 4000000 in
theorem t_Mo_isLetter_34 {X : Xt} {S : Sh} (hS : ShOK S) {d : Nat} (hd : 0 ≤ d) (σ : Mm) (u0 : Value) (u1 : Value) : Rf X S (emI σ) (f_Mo_isLetter_34 σ) d 231 34 [u0, u1] [] σ := by
  unfold f_Mo_isLetter_34
  refine rf_iconst c_231_34 ki_0 ?_
  exact t_Mo_isLetter_35 hS hd σ  (0 : Int32) (u0) (u1)
def f_Mo_isLetter (σ : Mm) (x0 : Nat) (x1 : Int32) : Option Int32 := (if (σ x0 13) ≤ x1 then (f_Mo_isLetter_34 σ ) else (if inbB x1 96 = true then (if (σ (rfT x0 9) (ix x1)) < (97 : Int32) then (f_Mo_isLetter_34 σ ) else (if inbB x1 96 = true then (if (122 : Int32) < (σ (rfT x0 9) (ix x1)) then (f_Mo_isLetter_34 σ ) else (f_Mo_isLetter_35 σ (1 : Int32))) else none)) else none))
set_option maxRecDepth 100000 in
set_option maxHeartbeats 4000000 in
theorem t_Mo_isLetter {X : Xt} {S : Sh} (hS : ShOK S) {d : Nat} (hd : 0 ≤ d) (σ : Mm) (x0 : Nat) (x1 : Int32) (h_x0 : tgT x0 = 12) : Rf X S (emI σ) (f_Mo_isLetter σ x0 x1) d 231 0 [.ref x0, .int x1] [] σ := by
  unfold f_Mo_isLetter
  refine rf_ild (i := 1) (Or.inr ⟨1, rfl, rfl, rfl⟩) c_231_0 rfl ?_
  refine rf_ald (i := 0) (Or.inr ⟨0, rfl, rfl, rfl⟩) c_231_1 rfl ?_
  refine rf_geti hS c_231_2 rfl fl_12_162 rfl h_x0 ?_
  refine rf_ite (fun hc5 => ?_) (fun hc5 => ?_)
  · refine rf_b2t c_231_5 rfl (decide_eq_true hc5) ?_
    exact t_Mo_isLetter_34 hS hd σ  (.ref x0) (.int x1)
  · refine rf_b2f c_231_5 rfl (decide_eq_false hc5) ?_
    refine rf_ald (i := 0) (Or.inr ⟨0, rfl, rfl, rfl⟩) c_231_8 rfl ?_
    refine rf_getr hS c_231_9 rfl fl_12_28 rfl h_x0 ?_
    refine rf_ild (i := 1) (Or.inr ⟨1, rfl, rfl, rfl⟩) c_231_12 rfl ?_
    refine rf_ite (fun hb13 => ?_) (fun _ => rf_none)
    refine rf_iald hS c_231_13 (tf_12_9 h_x0) (lf_12_9 h_x0) hb13 ?_
    refine rf_bipush c_231_14 kb_97 ?_
    refine rf_ite (fun hc16 => ?_) (fun hc16 => ?_)
    · refine rf_b2t c_231_16 rfl (decide_eq_true hc16) ?_
      exact t_Mo_isLetter_34 hS hd σ  (.ref x0) (.int x1)
    · refine rf_b2f c_231_16 rfl (decide_eq_false hc16) ?_
      refine rf_ald (i := 0) (Or.inr ⟨0, rfl, rfl, rfl⟩) c_231_19 rfl ?_
      refine rf_getr hS c_231_20 rfl fl_12_28 rfl h_x0 ?_
      refine rf_ild (i := 1) (Or.inr ⟨1, rfl, rfl, rfl⟩) c_231_23 rfl ?_
      refine rf_ite (fun hb24 => ?_) (fun _ => rf_none)
      refine rf_iald hS c_231_24 (tf_12_9 h_x0) (lf_12_9 h_x0) hb24 ?_
      refine rf_bipush c_231_25 kb_122 ?_
      refine rf_ite (fun hc27 => ?_) (fun hc27 => ?_)
      · refine rf_b2t c_231_27 rfl (decide_eq_true hc27) ?_
        exact t_Mo_isLetter_34 hS hd σ  (.ref x0) (.int x1)
      · refine rf_b2f c_231_27 rfl (decide_eq_false hc27) ?_
        refine rf_iconst c_231_30 ki_1 ?_
        refine rf_goto c_231_31 rfl ?_
        exact t_Mo_isLetter_35 hS hd σ  (1 : Int32) (.ref x0) (.int x1)
theorem c_232_0 : cd 232 0 = some (.iload_n 1, 1) := by decide +kernel
theorem c_232_1 : cd 232 1 = some (.aload_n 0, 1) := by decide +kernel
theorem c_232_2 : cd 232 2 = some (.getfield 162, 3) := by decide +kernel
theorem c_232_5 : cd 232 5 = some (.if_icmp .ge (29), 3) := by decide +kernel
theorem c_232_8 : cd 232 8 = some (.aload_n 0, 1) := by decide +kernel
theorem c_232_9 : cd 232 9 = some (.getfield 28, 3) := by decide +kernel
theorem c_232_12 : cd 232 12 = some (.iload_n 1, 1) := by decide +kernel
theorem c_232_13 : cd 232 13 = some (.iaload, 1) := by decide +kernel
theorem c_232_14 : cd 232 14 = some (.bipush (48), 2) := by decide +kernel
theorem c_232_16 : cd 232 16 = some (.if_icmp .lt (18), 3) := by decide +kernel
theorem c_232_19 : cd 232 19 = some (.aload_n 0, 1) := by decide +kernel
theorem c_232_20 : cd 232 20 = some (.getfield 28, 3) := by decide +kernel
theorem c_232_23 : cd 232 23 = some (.iload_n 1, 1) := by decide +kernel
theorem c_232_24 : cd 232 24 = some (.iaload, 1) := by decide +kernel
theorem c_232_25 : cd 232 25 = some (.bipush (57), 2) := by decide +kernel
theorem c_232_27 : cd 232 27 = some (.if_icmp .gt (7), 3) := by decide +kernel
theorem c_232_30 : cd 232 30 = some (.iconst (1), 1) := by decide +kernel
theorem c_232_31 : cd 232 31 = some (.goto (4), 3) := by decide +kernel
theorem c_232_34 : cd 232 34 = some (.iconst (0), 1) := by decide +kernel
theorem c_232_35 : cd 232 35 = some (.ireturn, 1) := by decide +kernel
def f_Mo_isFigure_35 (σ : Mm) (y0 : Int32) : Option Int32 := if zB y0 = true then some y0 else none
set_option maxRecDepth 100000 in
set_option maxHeartbeats 4000000 in
theorem t_Mo_isFigure_35 {X : Xt} {S : Sh} (hS : ShOK S) {d : Nat} (hd : 0 ≤ d) (σ : Mm) (y0 : Int32) (u0 : Value) (u1 : Value) : Rf X S (emI σ) (f_Mo_isFigure_35 σ y0) d 232 35 [u0, u1] [.int y0] σ := by
  unfold f_Mo_isFigure_35
  refine rf_ite (fun hq35 => ?_) (fun _ => rf_none)
  exact rf_ret c_232_35 rfl (zB_n hq35) rfl rfl
def f_Mo_isFigure_34 (σ : Mm) : Option Int32 := f_Mo_isFigure_35 σ (0 : Int32)
set_option maxRecDepth 100000 in
set_option maxHeartbeats 4000000 in
theorem t_Mo_isFigure_34 {X : Xt} {S : Sh} (hS : ShOK S) {d : Nat} (hd : 0 ≤ d) (σ : Mm) (u0 : Value) (u1 : Value) : Rf X S (emI σ) (f_Mo_isFigure_34 σ) d 232 34 [u0, u1] [] σ := by
  unfold f_Mo_isFigure_34
  refine rf_iconst c_232_34 ki_0 ?_
  exact t_Mo_isFigure_35 hS hd σ  (0 : Int32) (u0) (u1)
def f_Mo_isFigure (σ : Mm) (x0 : Nat) (x1 : Int32) : Option Int32 := (if (σ x0 13) ≤ x1 then (f_Mo_isFigure_34 σ ) else (if inbB x1 96 = true then (if (σ (rfT x0 9) (ix x1)) < (48 : Int32) then (f_Mo_isFigure_34 σ ) else (if inbB x1 96 = true then (if (57 : Int32) < (σ (rfT x0 9) (ix x1)) then (f_Mo_isFigure_34 σ ) else (f_Mo_isFigure_35 σ (1 : Int32))) else none)) else none))
set_option maxRecDepth 100000 in
set_option maxHeartbeats 4000000 in
theorem t_Mo_isFigure {X : Xt} {S : Sh} (hS : ShOK S) {d : Nat} (hd : 0 ≤ d) (σ : Mm) (x0 : Nat) (x1 : Int32) (h_x0 : tgT x0 = 12) : Rf X S (emI σ) (f_Mo_isFigure σ x0 x1) d 232 0 [.ref x0, .int x1] [] σ := by
  unfold f_Mo_isFigure
  refine rf_ild (i := 1) (Or.inr ⟨1, rfl, rfl, rfl⟩) c_232_0 rfl ?_
  refine rf_ald (i := 0) (Or.inr ⟨0, rfl, rfl, rfl⟩) c_232_1 rfl ?_
  refine rf_geti hS c_232_2 rfl fl_12_162 rfl h_x0 ?_
  refine rf_ite (fun hc5 => ?_) (fun hc5 => ?_)
  · refine rf_b2t c_232_5 rfl (decide_eq_true hc5) ?_
    exact t_Mo_isFigure_34 hS hd σ  (.ref x0) (.int x1)
  · refine rf_b2f c_232_5 rfl (decide_eq_false hc5) ?_
    refine rf_ald (i := 0) (Or.inr ⟨0, rfl, rfl, rfl⟩) c_232_8 rfl ?_
    refine rf_getr hS c_232_9 rfl fl_12_28 rfl h_x0 ?_
    refine rf_ild (i := 1) (Or.inr ⟨1, rfl, rfl, rfl⟩) c_232_12 rfl ?_
    refine rf_ite (fun hb13 => ?_) (fun _ => rf_none)
    refine rf_iald hS c_232_13 (tf_12_9 h_x0) (lf_12_9 h_x0) hb13 ?_
    refine rf_bipush c_232_14 kb_48 ?_
    refine rf_ite (fun hc16 => ?_) (fun hc16 => ?_)
    · refine rf_b2t c_232_16 rfl (decide_eq_true hc16) ?_
      exact t_Mo_isFigure_34 hS hd σ  (.ref x0) (.int x1)
    · refine rf_b2f c_232_16 rfl (decide_eq_false hc16) ?_
      refine rf_ald (i := 0) (Or.inr ⟨0, rfl, rfl, rfl⟩) c_232_19 rfl ?_
      refine rf_getr hS c_232_20 rfl fl_12_28 rfl h_x0 ?_
      refine rf_ild (i := 1) (Or.inr ⟨1, rfl, rfl, rfl⟩) c_232_23 rfl ?_
      refine rf_ite (fun hb24 => ?_) (fun _ => rf_none)
      refine rf_iald hS c_232_24 (tf_12_9 h_x0) (lf_12_9 h_x0) hb24 ?_
      refine rf_bipush c_232_25 kb_57 ?_
      refine rf_ite (fun hc27 => ?_) (fun hc27 => ?_)
      · refine rf_b2t c_232_27 rfl (decide_eq_true hc27) ?_
        exact t_Mo_isFigure_34 hS hd σ  (.ref x0) (.int x1)
      · refine rf_b2f c_232_27 rfl (decide_eq_false hc27) ?_
        refine rf_iconst c_232_30 ki_1 ?_
        refine rf_goto c_232_31 rfl ?_
        exact t_Mo_isFigure_35 hS hd σ  (1 : Int32) (.ref x0) (.int x1)
theorem c_233_0 : cd 233 0 = some (.aload_n 0, 1) := by decide +kernel
theorem c_233_1 : cd 233 1 = some (.aload_n 0, 1) := by decide +kernel
theorem c_233_2 : cd 233 2 = some (.getfield 165, 3) := by decide +kernel
theorem c_233_5 : cd 233 5 = some (.invokevirtual 168, 3) := by decide +kernel
theorem c_233_8 : cd 233 8 = some (.ifCond .eq (16), 3) := by decide +kernel
theorem c_233_11 : cd 233 11 = some (.aload_n 0, 1) := by decide +kernel
theorem c_233_12 : cd 233 12 = some (.dup, 1) := by decide +kernel
theorem c_233_13 : cd 233 13 = some (.getfield 165, 3) := by decide +kernel
theorem c_233_16 : cd 233 16 = some (.iconst (1), 1) := by decide +kernel
theorem c_233_17 : cd 233 17 = some (.iadd, 1) := by decide +kernel
theorem c_233_18 : cd 233 18 = some (.putfield 165, 3) := by decide +kernel
theorem c_233_21 : cd 233 21 = some (.goto (-21), 3) := by decide +kernel
theorem c_233_24 : cd 233 24 = some (.aload_n 0, 1) := by decide +kernel
theorem c_233_25 : cd 233 25 = some (.iconst (4), 1) := by decide +kernel
theorem c_233_26 : cd 233 26 = some (.putfield 171, 3) := by decide +kernel
theorem c_233_29 : cd 233 29 = some (.iconst (0), 1) := by decide +kernel
theorem c_233_30 : cd 233 30 = some (.istore_n 1, 1) := by decide +kernel
theorem c_233_31 : cd 233 31 = some (.iload_n 1, 1) := by decide +kernel
theorem c_233_32 : cd 233 32 = some (.bipush (17), 2) := by decide +kernel
theorem c_233_34 : cd 233 34 = some (.if_icmp .ge (112), 3) := by decide +kernel
theorem c_233_37 : cd 233 37 = some (.aload_n 0, 1) := by decide +kernel
theorem c_233_38 : cd 233 38 = some (.getfield 35, 3) := by decide +kernel
theorem c_233_41 : cd 233 41 = some (.iload_n 1, 1) := by decide +kernel
theorem c_233_42 : cd 233 42 = some (.iconst (1), 1) := by decide +kernel
theorem c_233_43 : cd 233 43 = some (.iadd, 1) := by decide +kernel
theorem c_233_44 : cd 233 44 = some (.iaload, 1) := by decide +kernel
theorem c_233_45 : cd 233 45 = some (.aload_n 0, 1) := by decide +kernel
theorem c_233_46 : cd 233 46 = some (.getfield 35, 3) := by decide +kernel
theorem c_233_49 : cd 233 49 = some (.iload_n 1, 1) := by decide +kernel
theorem c_233_50 : cd 233 50 = some (.iaload, 1) := by decide +kernel
theorem c_233_51 : cd 233 51 = some (.isub, 1) := by decide +kernel
theorem c_233_52 : cd 233 52 = some (.istore_n 2, 1) := by decide +kernel
theorem c_233_53 : cd 233 53 = some (.iload_n 2, 1) := by decide +kernel
theorem c_233_54 : cd 233 54 = some (.aload_n 0, 1) := by decide +kernel
theorem c_233_55 : cd 233 55 = some (.getfield 165, 3) := by decide +kernel
theorem c_233_58 : cd 233 58 = some (.aload_n 0, 1) := by decide +kernel
theorem c_233_59 : cd 233 59 = some (.getfield 174, 3) := by decide +kernel
theorem c_233_62 : cd 233 62 = some (.isub, 1) := by decide +kernel
theorem c_233_63 : cd 233 63 = some (.if_icmp .ne (7), 3) := by decide +kernel
theorem c_233_66 : cd 233 66 = some (.iconst (1), 1) := by decide +kernel
theorem c_233_67 : cd 233 67 = some (.goto (4), 3) := by decide +kernel
theorem c_233_70 : cd 233 70 = some (.iconst (0), 1) := by decide +kernel
theorem c_233_71 : cd 233 71 = some (.istore_n 3, 1) := by decide +kernel
theorem c_233_72 : cd 233 72 = some (.iconst (0), 1) := by decide +kernel
theorem c_233_73 : cd 233 73 = some (.istore 4, 2) := by decide +kernel
theorem c_233_75 : cd 233 75 = some (.iload 4, 2) := by decide +kernel
theorem c_233_77 : cd 233 77 = some (.iload_n 2, 1) := by decide +kernel
theorem c_233_78 : cd 233 78 = some (.if_icmp .ge (48), 3) := by decide +kernel
theorem c_233_81 : cd 233 81 = some (.iload_n 3, 1) := by decide +kernel
theorem c_233_82 : cd 233 82 = some (.ifCond .eq (44), 3) := by decide +kernel
theorem c_233_85 : cd 233 85 = some (.aload_n 0, 1) := by decide +kernel
theorem c_233_86 : cd 233 86 = some (.getfield 28, 3) := by decide +kernel
theorem c_233_89 : cd 233 89 = some (.aload_n 0, 1) := by decide +kernel
theorem c_233_90 : cd 233 90 = some (.getfield 174, 3) := by decide +kernel
theorem c_233_93 : cd 233 93 = some (.iload 4, 2) := by decide +kernel
theorem c_233_95 : cd 233 95 = some (.iadd, 1) := by decide +kernel
theorem c_233_96 : cd 233 96 = some (.iaload, 1) := by decide +kernel
theorem c_233_97 : cd 233 97 = some (.aload_n 0, 1) := by decide +kernel
theorem c_233_98 : cd 233 98 = some (.getfield 31, 3) := by decide +kernel
theorem c_233_101 : cd 233 101 = some (.aload_n 0, 1) := by decide +kernel
theorem c_233_102 : cd 233 102 = some (.getfield 35, 3) := by decide +kernel
theorem c_233_105 : cd 233 105 = some (.iload_n 1, 1) := by decide +kernel
theorem c_233_106 : cd 233 106 = some (.iaload, 1) := by decide +kernel
theorem c_233_107 : cd 233 107 = some (.iload 4, 2) := by decide +kernel
theorem c_233_109 : cd 233 109 = some (.iadd, 1) := by decide +kernel
theorem c_233_110 : cd 233 110 = some (.caload, 1) := by decide +kernel
theorem c_233_111 : cd 233 111 = some (.if_icmp .ne (7), 3) := by decide +kernel
theorem c_233_114 : cd 233 114 = some (.iconst (1), 1) := by decide +kernel
theorem c_233_115 : cd 233 115 = some (.goto (4), 3) := by decide +kernel
theorem c_233_118 : cd 233 118 = some (.iconst (0), 1) := by decide +kernel
theorem c_233_119 : cd 233 119 = some (.istore_n 3, 1) := by decide +kernel
theorem c_233_120 : cd 233 120 = some (.iinc 4 (1), 3) := by decide +kernel
theorem c_233_123 : cd 233 123 = some (.goto (-48), 3) := by decide +kernel
theorem c_233_126 : cd 233 126 = some (.iload_n 3, 1) := by decide +kernel
theorem c_233_127 : cd 233 127 = some (.ifCond .eq (13), 3) := by decide +kernel
theorem c_233_130 : cd 233 130 = some (.aload_n 0, 1) := by decide +kernel
theorem c_233_131 : cd 233 131 = some (.iconst (1), 1) := by decide +kernel
theorem c_233_132 : cd 233 132 = some (.putfield 171, 3) := by decide +kernel
theorem c_233_135 : cd 233 135 = some (.aload_n 0, 1) := by decide +kernel
theorem c_233_136 : cd 233 136 = some (.iload_n 1, 1) := by decide +kernel
theorem c_233_137 : cd 233 137 = some (.putfield 177, 3) := by decide +kernel
theorem c_233_140 : cd 233 140 = some (.iinc 1 (1), 3) := by decide +kernel
theorem c_233_143 : cd 233 143 = some (.goto (-112), 3) := by decide +kernel
theorem c_233_146 : cd 233 146 = some (.return_, 1) := by decide +kernel
def f_Mo_readLetters_119 (k31 : Nat → Int32 → Mm → Option (Mm)) (k75 : Nat → Int32 → Int32 → Int32 → Int32 → Mm → Option (Mm)) (x0 : Nat) (x1 : Int32) (x2 : Int32) (x4 : Int32) (y0 : Int32) (σ : Mm) : Option Mm := k75 x0 x1 x2 y0 (x4 + (1 : Int32)) σ
set_option maxRecDepth 100000 in
set_option maxHeartbeats 4000000 in
theorem t_Mo_readLetters_119 {X : Xt} {S : Sh} (hS : ShOK S) {d : Nat} (hd : 1 ≤ d + 1) {k31 : Nat → Int32 → Mm → Option (Mm)} (hk31 : ∀ (x0 : Nat) (x1 : Int32) (u2 : Value) (u3 : Value) (u4 : Value) (σ : Mm) (h_x0 : tgT x0 = 12), Rf X S emV (k31 x0 x1 σ) (d + 1) 233 31 [.ref x0, .int x1, u2, u3, u4] [] σ) {k75 : Nat → Int32 → Int32 → Int32 → Int32 → Mm → Option (Mm)} (hk75 : ∀ (x0 : Nat) (x1 : Int32) (x2 : Int32) (x3 : Int32) (x4 : Int32) (σ : Mm) (h_x0 : tgT x0 = 12), Rf X S emV (k75 x0 x1 x2 x3 x4 σ) (d + 1) 233 75 [.ref x0, .int x1, .int x2, .int x3, .int x4] [] σ) (x0 : Nat) (x1 : Int32) (x2 : Int32) (x4 : Int32) (y0 : Int32) (u3 : Value) (σ : Mm) (h_x0 : tgT x0 = 12) : Rf X S emV (f_Mo_readLetters_119 k31 k75 x0 x1 x2 x4 y0 σ) (d + 1) 233 119 [.ref x0, .int x1, .int x2, u3, .int x4] [.int y0] σ := by
  unfold f_Mo_readLetters_119
  refine rf_ist (i := 3) (Or.inr ⟨3, rfl, rfl, rfl⟩) c_233_119 (Nat.le_of_ble_eq_true rfl) rfl ?_
  refine rf_iinc c_233_120 rfl ki_1 rfl ?_
  refine rf_goto c_233_123 rfl ?_
  exact hk75 x0 x1 x2 y0 (x4 + (1 : Int32)) σ h_x0
def f_Mo_readLetters_140 (k31 : Nat → Int32 → Mm → Option (Mm)) (x0 : Nat) (x1 : Int32) (σ : Mm) : Option Mm := k31 x0 (x1 + (1 : Int32)) σ
set_option maxRecDepth 100000 in
set_option maxHeartbeats 4000000 in
theorem t_Mo_readLetters_140 {X : Xt} {S : Sh} (hS : ShOK S) {d : Nat} (hd : 1 ≤ d + 1) {k31 : Nat → Int32 → Mm → Option (Mm)} (hk31 : ∀ (x0 : Nat) (x1 : Int32) (u2 : Value) (u3 : Value) (u4 : Value) (σ : Mm) (h_x0 : tgT x0 = 12), Rf X S emV (k31 x0 x1 σ) (d + 1) 233 31 [.ref x0, .int x1, u2, u3, u4] [] σ) (x0 : Nat) (x1 : Int32) (u2 : Value) (u3 : Value) (u4 : Value) (σ : Mm) (h_x0 : tgT x0 = 12) : Rf X S emV (f_Mo_readLetters_140 k31 x0 x1 σ) (d + 1) 233 140 [.ref x0, .int x1, u2, u3, u4] [] σ := by
  unfold f_Mo_readLetters_140
  refine rf_iinc c_233_140 rfl ki_1 rfl ?_
  refine rf_goto c_233_143 rfl ?_
  exact hk31 x0 (x1 + (1 : Int32)) (u2) (u3) (u4) σ h_x0
def f_Mo_readLetters_126 (k31 : Nat → Int32 → Mm → Option (Mm)) (x0 : Nat) (x1 : Int32) (x3 : Int32) (σ : Mm) : Option Mm := (if x3 = 0 then (f_Mo_readLetters_140 k31 x0 x1 σ) else (nmM (up2 σ x0 16 (1 : Int32)) fun σ132 => nmM (up2 σ132 x0 17 x1) fun σ137 => f_Mo_readLetters_140 k31 x0 x1 σ137))
set_option maxRecDepth 100000 in
set_option maxHeartbeats 4000000 in
theorem t_Mo_readLetters_126 {X : Xt} {S : Sh} (hS : ShOK S) {d : Nat} (hd : 1 ≤ d + 1) {k31 : Nat → Int32 → Mm → Option (Mm)} (hk31 : ∀ (x0 : Nat) (x1 : Int32) (u2 : Value) (u3 : Value) (u4 : Value) (σ : Mm) (h_x0 : tgT x0 = 12), Rf X S emV (k31 x0 x1 σ) (d + 1) 233 31 [.ref x0, .int x1, u2, u3, u4] [] σ) (x0 : Nat) (x1 : Int32) (x3 : Int32) (u2 : Value) (u4 : Value) (σ : Mm) (h_x0 : tgT x0 = 12) : Rf X S emV (f_Mo_readLetters_126 k31 x0 x1 x3 σ) (d + 1) 233 126 [.ref x0, .int x1, u2, .int x3, u4] [] σ := by
  unfold f_Mo_readLetters_126
  refine rf_ild (i := 3) (Or.inr ⟨3, rfl, rfl, rfl⟩) c_233_126 rfl ?_
  refine rf_ite (fun hc127 => ?_) (fun hc127 => ?_)
  · refine rf_b1t c_233_127 rfl (decide_eq_true hc127) ?_
    exact t_Mo_readLetters_140 hS hd hk31 x0 x1 (u2) (.int x3) (u4) σ h_x0
  · refine rf_b1f c_233_127 rfl (decide_eq_false hc127) ?_
    refine rf_ald (i := 0) (Or.inr ⟨0, rfl, rfl, rfl⟩) c_233_130 rfl ?_
    refine rf_iconst c_233_131 ki_1 ?_
    refine rf_puti hS c_233_132 rfl fl_12_171 rfl rfl rfl rfl h_x0 ?_
    refine rf_nm (fun σ132 => ?_)
    refine rf_ald (i := 0) (Or.inr ⟨0, rfl, rfl, rfl⟩) c_233_135 rfl ?_
    refine rf_ild (i := 1) (Or.inr ⟨1, rfl, rfl, rfl⟩) c_233_136 rfl ?_
    refine rf_puti hS c_233_137 rfl fl_12_177 rfl rfl rfl rfl h_x0 ?_
    refine rf_nm (fun σ137 => ?_)
    exact t_Mo_readLetters_140 hS hd hk31 x0 x1 (u2) (.int x3) (u4) σ137 h_x0
def f_Mo_readLetters_75 (k31 : Nat → Int32 → Mm → Option (Mm)) : Nat → Nat → Int32 → Int32 → Int32 → Int32 → Mm → Option Mm
  | 0, _, _, _, _, _, _ => none
  | n + 1, x0, x1, x2, x3, x4, σ => (if x2 ≤ x4 then (f_Mo_readLetters_126 k31 x0 x1 x3 σ) else (if x3 = 0 then (f_Mo_readLetters_126 k31 x0 x1 x3 σ) else (if inbB ((σ x0 15) + x4) 96 = true then if inbB x1 18 = true then if inbB ((σ (rfT x0 12) (ix x1)) + x4) 68 = true then (if ¬ (σ (rfT x0 9) (ix ((σ x0 15) + x4))) = (σ (rfT x0 11) (ix ((σ (rfT x0 12) (ix x1)) + x4))) then (f_Mo_readLetters_119 k31 (f_Mo_readLetters_75 k31 n) x0 x1 x2 x4 (0 : Int32) σ) else (f_Mo_readLetters_119 k31 (f_Mo_readLetters_75 k31 n) x0 x1 x2 x4 (1 : Int32) σ)) else none else none else none)))
set_option maxRecDepth 100000 in
set_option maxHeartbeats 4000000 in
theorem t_Mo_readLetters_75 {X : Xt} {S : Sh} (hS : ShOK S) {d : Nat} (hd : 1 ≤ d + 1) {k31 : Nat → Int32 → Mm → Option (Mm)} (hk31 : ∀ (x0 : Nat) (x1 : Int32) (u2 : Value) (u3 : Value) (u4 : Value) (σ : Mm) (h_x0 : tgT x0 = 12), Rf X S emV (k31 x0 x1 σ) (d + 1) 233 31 [.ref x0, .int x1, u2, u3, u4] [] σ) : ∀ (n : Nat) (x0 : Nat) (x1 : Int32) (x2 : Int32) (x3 : Int32) (x4 : Int32) (σ : Mm) (h_x0 : tgT x0 = 12), Rf X S emV (f_Mo_readLetters_75 k31 n x0 x1 x2 x3 x4 σ) (d + 1) 233 75 [.ref x0, .int x1, .int x2, .int x3, .int x4] [] σ := by
  intro n
  induction n with
  | zero => intro x0 x1 x2 x3 x4 σ h_x0; exact rf_none
  | succ n ih =>
    intro x0 x1 x2 x3 x4 σ h_x0
    rw [f_Mo_readLetters_75]
    refine rf_ild (i := 4) (Or.inl ⟨rfl, rfl⟩) c_233_75 rfl ?_
    refine rf_ild (i := 2) (Or.inr ⟨2, rfl, rfl, rfl⟩) c_233_77 rfl ?_
    refine rf_ite (fun hc78 => ?_) (fun hc78 => ?_)
    · refine rf_b2t c_233_78 rfl (decide_eq_true hc78) ?_
      exact t_Mo_readLetters_126 hS hd hk31 x0 x1 x3 (.int x2) (.int x4) σ h_x0
    · refine rf_b2f c_233_78 rfl (decide_eq_false hc78) ?_
      refine rf_ild (i := 3) (Or.inr ⟨3, rfl, rfl, rfl⟩) c_233_81 rfl ?_
      refine rf_ite (fun hc82 => ?_) (fun hc82 => ?_)
      · refine rf_b1t c_233_82 rfl (decide_eq_true hc82) ?_
        exact t_Mo_readLetters_126 hS hd hk31 x0 x1 x3 (.int x2) (.int x4) σ h_x0
      · refine rf_b1f c_233_82 rfl (decide_eq_false hc82) ?_
        refine rf_ald (i := 0) (Or.inr ⟨0, rfl, rfl, rfl⟩) c_233_85 rfl ?_
        refine rf_getr hS c_233_86 rfl fl_12_28 rfl h_x0 ?_
        refine rf_ald (i := 0) (Or.inr ⟨0, rfl, rfl, rfl⟩) c_233_89 rfl ?_
        refine rf_geti hS c_233_90 rfl fl_12_174 rfl h_x0 ?_
        refine rf_ild (i := 4) (Or.inl ⟨rfl, rfl⟩) c_233_93 rfl ?_
        refine rf_iadd c_233_95 ?_
        refine rf_ite (fun hb96 => ?_) (fun _ => rf_none)
        refine rf_iald hS c_233_96 (tf_12_9 h_x0) (lf_12_9 h_x0) hb96 ?_
        refine rf_ald (i := 0) (Or.inr ⟨0, rfl, rfl, rfl⟩) c_233_97 rfl ?_
        refine rf_getr hS c_233_98 rfl fl_12_31 rfl h_x0 ?_
        refine rf_ald (i := 0) (Or.inr ⟨0, rfl, rfl, rfl⟩) c_233_101 rfl ?_
        refine rf_getr hS c_233_102 rfl fl_12_35 rfl h_x0 ?_
        refine rf_ild (i := 1) (Or.inr ⟨1, rfl, rfl, rfl⟩) c_233_105 rfl ?_
        refine rf_ite (fun hb106 => ?_) (fun _ => rf_none)
        refine rf_iald hS c_233_106 (tf_12_12 h_x0) (lf_12_12 h_x0) hb106 ?_
        refine rf_ild (i := 4) (Or.inl ⟨rfl, rfl⟩) c_233_107 rfl ?_
        refine rf_iadd c_233_109 ?_
        refine rf_ite (fun hb110 => ?_) (fun _ => rf_none)
        refine rf_cald hS c_233_110 (tf_12_11 h_x0) (lf_12_11 h_x0) hb110 ?_
        refine rf_ite (fun hc111 => ?_) (fun hc111 => ?_)
        · refine rf_b2t c_233_111 rfl (decide_eq_true hc111) ?_
          refine rf_iconst c_233_118 ki_0 ?_
          exact t_Mo_readLetters_119 hS hd hk31 ih x0 x1 x2 x4 (0 : Int32) (.int x3) σ h_x0
        · refine rf_b2f c_233_111 rfl (decide_eq_false hc111) ?_
          refine rf_iconst c_233_114 ki_1 ?_
          refine rf_goto c_233_115 rfl ?_
          exact t_Mo_readLetters_119 hS hd hk31 ih x0 x1 x2 x4 (1 : Int32) (.int x3) σ h_x0
def f_Mo_readLetters_71 (k31 : Nat → Int32 → Mm → Option (Mm)) (x0 : Nat) (x1 : Int32) (x2 : Int32) (y0 : Int32) (σ : Mm) : Option Mm := f_Mo_readLetters_75 k31 NN x0 x1 x2 y0 (0 : Int32) σ
set_option maxRecDepth 100000 in
set_option maxHeartbeats 4000000 in
theorem t_Mo_readLetters_71 {X : Xt} {S : Sh} (hS : ShOK S) {d : Nat} (hd : 1 ≤ d + 1) {k31 : Nat → Int32 → Mm → Option (Mm)} (hk31 : ∀ (x0 : Nat) (x1 : Int32) (u2 : Value) (u3 : Value) (u4 : Value) (σ : Mm) (h_x0 : tgT x0 = 12), Rf X S emV (k31 x0 x1 σ) (d + 1) 233 31 [.ref x0, .int x1, u2, u3, u4] [] σ) (x0 : Nat) (x1 : Int32) (x2 : Int32) (y0 : Int32) (u3 : Value) (u4 : Value) (σ : Mm) (h_x0 : tgT x0 = 12) : Rf X S emV (f_Mo_readLetters_71 k31 x0 x1 x2 y0 σ) (d + 1) 233 71 [.ref x0, .int x1, .int x2, u3, u4] [.int y0] σ := by
  unfold f_Mo_readLetters_71
  refine rf_ist (i := 3) (Or.inr ⟨3, rfl, rfl, rfl⟩) c_233_71 (Nat.le_of_ble_eq_true rfl) rfl ?_
  refine rf_iconst c_233_72 ki_0 ?_
  refine rf_ist (i := 4) (Or.inl ⟨rfl, rfl⟩) c_233_73 (Nat.le_of_ble_eq_true rfl) rfl ?_
  exact t_Mo_readLetters_75 hS hd hk31 NN x0 x1 x2 y0 (0 : Int32) σ h_x0
def f_Mo_readLetters_31 : Nat → Nat → Int32 → Mm → Option Mm
  | 0, _, _, _ => none
  | n + 1, x0, x1, σ => (if (17 : Int32) ≤ x1 then (some σ) else (if inbB (x1 + (1 : Int32)) 18 = true then if inbB x1 18 = true then (if ¬ ((σ (rfT x0 12) (ix (x1 + (1 : Int32)))) - (σ (rfT x0 12) (ix x1))) = ((σ x0 14) - (σ x0 15)) then (f_Mo_readLetters_71 (f_Mo_readLetters_31  n) x0 x1 ((σ (rfT x0 12) (ix (x1 + (1 : Int32)))) - (σ (rfT x0 12) (ix x1))) (0 : Int32) σ) else (f_Mo_readLetters_71 (f_Mo_readLetters_31  n) x0 x1 ((σ (rfT x0 12) (ix (x1 + (1 : Int32)))) - (σ (rfT x0 12) (ix x1))) (1 : Int32) σ)) else none else none))
set_option maxRecDepth 100000 in
set_option maxHeartbeats 4000000 in
theorem t_Mo_readLetters_31 {X : Xt} {S : Sh} (hS : ShOK S) {d : Nat} (hd : 1 ≤ d + 1) : ∀ (n : Nat) (x0 : Nat) (x1 : Int32) (u2 : Value) (u3 : Value) (u4 : Value) (σ : Mm) (h_x0 : tgT x0 = 12), Rf X S emV (f_Mo_readLetters_31 n x0 x1 σ) (d + 1) 233 31 [.ref x0, .int x1, u2, u3, u4] [] σ := by
  intro n
  induction n with
  | zero => intro x0 x1 u2 u3 u4 σ h_x0; exact rf_none
  | succ n ih =>
    intro x0 x1 u2 u3 u4 σ h_x0
    rw [f_Mo_readLetters_31]
    refine rf_ild (i := 1) (Or.inr ⟨1, rfl, rfl, rfl⟩) c_233_31 rfl ?_
    refine rf_bipush c_233_32 kb_17 ?_
    refine rf_ite (fun hc34 => ?_) (fun hc34 => ?_)
    · refine rf_b2t c_233_34 rfl (decide_eq_true hc34) ?_
      exact rf_vret c_233_146 rfl rfl
    · refine rf_b2f c_233_34 rfl (decide_eq_false hc34) ?_
      refine rf_ald (i := 0) (Or.inr ⟨0, rfl, rfl, rfl⟩) c_233_37 rfl ?_
      refine rf_getr hS c_233_38 rfl fl_12_35 rfl h_x0 ?_
      refine rf_ild (i := 1) (Or.inr ⟨1, rfl, rfl, rfl⟩) c_233_41 rfl ?_
      refine rf_iconst c_233_42 ki_1 ?_
      refine rf_iadd c_233_43 ?_
      refine rf_ite (fun hb44 => ?_) (fun _ => rf_none)
      refine rf_iald hS c_233_44 (tf_12_12 h_x0) (lf_12_12 h_x0) hb44 ?_
      refine rf_ald (i := 0) (Or.inr ⟨0, rfl, rfl, rfl⟩) c_233_45 rfl ?_
      refine rf_getr hS c_233_46 rfl fl_12_35 rfl h_x0 ?_
      refine rf_ild (i := 1) (Or.inr ⟨1, rfl, rfl, rfl⟩) c_233_49 rfl ?_
      refine rf_ite (fun hb50 => ?_) (fun _ => rf_none)
      refine rf_iald hS c_233_50 (tf_12_12 h_x0) (lf_12_12 h_x0) hb50 ?_
      refine rf_isub c_233_51 ?_
      refine rf_ist (i := 2) (Or.inr ⟨2, rfl, rfl, rfl⟩) c_233_52 (Nat.le_of_ble_eq_true rfl) rfl ?_
      refine rf_ild (i := 2) (Or.inr ⟨2, rfl, rfl, rfl⟩) c_233_53 rfl ?_
      refine rf_ald (i := 0) (Or.inr ⟨0, rfl, rfl, rfl⟩) c_233_54 rfl ?_
      refine rf_geti hS c_233_55 rfl fl_12_165 rfl h_x0 ?_
      refine rf_ald (i := 0) (Or.inr ⟨0, rfl, rfl, rfl⟩) c_233_58 rfl ?_
      refine rf_geti hS c_233_59 rfl fl_12_174 rfl h_x0 ?_
      refine rf_isub c_233_62 ?_
      refine rf_ite (fun hc63 => ?_) (fun hc63 => ?_)
      · refine rf_b2t c_233_63 rfl (decide_eq_true hc63) ?_
        refine rf_iconst c_233_70 ki_0 ?_
        exact t_Mo_readLetters_71 hS hd ih x0 x1 ((σ (rfT x0 12) (ix (x1 + (1 : Int32)))) - (σ (rfT x0 12) (ix x1))) (0 : Int32) (u3) (u4) σ h_x0
      · refine rf_b2f c_233_63 rfl (decide_eq_false hc63) ?_
        refine rf_iconst c_233_66 ki_1 ?_
        refine rf_goto c_233_67 rfl ?_
        exact t_Mo_readLetters_71 hS hd ih x0 x1 ((σ (rfT x0 12) (ix (x1 + (1 : Int32)))) - (σ (rfT x0 12) (ix x1))) (1 : Int32) (u3) (u4) σ h_x0
def f_Mo_readLetters_0 : Nat → Nat → Mm → Option Mm
  | 0, _, _ => none
  | n + 1, x0, σ => (f_Mo_isLetter σ x0 (σ x0 14)).bind fun v5 => (if v5 = 0 then (nmM (up2 σ x0 16 (4 : Int32)) fun σ26 => f_Mo_readLetters_31  NN x0 (0 : Int32) σ26) else (nmM (up2 σ x0 14 ((σ x0 14) + (1 : Int32))) fun σ18 => f_Mo_readLetters_0  n x0 σ18))
set_option maxRecDepth 100000 in
set_option maxHeartbeats 4000000 in
theorem t_Mo_readLetters_0 {X : Xt} {S : Sh} (hS : ShOK S) {d : Nat} (hd : 1 ≤ d + 1) : ∀ (n : Nat) (x0 : Nat) (u1 : Value) (u2 : Value) (u3 : Value) (u4 : Value) (σ : Mm) (h_x0 : tgT x0 = 12), Rf X S emV (f_Mo_readLetters_0 n x0 σ) (d + 1) 233 0 [.ref x0, u1, u2, u3, u4] [] σ := by
  intro n
  induction n with
  | zero => intro x0 u1 u2 u3 u4 σ h_x0; exact rf_none
  | succ n ih =>
    intro x0 u1 u2 u3 u4 σ h_x0
    rw [f_Mo_readLetters_0]
    refine rf_ald (i := 0) (Or.inr ⟨0, rfl, rfl, rfl⟩) c_233_0 rfl ?_
    refine rf_ald (i := 0) (Or.inr ⟨0, rfl, rfl, rfl⟩) c_233_1 rfl ?_
    refine rf_geti hS c_233_2 rfl fl_12_165 rfl h_x0 ?_
    refine rf_callI (as := [.ref x0, .int (σ x0 14)]) (kd := 1) c_233_5 rfl (by decide) rfl ml_12_168 (by decide) rfl (rcv_1 hS rfl rfl h_x0 (by decide)) (Nat.zero_le _) rfl rfl (t_Mo_isLetter hS (by omega) σ x0 (σ x0 14) h_x0) (fun v5 => ?_)
    refine rf_ite (fun hc8 => ?_) (fun hc8 => ?_)
    · refine rf_b1t c_233_8 rfl (decide_eq_true hc8) ?_
      refine rf_ald (i := 0) (Or.inr ⟨0, rfl, rfl, rfl⟩) c_233_24 rfl ?_
      refine rf_iconst c_233_25 ki_4 ?_
      refine rf_puti hS c_233_26 rfl fl_12_171 rfl rfl rfl rfl h_x0 ?_
      refine rf_nm (fun σ26 => ?_)
      refine rf_iconst c_233_29 ki_0 ?_
      refine rf_ist (i := 1) (Or.inr ⟨1, rfl, rfl, rfl⟩) c_233_30 (Nat.le_of_ble_eq_true rfl) rfl ?_
      exact t_Mo_readLetters_31 hS hd  NN x0 (0 : Int32) (u2) (u3) (u4) σ26 h_x0
    · refine rf_b1f c_233_8 rfl (decide_eq_false hc8) ?_
      refine rf_ald (i := 0) (Or.inr ⟨0, rfl, rfl, rfl⟩) c_233_11 rfl ?_
      refine rf_dup c_233_12 rfl ?_
      refine rf_geti hS c_233_13 rfl fl_12_165 rfl h_x0 ?_
      refine rf_iconst c_233_16 ki_1 ?_
      refine rf_iadd c_233_17 ?_
      refine rf_puti hS c_233_18 rfl fl_12_165 rfl rfl rfl rfl h_x0 ?_
      refine rf_nm (fun σ18 => ?_)
      refine rf_goto c_233_21 rfl ?_
      exact ih x0 (u1) (u2) (u3) (u4) σ18 h_x0
def f_Mo_readLetters (x0 : Nat) (σ : Mm) : Option (Mm) := f_Mo_readLetters_0  NN x0 σ
theorem t_Mo_readLetters {X : Xt} {S : Sh} (hS : ShOK S) {d : Nat} (hd : 1 ≤ d) (x0 : Nat) (σ : Mm) (h_x0 : tgT x0 = 12) : Rf X S emV (f_Mo_readLetters x0 σ) d 233 0 [.ref x0, unset0, unset0, unset0, unset0] [] σ := by
  obtain ⟨d1, rfl⟩ : ∃ d1, d = d1 + 1 := ⟨d - 1, by omega⟩
  exact t_Mo_readLetters_0 hS hd  NN x0 (unset0) (unset0) (unset0) (unset0) σ h_x0
theorem c_234_0 : cd 234 0 = some (.aload_n 0, 1) := by decide +kernel
theorem c_234_1 : cd 234 1 = some (.iconst (0), 1) := by decide +kernel
theorem c_234_2 : cd 234 2 = some (.putfield 177, 3) := by decide +kernel
theorem c_234_5 : cd 234 5 = some (.aload_n 0, 1) := by decide +kernel
theorem c_234_6 : cd 234 6 = some (.aload_n 0, 1) := by decide +kernel
theorem c_234_7 : cd 234 7 = some (.getfield 165, 3) := by decide +kernel
theorem c_234_10 : cd 234 10 = some (.invokevirtual 180, 3) := by decide +kernel
theorem c_234_13 : cd 234 13 = some (.ifCond .eq (60), 3) := by decide +kernel
theorem c_234_16 : cd 234 16 = some (.aload_n 0, 1) := by decide +kernel
theorem c_234_17 : cd 234 17 = some (.aload_n 0, 1) := by decide +kernel
theorem c_234_18 : cd 234 18 = some (.getfield 165, 3) := by decide +kernel
theorem c_234_21 : cd 234 21 = some (.aload_n 0, 1) := by decide +kernel
theorem c_234_22 : cd 234 22 = some (.getfield 174, 3) := by decide +kernel
theorem c_234_25 : cd 234 25 = some (.isub, 1) := by decide +kernel
theorem c_234_26 : cd 234 26 = some (.iconst (5), 1) := by decide +kernel
theorem c_234_27 : cd 234 27 = some (.if_icmp .ge (26), 3) := by decide +kernel
theorem c_234_30 : cd 234 30 = some (.bipush (10), 2) := by decide +kernel
theorem c_234_32 : cd 234 32 = some (.aload_n 0, 1) := by decide +kernel
theorem c_234_33 : cd 234 33 = some (.getfield 177, 3) := by decide +kernel
theorem c_234_36 : cd 234 36 = some (.imul, 1) := by decide +kernel
theorem c_234_37 : cd 234 37 = some (.aload_n 0, 1) := by decide +kernel
theorem c_234_38 : cd 234 38 = some (.getfield 28, 3) := by decide +kernel
theorem c_234_41 : cd 234 41 = some (.aload_n 0, 1) := by decide +kernel
theorem c_234_42 : cd 234 42 = some (.getfield 165, 3) := by decide +kernel
theorem c_234_45 : cd 234 45 = some (.iaload, 1) := by decide +kernel
theorem c_234_46 : cd 234 46 = some (.iadd, 1) := by decide +kernel
theorem c_234_47 : cd 234 47 = some (.bipush (48), 2) := by decide +kernel
theorem c_234_49 : cd 234 49 = some (.isub, 1) := by decide +kernel
theorem c_234_50 : cd 234 50 = some (.goto (7), 3) := by decide +kernel
theorem c_234_53 : cd 234 53 = some (.aload_n 0, 1) := by decide +kernel
theorem c_234_54 : cd 234 54 = some (.getfield 177, 3) := by decide +kernel
theorem c_234_57 : cd 234 57 = some (.putfield 177, 3) := by decide +kernel
theorem c_234_60 : cd 234 60 = some (.aload_n 0, 1) := by decide +kernel
theorem c_234_61 : cd 234 61 = some (.dup, 1) := by decide +kernel
theorem c_234_62 : cd 234 62 = some (.getfield 165, 3) := by decide +kernel
theorem c_234_65 : cd 234 65 = some (.iconst (1), 1) := by decide +kernel
theorem c_234_66 : cd 234 66 = some (.iadd, 1) := by decide +kernel
theorem c_234_67 : cd 234 67 = some (.putfield 165, 3) := by decide +kernel
theorem c_234_70 : cd 234 70 = some (.goto (-65), 3) := by decide +kernel
theorem c_234_73 : cd 234 73 = some (.aload_n 0, 1) := by decide +kernel
theorem c_234_74 : cd 234 74 = some (.aload_n 0, 1) := by decide +kernel
theorem c_234_75 : cd 234 75 = some (.getfield 165, 3) := by decide +kernel
theorem c_234_78 : cd 234 78 = some (.aload_n 0, 1) := by decide +kernel
theorem c_234_79 : cd 234 79 = some (.getfield 174, 3) := by decide +kernel
theorem c_234_82 : cd 234 82 = some (.isub, 1) := by decide +kernel
theorem c_234_83 : cd 234 83 = some (.iconst (5), 1) := by decide +kernel
theorem c_234_84 : cd 234 84 = some (.if_icmp .le (7), 3) := by decide +kernel
theorem c_234_87 : cd 234 87 = some (.iconst (4), 1) := by decide +kernel
theorem c_234_88 : cd 234 88 = some (.goto (4), 3) := by decide +kernel
theorem c_234_91 : cd 234 91 = some (.iconst (2), 1) := by decide +kernel
theorem c_234_92 : cd 234 92 = some (.putfield 171, 3) := by decide +kernel
theorem c_234_95 : cd 234 95 = some (.return_, 1) := by decide +kernel
def f_Mo_readFigures_57 (k5 : Nat → Mm → Option (Mm)) (x0 : Nat) (y0 : Nat) (y1 : Int32) (σ : Mm) : Option Mm := nmM (up2 σ y0 17 y1) fun σ57 => nmM (up2 σ57 x0 14 ((σ57 x0 14) + (1 : Int32))) fun σ67 => k5 x0 σ67
set_option maxRecDepth 100000 in
set_option maxHeartbeats 4000000 in
theorem t_Mo_readFigures_57 {X : Xt} {S : Sh} (hS : ShOK S) {d : Nat} (hd : 1 ≤ d + 1) {k5 : Nat → Mm → Option (Mm)} (hk5 : ∀ (x0 : Nat) (σ : Mm) (h_x0 : tgT x0 = 12), Rf X S emV (k5 x0 σ) (d + 1) 234 5 [.ref x0] [] σ) (x0 : Nat) (y0 : Nat) (y1 : Int32) (σ : Mm) (h_x0 : tgT x0 = 12) (h_y0 : tgT y0 = 12) : Rf X S emV (f_Mo_readFigures_57 k5 x0 y0 y1 σ) (d + 1) 234 57 [.ref x0] [.int y1, .ref y0] σ := by
  unfold f_Mo_readFigures_57
  refine rf_puti hS c_234_57 rfl fl_12_177 rfl rfl rfl rfl h_y0 ?_
  refine rf_nm (fun σ57 => ?_)
  refine rf_ald (i := 0) (Or.inr ⟨0, rfl, rfl, rfl⟩) c_234_60 rfl ?_
  refine rf_dup c_234_61 rfl ?_
  refine rf_geti hS c_234_62 rfl fl_12_165 rfl h_x0 ?_
  refine rf_iconst c_234_65 ki_1 ?_
  refine rf_iadd c_234_66 ?_
  refine rf_puti hS c_234_67 rfl fl_12_165 rfl rfl rfl rfl h_x0 ?_
  refine rf_nm (fun σ67 => ?_)
  refine rf_goto c_234_70 rfl ?_
  exact hk5 x0 σ67 h_x0
def f_Mo_readFigures_92 (y0 : Nat) (y1 : Int32) (σ : Mm) : Option Mm := nmM (up2 σ y0 16 y1) fun σ92 => some σ92
set_option maxRecDepth 100000 in
set_option maxHeartbeats 4000000 in
theorem t_Mo_readFigures_92 {X : Xt} {S : Sh} (hS : ShOK S) {d : Nat} (hd : 1 ≤ d + 1) (y0 : Nat) (y1 : Int32) (u0 : Value) (σ : Mm) (h_y0 : tgT y0 = 12) : Rf X S emV (f_Mo_readFigures_92 y0 y1 σ) (d + 1) 234 92 [u0] [.int y1, .ref y0] σ := by
  unfold f_Mo_readFigures_92
  refine rf_puti hS c_234_92 rfl fl_12_171 rfl rfl rfl rfl h_y0 ?_
  refine rf_nm (fun σ92 => ?_)
  exact rf_vret c_234_95 rfl rfl
def f_Mo_readFigures_5 : Nat → Nat → Mm → Option Mm
  | 0, _, _ => none
  | n + 1, x0, σ => (f_Mo_isFigure σ x0 (σ x0 14)).bind fun v10 => (if v10 = 0 then (if ((σ x0 14) - (σ x0 15)) ≤ (5 : Int32) then (f_Mo_readFigures_92  x0 (2 : Int32) σ) else (f_Mo_readFigures_92  x0 (4 : Int32) σ)) else (if (5 : Int32) ≤ ((σ x0 14) - (σ x0 15)) then (f_Mo_readFigures_57 (f_Mo_readFigures_5  n) x0 x0 (σ x0 17) σ) else (if inbB (σ x0 14) 96 = true then f_Mo_readFigures_57 (f_Mo_readFigures_5  n) x0 x0 ((((10 : Int32) * (σ x0 17)) + (σ (rfT x0 9) (ix (σ x0 14)))) - (48 : Int32)) σ else none)))
set_option maxRecDepth 100000 in
set_option maxHeartbeats 4000000 in
theorem t_Mo_readFigures_5 {X : Xt} {S : Sh} (hS : ShOK S) {d : Nat} (hd : 1 ≤ d + 1) : ∀ (n : Nat) (x0 : Nat) (σ : Mm) (h_x0 : tgT x0 = 12), Rf X S emV (f_Mo_readFigures_5 n x0 σ) (d + 1) 234 5 [.ref x0] [] σ := by
  intro n
  induction n with
  | zero => intro x0 σ h_x0; exact rf_none
  | succ n ih =>
    intro x0 σ h_x0
    rw [f_Mo_readFigures_5]
    refine rf_ald (i := 0) (Or.inr ⟨0, rfl, rfl, rfl⟩) c_234_5 rfl ?_
    refine rf_ald (i := 0) (Or.inr ⟨0, rfl, rfl, rfl⟩) c_234_6 rfl ?_
    refine rf_geti hS c_234_7 rfl fl_12_165 rfl h_x0 ?_
    refine rf_callI (as := [.ref x0, .int (σ x0 14)]) (kd := 1) c_234_10 rfl (by decide) rfl ml_12_180 (by decide) rfl (rcv_1 hS rfl rfl h_x0 (by decide)) (Nat.zero_le _) rfl rfl (t_Mo_isFigure hS (by omega) σ x0 (σ x0 14) h_x0) (fun v10 => ?_)
    refine rf_ite (fun hc13 => ?_) (fun hc13 => ?_)
    · refine rf_b1t c_234_13 rfl (decide_eq_true hc13) ?_
      refine rf_ald (i := 0) (Or.inr ⟨0, rfl, rfl, rfl⟩) c_234_73 rfl ?_
      refine rf_ald (i := 0) (Or.inr ⟨0, rfl, rfl, rfl⟩) c_234_74 rfl ?_
      refine rf_geti hS c_234_75 rfl fl_12_165 rfl h_x0 ?_
      refine rf_ald (i := 0) (Or.inr ⟨0, rfl, rfl, rfl⟩) c_234_78 rfl ?_
      refine rf_geti hS c_234_79 rfl fl_12_174 rfl h_x0 ?_
      refine rf_isub c_234_82 ?_
      refine rf_iconst c_234_83 ki_5 ?_
      refine rf_ite (fun hc84 => ?_) (fun hc84 => ?_)
      · refine rf_b2t c_234_84 rfl (decide_eq_true hc84) ?_
        refine rf_iconst c_234_91 ki_2 ?_
        exact t_Mo_readFigures_92 hS hd  x0 (2 : Int32) (.ref x0) σ h_x0
      · refine rf_b2f c_234_84 rfl (decide_eq_false hc84) ?_
        refine rf_iconst c_234_87 ki_4 ?_
        refine rf_goto c_234_88 rfl ?_
        exact t_Mo_readFigures_92 hS hd  x0 (4 : Int32) (.ref x0) σ h_x0
    · refine rf_b1f c_234_13 rfl (decide_eq_false hc13) ?_
      refine rf_ald (i := 0) (Or.inr ⟨0, rfl, rfl, rfl⟩) c_234_16 rfl ?_
      refine rf_ald (i := 0) (Or.inr ⟨0, rfl, rfl, rfl⟩) c_234_17 rfl ?_
      refine rf_geti hS c_234_18 rfl fl_12_165 rfl h_x0 ?_
      refine rf_ald (i := 0) (Or.inr ⟨0, rfl, rfl, rfl⟩) c_234_21 rfl ?_
      refine rf_geti hS c_234_22 rfl fl_12_174 rfl h_x0 ?_
      refine rf_isub c_234_25 ?_
      refine rf_iconst c_234_26 ki_5 ?_
      refine rf_ite (fun hc27 => ?_) (fun hc27 => ?_)
      · refine rf_b2t c_234_27 rfl (decide_eq_true hc27) ?_
        refine rf_ald (i := 0) (Or.inr ⟨0, rfl, rfl, rfl⟩) c_234_53 rfl ?_
        refine rf_geti hS c_234_54 rfl fl_12_177 rfl h_x0 ?_
        exact t_Mo_readFigures_57 hS hd ih x0 x0 (σ x0 17) σ h_x0 h_x0
      · refine rf_b2f c_234_27 rfl (decide_eq_false hc27) ?_
        refine rf_bipush c_234_30 kb_10 ?_
        refine rf_ald (i := 0) (Or.inr ⟨0, rfl, rfl, rfl⟩) c_234_32 rfl ?_
        refine rf_geti hS c_234_33 rfl fl_12_177 rfl h_x0 ?_
        refine rf_imul c_234_36 ?_
        refine rf_ald (i := 0) (Or.inr ⟨0, rfl, rfl, rfl⟩) c_234_37 rfl ?_
        refine rf_getr hS c_234_38 rfl fl_12_28 rfl h_x0 ?_
        refine rf_ald (i := 0) (Or.inr ⟨0, rfl, rfl, rfl⟩) c_234_41 rfl ?_
        refine rf_geti hS c_234_42 rfl fl_12_165 rfl h_x0 ?_
        refine rf_ite (fun hb45 => ?_) (fun _ => rf_none)
        refine rf_iald hS c_234_45 (tf_12_9 h_x0) (lf_12_9 h_x0) hb45 ?_
        refine rf_iadd c_234_46 ?_
        refine rf_bipush c_234_47 kb_48 ?_
        refine rf_isub c_234_49 ?_
        refine rf_goto c_234_50 rfl ?_
        exact t_Mo_readFigures_57 hS hd ih x0 x0 ((((10 : Int32) * (σ x0 17)) + (σ (rfT x0 9) (ix (σ x0 14)))) - (48 : Int32)) σ h_x0 h_x0
def f_Mo_readFigures (x0 : Nat) (σ : Mm) : Option Mm := nmM (up2 σ x0 17 (0 : Int32)) fun σ2 => f_Mo_readFigures_5  NN x0 σ2
set_option maxRecDepth 100000 in
set_option maxHeartbeats 4000000 in
theorem t_Mo_readFigures_e {X : Xt} {S : Sh} (hS : ShOK S) {d : Nat} (hd : 1 ≤ d + 1) (x0 : Nat) (σ : Mm) (h_x0 : tgT x0 = 12) : Rf X S emV (f_Mo_readFigures x0 σ) (d + 1) 234 0 [.ref x0] [] σ := by
  unfold f_Mo_readFigures
  refine rf_ald (i := 0) (Or.inr ⟨0, rfl, rfl, rfl⟩) c_234_0 rfl ?_
  refine rf_iconst c_234_1 ki_0 ?_
  refine rf_puti hS c_234_2 rfl fl_12_177 rfl rfl rfl rfl h_x0 ?_
  refine rf_nm (fun σ2 => ?_)
  exact t_Mo_readFigures_5 hS hd  NN x0 σ2 h_x0
theorem t_Mo_readFigures {X : Xt} {S : Sh} (hS : ShOK S) {d : Nat} (hd : 1 ≤ d) (x0 : Nat) (σ : Mm) (h_x0 : tgT x0 = 12) : Rf X S emV (f_Mo_readFigures x0 σ) d 234 0 [.ref x0] [] σ := by
  obtain ⟨d1, rfl⟩ : ∃ d1, d = d1 + 1 := ⟨d - 1, by omega⟩
  exact t_Mo_readFigures_e hS hd x0 σ h_x0
theorem c_235_0 : cd 235 0 = some (.aload_n 0, 1) := by decide +kernel
theorem c_235_1 : cd 235 1 = some (.getfield 165, 3) := by decide +kernel
theorem c_235_4 : cd 235 4 = some (.aload_n 0, 1) := by decide +kernel
theorem c_235_5 : cd 235 5 = some (.getfield 162, 3) := by decide +kernel
theorem c_235_8 : cd 235 8 = some (.if_icmp .ge (30), 3) := by decide +kernel
theorem c_235_11 : cd 235 11 = some (.aload_n 0, 1) := by decide +kernel
theorem c_235_12 : cd 235 12 = some (.getfield 28, 3) := by decide +kernel
theorem c_235_15 : cd 235 15 = some (.aload_n 0, 1) := by decide +kernel
theorem c_235_16 : cd 235 16 = some (.getfield 165, 3) := by decide +kernel
theorem c_235_19 : cd 235 19 = some (.iaload, 1) := by decide +kernel
theorem c_235_20 : cd 235 20 = some (.bipush (32), 2) := by decide +kernel
theorem c_235_22 : cd 235 22 = some (.if_icmp .ne (16), 3) := by decide +kernel
theorem c_235_25 : cd 235 25 = some (.aload_n 0, 1) := by decide +kernel
theorem c_235_26 : cd 235 26 = some (.dup, 1) := by decide +kernel
theorem c_235_27 : cd 235 27 = some (.getfield 165, 3) := by decide +kernel
theorem c_235_30 : cd 235 30 = some (.iconst (1), 1) := by decide +kernel
theorem c_235_31 : cd 235 31 = some (.iadd, 1) := by decide +kernel
theorem c_235_32 : cd 235 32 = some (.putfield 165, 3) := by decide +kernel
theorem c_235_35 : cd 235 35 = some (.goto (-35), 3) := by decide +kernel
theorem c_235_38 : cd 235 38 = some (.aload_n 0, 1) := by decide +kernel
theorem c_235_39 : cd 235 39 = some (.aload_n 0, 1) := by decide +kernel
theorem c_235_40 : cd 235 40 = some (.getfield 165, 3) := by decide +kernel
theorem c_235_43 : cd 235 43 = some (.putfield 174, 3) := by decide +kernel
theorem c_235_46 : cd 235 46 = some (.aload_n 0, 1) := by decide +kernel
theorem c_235_47 : cd 235 47 = some (.getfield 174, 3) := by decide +kernel
theorem c_235_50 : cd 235 50 = some (.aload_n 0, 1) := by decide +kernel
theorem c_235_51 : cd 235 51 = some (.getfield 183, 3) := by decide +kernel
theorem c_235_54 : cd 235 54 = some (.if_icmp .ne (7), 3) := by decide +kernel
theorem c_235_57 : cd 235 57 = some (.iconst (1), 1) := by decide +kernel
theorem c_235_58 : cd 235 58 = some (.goto (4), 3) := by decide +kernel
theorem c_235_61 : cd 235 61 = some (.iconst (0), 1) := by decide +kernel
theorem c_235_62 : cd 235 62 = some (.istore_n 1, 1) := by decide +kernel
theorem c_235_63 : cd 235 63 = some (.aload_n 0, 1) := by decide +kernel
theorem c_235_64 : cd 235 64 = some (.getfield 174, 3) := by decide +kernel
theorem c_235_67 : cd 235 67 = some (.aload_n 0, 1) := by decide +kernel
theorem c_235_68 : cd 235 68 = some (.getfield 162, 3) := by decide +kernel
theorem c_235_71 : cd 235 71 = some (.if_icmp .ne (9), 3) := by decide +kernel
theorem c_235_74 : cd 235 74 = some (.aload_n 0, 1) := by decide +kernel
theorem c_235_75 : cd 235 75 = some (.iconst (0), 1) := by decide +kernel
theorem c_235_76 : cd 235 76 = some (.putfield 171, 3) := by decide +kernel
theorem c_235_79 : cd 235 79 = some (.return_, 1) := by decide +kernel
theorem c_235_80 : cd 235 80 = some (.aload_n 0, 1) := by decide +kernel
theorem c_235_81 : cd 235 81 = some (.aload_n 0, 1) := by decide +kernel
theorem c_235_82 : cd 235 82 = some (.getfield 174, 3) := by decide +kernel
theorem c_235_85 : cd 235 85 = some (.invokevirtual 168, 3) := by decide +kernel
theorem c_235_88 : cd 235 88 = some (.ifCond .ne (14), 3) := by decide +kernel
theorem c_235_91 : cd 235 91 = some (.aload_n 0, 1) := by decide +kernel
theorem c_235_92 : cd 235 92 = some (.aload_n 0, 1) := by decide +kernel
theorem c_235_93 : cd 235 93 = some (.getfield 174, 3) := by decide +kernel
theorem c_235_96 : cd 235 96 = some (.invokevirtual 180, 3) := by decide +kernel
theorem c_235_99 : cd 235 99 = some (.ifCond .eq (50), 3) := by decide +kernel
theorem c_235_102 : cd 235 102 = some (.aload_n 0, 1) := by decide +kernel
theorem c_235_103 : cd 235 103 = some (.aload_n 0, 1) := by decide +kernel
theorem c_235_104 : cd 235 104 = some (.getfield 174, 3) := by decide +kernel
theorem c_235_107 : cd 235 107 = some (.invokevirtual 168, 3) := by decide +kernel
theorem c_235_110 : cd 235 110 = some (.ifCond .eq (10), 3) := by decide +kernel
theorem c_235_113 : cd 235 113 = some (.aload_n 0, 1) := by decide +kernel
theorem c_235_114 : cd 235 114 = some (.invokevirtual 186, 3) := by decide +kernel
theorem c_235_117 : cd 235 117 = some (.goto (7), 3) := by decide +kernel
theorem c_235_120 : cd 235 120 = some (.aload_n 0, 1) := by decide +kernel
theorem c_235_121 : cd 235 121 = some (.invokevirtual 189, 3) := by decide +kernel
theorem c_235_124 : cd 235 124 = some (.aload_n 0, 1) := by decide +kernel
theorem c_235_125 : cd 235 125 = some (.aload_n 0, 1) := by decide +kernel
theorem c_235_126 : cd 235 126 = some (.getfield 165, 3) := by decide +kernel
theorem c_235_129 : cd 235 129 = some (.putfield 183, 3) := by decide +kernel
theorem c_235_132 : cd 235 132 = some (.aload_n 0, 1) := by decide +kernel
theorem c_235_133 : cd 235 133 = some (.iload_n 1, 1) := by decide +kernel
theorem c_235_134 : cd 235 134 = some (.ifCond .eq (7), 3) := by decide +kernel
theorem c_235_137 : cd 235 137 = some (.iconst (4), 1) := by decide +kernel
theorem c_235_138 : cd 235 138 = some (.goto (7), 3) := by decide +kernel
theorem c_235_141 : cd 235 141 = some (.aload_n 0, 1) := by decide +kernel
theorem c_235_142 : cd 235 142 = some (.getfield 171, 3) := by decide +kernel
theorem c_235_145 : cd 235 145 = some (.putfield 171, 3) := by decide +kernel
theorem c_235_148 : cd 235 148 = some (.return_, 1) := by decide +kernel
theorem c_235_149 : cd 235 149 = some (.aload_n 0, 1) := by decide +kernel
theorem c_235_150 : cd 235 150 = some (.aload_n 0, 1) := by decide +kernel
theorem c_235_151 : cd 235 151 = some (.getfield 28, 3) := by decide +kernel
theorem c_235_154 : cd 235 154 = some (.aload_n 0, 1) := by decide +kernel
theorem c_235_155 : cd 235 155 = some (.getfield 174, 3) := by decide +kernel
theorem c_235_158 : cd 235 158 = some (.iaload, 1) := by decide +kernel
theorem c_235_159 : cd 235 159 = some (.putfield 177, 3) := by decide +kernel
theorem c_235_162 : cd 235 162 = some (.aload_n 0, 1) := by decide +kernel
theorem c_235_163 : cd 235 163 = some (.aload_n 0, 1) := by decide +kernel
theorem c_235_164 : cd 235 164 = some (.getfield 177, 3) := by decide +kernel
theorem c_235_167 : cd 235 167 = some (.bipush (40), 2) := by decide +kernel
theorem c_235_169 : cd 235 169 = some (.if_icmp .eq (30), 3) := by decide +kernel
theorem c_235_172 : cd 235 172 = some (.aload_n 0, 1) := by decide +kernel
theorem c_235_173 : cd 235 173 = some (.getfield 177, 3) := by decide +kernel
theorem c_235_176 : cd 235 176 = some (.bipush (41), 2) := by decide +kernel
theorem c_235_178 : cd 235 178 = some (.if_icmp .eq (21), 3) := by decide +kernel
theorem c_235_181 : cd 235 181 = some (.aload_n 0, 1) := by decide +kernel
theorem c_235_182 : cd 235 182 = some (.getfield 177, 3) := by decide +kernel
theorem c_235_185 : cd 235 185 = some (.bipush (60), 2) := by decide +kernel
theorem c_235_187 : cd 235 187 = some (.if_icmp .eq (12), 3) := by decide +kernel
theorem c_235_190 : cd 235 190 = some (.aload_n 0, 1) := by decide +kernel
theorem c_235_191 : cd 235 191 = some (.getfield 177, 3) := by decide +kernel
theorem c_235_194 : cd 235 194 = some (.bipush (62), 2) := by decide +kernel
theorem c_235_196 : cd 235 196 = some (.if_icmp .ne (7), 3) := by decide +kernel
theorem c_235_199 : cd 235 199 = some (.iconst (3), 1) := by decide +kernel
theorem c_235_200 : cd 235 200 = some (.goto (4), 3) := by decide +kernel
theorem c_235_203 : cd 235 203 = some (.iconst (4), 1) := by decide +kernel
theorem c_235_204 : cd 235 204 = some (.putfield 171, 3) := by decide +kernel
theorem c_235_207 : cd 235 207 = some (.aload_n 0, 1) := by decide +kernel
theorem c_235_208 : cd 235 208 = some (.dup, 1) := by decide +kernel
theorem c_235_209 : cd 235 209 = some (.getfield 165, 3) := by decide +kernel
theorem c_235_212 : cd 235 212 = some (.iconst (1), 1) := by decide +kernel
theorem c_235_213 : cd 235 213 = some (.iadd, 1) := by decide +kernel
theorem c_235_214 : cd 235 214 = some (.putfield 165, 3) := by decide +kernel
theorem c_235_217 : cd 235 217 = some (.aload_n 0, 1) := by decide +kernel
theorem c_235_218 : cd 235 218 = some (.iconst (-1), 1) := by decide +kernel
theorem c_235_219 : cd 235 219 = some (.putfield 183, 3) := by decide +kernel
theorem c_235_222 : cd 235 222 = some (.return_, 1) := by decide +kernel
def f_Mo_go_145 (y0 : Nat) (y1 : Int32) (σ : Mm) : Option Mm := nmM (up2 σ y0 16 y1) fun σ145 => some σ145
set_option maxRecDepth 100000 in
set_option maxHeartbeats 4000000 in
theorem t_Mo_go_145 {X : Xt} {S : Sh} (hS : ShOK S) {d : Nat} (hd : 2 ≤ d + 1) (y0 : Nat) (y1 : Int32) (u0 : Value) (u1 : Value) (σ : Mm) (h_y0 : tgT y0 = 12) : Rf X S emV (f_Mo_go_145 y0 y1 σ) (d + 1) 235 145 [u0, u1] [.int y1, .ref y0] σ := by
  unfold f_Mo_go_145
  refine rf_puti hS c_235_145 rfl fl_12_171 rfl rfl rfl rfl h_y0 ?_
  refine rf_nm (fun σ145 => ?_)
  exact rf_vret c_235_148 rfl rfl
def f_Mo_go_124 (x0 : Nat) (x1 : Int32) (σ : Mm) : Option Mm := nmM (up2 σ x0 18 (σ x0 14)) fun σ129 => (if x1 = 0 then (f_Mo_go_145  x0 (σ129 x0 16) σ129) else (f_Mo_go_145  x0 (4 : Int32) σ129))
set_option maxRecDepth 100000 in
set_option maxHeartbeats 4000000 in
theorem t_Mo_go_124 {X : Xt} {S : Sh} (hS : ShOK S) {d : Nat} (hd : 2 ≤ d + 1) (x0 : Nat) (x1 : Int32) (σ : Mm) (h_x0 : tgT x0 = 12) : Rf X S emV (f_Mo_go_124 x0 x1 σ) (d + 1) 235 124 [.ref x0, .int x1] [] σ := by
  unfold f_Mo_go_124
  refine rf_ald (i := 0) (Or.inr ⟨0, rfl, rfl, rfl⟩) c_235_124 rfl ?_
  refine rf_ald (i := 0) (Or.inr ⟨0, rfl, rfl, rfl⟩) c_235_125 rfl ?_
  refine rf_geti hS c_235_126 rfl fl_12_165 rfl h_x0 ?_
  refine rf_puti hS c_235_129 rfl fl_12_183 rfl rfl rfl rfl h_x0 ?_
  refine rf_nm (fun σ129 => ?_)
  refine rf_ald (i := 0) (Or.inr ⟨0, rfl, rfl, rfl⟩) c_235_132 rfl ?_
  refine rf_ild (i := 1) (Or.inr ⟨1, rfl, rfl, rfl⟩) c_235_133 rfl ?_
  refine rf_ite (fun hc134 => ?_) (fun hc134 => ?_)
  · refine rf_b1t c_235_134 rfl (decide_eq_true hc134) ?_
    refine rf_ald (i := 0) (Or.inr ⟨0, rfl, rfl, rfl⟩) c_235_141 rfl ?_
    refine rf_geti hS c_235_142 rfl fl_12_171 rfl h_x0 ?_
    exact t_Mo_go_145 hS hd  x0 (σ129 x0 16) (.ref x0) (.int x1) σ129 h_x0
  · refine rf_b1f c_235_134 rfl (decide_eq_false hc134) ?_
    refine rf_iconst c_235_137 ki_4 ?_
    refine rf_goto c_235_138 rfl ?_
    exact t_Mo_go_145 hS hd  x0 (4 : Int32) (.ref x0) (.int x1) σ129 h_x0
def f_Mo_go_102 (x0 : Nat) (x1 : Int32) (σ : Mm) : Option Mm := (f_Mo_isLetter σ x0 (σ x0 15)).bind fun v107 => (if v107 = 0 then ((f_Mo_readFigures x0 σ).bind fun v121 => f_Mo_go_124  x0 x1 v121) else ((f_Mo_readLetters x0 σ).bind fun v114 => f_Mo_go_124  x0 x1 v114))
set_option maxRecDepth 100000 in
set_option maxHeartbeats 4000000 in
theorem t_Mo_go_102 {X : Xt} {S : Sh} (hS : ShOK S) {d : Nat} (hd : 2 ≤ d + 1) (x0 : Nat) (x1 : Int32) (σ : Mm) (h_x0 : tgT x0 = 12) : Rf X S emV (f_Mo_go_102 x0 x1 σ) (d + 1) 235 102 [.ref x0, .int x1] [] σ := by
  unfold f_Mo_go_102
  refine rf_ald (i := 0) (Or.inr ⟨0, rfl, rfl, rfl⟩) c_235_102 rfl ?_
  refine rf_ald (i := 0) (Or.inr ⟨0, rfl, rfl, rfl⟩) c_235_103 rfl ?_
  refine rf_geti hS c_235_104 rfl fl_12_174 rfl h_x0 ?_
  refine rf_callI (as := [.ref x0, .int (σ x0 15)]) (kd := 1) c_235_107 rfl (by decide) rfl ml_12_168 (by decide) rfl (rcv_1 hS rfl rfl h_x0 (by decide)) (Nat.zero_le _) rfl rfl (t_Mo_isLetter hS (by omega) σ x0 (σ x0 15) h_x0) (fun v107 => ?_)
  refine rf_ite (fun hc110 => ?_) (fun hc110 => ?_)
  · refine rf_b1t c_235_110 rfl (decide_eq_true hc110) ?_
    refine rf_ald (i := 0) (Or.inr ⟨0, rfl, rfl, rfl⟩) c_235_120 rfl ?_
    refine rf_callV (as := [.ref x0]) (kd := 1) c_235_121 rfl (by decide) rfl ml_12_189 (by decide) rfl (rcv_1 hS rfl rfl h_x0 (by decide)) (Nat.zero_le _) rfl rfl (t_Mo_readFigures hS (by omega) x0 σ h_x0) (fun v121 => ?_)
    exact t_Mo_go_124 hS hd  x0 x1 v121 h_x0
  · refine rf_b1f c_235_110 rfl (decide_eq_false hc110) ?_
    refine rf_ald (i := 0) (Or.inr ⟨0, rfl, rfl, rfl⟩) c_235_113 rfl ?_
    refine rf_callV (as := [.ref x0]) (kd := 1) c_235_114 rfl (by decide) rfl ml_12_186 (by decide) rfl (rcv_1 hS rfl rfl h_x0 (by decide)) (Nat.zero_le _) rfl rfl (t_Mo_readLetters hS (by omega) x0 σ h_x0) (fun v114 => ?_)
    refine rf_goto c_235_117 rfl ?_
    exact t_Mo_go_124 hS hd  x0 x1 v114 h_x0
def f_Mo_go_204 (x0 : Nat) (y0 : Nat) (y1 : Int32) (σ : Mm) : Option Mm := nmM (up2 σ y0 16 y1) fun σ204 => nmM (up2 σ204 x0 14 ((σ204 x0 14) + (1 : Int32))) fun σ214 => nmM (up2 σ214 x0 18 (-1 : Int32)) fun σ219 => some σ219
set_option maxRecDepth 100000 in
set_option maxHeartbeats 4000000 in
theorem t_Mo_go_204 {X : Xt} {S : Sh} (hS : ShOK S) {d : Nat} (hd : 2 ≤ d + 1) (x0 : Nat) (y0 : Nat) (y1 : Int32) (u1 : Value) (σ : Mm) (h_x0 : tgT x0 = 12) (h_y0 : tgT y0 = 12) : Rf X S emV (f_Mo_go_204 x0 y0 y1 σ) (d + 1) 235 204 [.ref x0, u1] [.int y1, .ref y0] σ := by
  unfold f_Mo_go_204
  refine rf_puti hS c_235_204 rfl fl_12_171 rfl rfl rfl rfl h_y0 ?_
  refine rf_nm (fun σ204 => ?_)
  refine rf_ald (i := 0) (Or.inr ⟨0, rfl, rfl, rfl⟩) c_235_207 rfl ?_
  refine rf_dup c_235_208 rfl ?_
  refine rf_geti hS c_235_209 rfl fl_12_165 rfl h_x0 ?_
  refine rf_iconst c_235_212 ki_1 ?_
  refine rf_iadd c_235_213 ?_
  refine rf_puti hS c_235_214 rfl fl_12_165 rfl rfl rfl rfl h_x0 ?_
  refine rf_nm (fun σ214 => ?_)
  refine rf_ald (i := 0) (Or.inr ⟨0, rfl, rfl, rfl⟩) c_235_217 rfl ?_
  refine rf_iconst c_235_218 ki_m1 ?_
  refine rf_puti hS c_235_219 rfl fl_12_183 rfl rfl rfl rfl h_x0 ?_
  refine rf_nm (fun σ219 => ?_)
  exact rf_vret c_235_222 rfl rfl
def f_Mo_go_199 (x0 : Nat) (y0 : Nat) (σ : Mm) : Option Mm := f_Mo_go_204  x0 y0 (3 : Int32) σ
set_option maxRecDepth 100000 in
set_option maxHeartbeats 4000000 in
theorem t_Mo_go_199 {X : Xt} {S : Sh} (hS : ShOK S) {d : Nat} (hd : 2 ≤ d + 1) (x0 : Nat) (y0 : Nat) (u1 : Value) (σ : Mm) (h_x0 : tgT x0 = 12) (h_y0 : tgT y0 = 12) : Rf X S emV (f_Mo_go_199 x0 y0 σ) (d + 1) 235 199 [.ref x0, u1] [.ref y0] σ := by
  unfold f_Mo_go_199
  refine rf_iconst c_235_199 ki_3 ?_
  refine rf_goto c_235_200 rfl ?_
  exact t_Mo_go_204 hS hd  x0 y0 (3 : Int32) (u1) σ h_x0 h_y0
def f_Mo_go_62 (x0 : Nat) (y0 : Int32) (σ : Mm) : Option Mm := (if ¬ (σ x0 15) = (σ x0 13) then ((f_Mo_isLetter σ x0 (σ x0 15)).bind fun v85 => (if ¬ v85 = 0 then (f_Mo_go_102  x0 y0 σ) else ((f_Mo_isFigure σ x0 (σ x0 15)).bind fun v96 => (if v96 = 0 then (if inbB (σ x0 15) 96 = true then nmM (up2 σ x0 17 (σ (rfT x0 9) (ix (σ x0 15)))) fun σ159 => (if (σ159 x0 17) = (40 : Int32) then (f_Mo_go_199  x0 x0 σ159) else (if (σ159 x0 17) = (41 : Int32) then (f_Mo_go_199  x0 x0 σ159) else (if (σ159 x0 17) = (60 : Int32) then (f_Mo_go_199  x0 x0 σ159) else (if ¬ (σ159 x0 17) = (62 : Int32) then (f_Mo_go_204  x0 x0 (4 : Int32) σ159) else (f_Mo_go_199  x0 x0 σ159))))) else none) else (f_Mo_go_102  x0 y0 σ))))) else (nmM (up2 σ x0 16 (0 : Int32)) fun σ76 => some σ76))
set_option maxRecDepth 100000 in
set_option maxHeartbeats 4000000 in
theorem t_Mo_go_62 {X : Xt} {S : Sh} (hS : ShOK S) {d : Nat} (hd : 2 ≤ d + 1) (x0 : Nat) (y0 : Int32) (u1 : Value) (σ : Mm) (h_x0 : tgT x0 = 12) : Rf X S emV (f_Mo_go_62 x0 y0 σ) (d + 1) 235 62 [.ref x0, u1] [.int y0] σ := by
  unfold f_Mo_go_62
  refine rf_ist (i := 1) (Or.inr ⟨1, rfl, rfl, rfl⟩) c_235_62 (Nat.le_of_ble_eq_true rfl) rfl ?_
  refine rf_ald (i := 0) (Or.inr ⟨0, rfl, rfl, rfl⟩) c_235_63 rfl ?_
  refine rf_geti hS c_235_64 rfl fl_12_174 rfl h_x0 ?_
  refine rf_ald (i := 0) (Or.inr ⟨0, rfl, rfl, rfl⟩) c_235_67 rfl ?_
  refine rf_geti hS c_235_68 rfl fl_12_162 rfl h_x0 ?_
  refine rf_ite (fun hc71 => ?_) (fun hc71 => ?_)
  · refine rf_b2t c_235_71 rfl (decide_eq_true hc71) ?_
    refine rf_ald (i := 0) (Or.inr ⟨0, rfl, rfl, rfl⟩) c_235_80 rfl ?_
    refine rf_ald (i := 0) (Or.inr ⟨0, rfl, rfl, rfl⟩) c_235_81 rfl ?_
    refine rf_geti hS c_235_82 rfl fl_12_174 rfl h_x0 ?_
    refine rf_callI (as := [.ref x0, .int (σ x0 15)]) (kd := 1) c_235_85 rfl (by decide) rfl ml_12_168 (by decide) rfl (rcv_1 hS rfl rfl h_x0 (by decide)) (Nat.zero_le _) rfl rfl (t_Mo_isLetter hS (by omega) σ x0 (σ x0 15) h_x0) (fun v85 => ?_)
    refine rf_ite (fun hc88 => ?_) (fun hc88 => ?_)
    · refine rf_b1t c_235_88 rfl (decide_eq_true hc88) ?_
      exact t_Mo_go_102 hS hd  x0 y0 σ h_x0
    · refine rf_b1f c_235_88 rfl (decide_eq_false hc88) ?_
      refine rf_ald (i := 0) (Or.inr ⟨0, rfl, rfl, rfl⟩) c_235_91 rfl ?_
      refine rf_ald (i := 0) (Or.inr ⟨0, rfl, rfl, rfl⟩) c_235_92 rfl ?_
      refine rf_geti hS c_235_93 rfl fl_12_174 rfl h_x0 ?_
      refine rf_callI (as := [.ref x0, .int (σ x0 15)]) (kd := 1) c_235_96 rfl (by decide) rfl ml_12_180 (by decide) rfl (rcv_1 hS rfl rfl h_x0 (by decide)) (Nat.zero_le _) rfl rfl (t_Mo_isFigure hS (by omega) σ x0 (σ x0 15) h_x0) (fun v96 => ?_)
      refine rf_ite (fun hc99 => ?_) (fun hc99 => ?_)
      · refine rf_b1t c_235_99 rfl (decide_eq_true hc99) ?_
        refine rf_ald (i := 0) (Or.inr ⟨0, rfl, rfl, rfl⟩) c_235_149 rfl ?_
        refine rf_ald (i := 0) (Or.inr ⟨0, rfl, rfl, rfl⟩) c_235_150 rfl ?_
        refine rf_getr hS c_235_151 rfl fl_12_28 rfl h_x0 ?_
        refine rf_ald (i := 0) (Or.inr ⟨0, rfl, rfl, rfl⟩) c_235_154 rfl ?_
        refine rf_geti hS c_235_155 rfl fl_12_174 rfl h_x0 ?_
        refine rf_ite (fun hb158 => ?_) (fun _ => rf_none)
        refine rf_iald hS c_235_158 (tf_12_9 h_x0) (lf_12_9 h_x0) hb158 ?_
        refine rf_puti hS c_235_159 rfl fl_12_177 rfl rfl rfl rfl h_x0 ?_
        refine rf_nm (fun σ159 => ?_)
        refine rf_ald (i := 0) (Or.inr ⟨0, rfl, rfl, rfl⟩) c_235_162 rfl ?_
        refine rf_ald (i := 0) (Or.inr ⟨0, rfl, rfl, rfl⟩) c_235_163 rfl ?_
        refine rf_geti hS c_235_164 rfl fl_12_177 rfl h_x0 ?_
        refine rf_bipush c_235_167 kb_40 ?_
        refine rf_ite (fun hc169 => ?_) (fun hc169 => ?_)
        · refine rf_b2t c_235_169 rfl (decide_eq_true hc169) ?_
          exact t_Mo_go_199 hS hd  x0 x0 (.int y0) σ159 h_x0 h_x0
        · refine rf_b2f c_235_169 rfl (decide_eq_false hc169) ?_
          refine rf_ald (i := 0) (Or.inr ⟨0, rfl, rfl, rfl⟩) c_235_172 rfl ?_
          refine rf_geti hS c_235_173 rfl fl_12_177 rfl h_x0 ?_
          refine rf_bipush c_235_176 kb_41 ?_
          refine rf_ite (fun hc178 => ?_) (fun hc178 => ?_)
          · refine rf_b2t c_235_178 rfl (decide_eq_true hc178) ?_
            exact t_Mo_go_199 hS hd  x0 x0 (.int y0) σ159 h_x0 h_x0
          · refine rf_b2f c_235_178 rfl (decide_eq_false hc178) ?_
            refine rf_ald (i := 0) (Or.inr ⟨0, rfl, rfl, rfl⟩) c_235_181 rfl ?_
            refine rf_geti hS c_235_182 rfl fl_12_177 rfl h_x0 ?_
            refine rf_bipush c_235_185 kb_60 ?_
            refine rf_ite (fun hc187 => ?_) (fun hc187 => ?_)
            · refine rf_b2t c_235_187 rfl (decide_eq_true hc187) ?_
              exact t_Mo_go_199 hS hd  x0 x0 (.int y0) σ159 h_x0 h_x0
            · refine rf_b2f c_235_187 rfl (decide_eq_false hc187) ?_
              refine rf_ald (i := 0) (Or.inr ⟨0, rfl, rfl, rfl⟩) c_235_190 rfl ?_
              refine rf_geti hS c_235_191 rfl fl_12_177 rfl h_x0 ?_
              refine rf_bipush c_235_194 kb_62 ?_
              refine rf_ite (fun hc196 => ?_) (fun hc196 => ?_)
              · refine rf_b2t c_235_196 rfl (decide_eq_true hc196) ?_
                refine rf_iconst c_235_203 ki_4 ?_
                exact t_Mo_go_204 hS hd  x0 x0 (4 : Int32) (.int y0) σ159 h_x0 h_x0
              · refine rf_b2f c_235_196 rfl (decide_eq_false hc196) ?_
                exact t_Mo_go_199 hS hd  x0 x0 (.int y0) σ159 h_x0 h_x0
      · refine rf_b1f c_235_99 rfl (decide_eq_false hc99) ?_
        exact t_Mo_go_102 hS hd  x0 y0 σ h_x0
  · refine rf_b2f c_235_71 rfl (decide_eq_false hc71) ?_
    refine rf_ald (i := 0) (Or.inr ⟨0, rfl, rfl, rfl⟩) c_235_74 rfl ?_
    refine rf_iconst c_235_75 ki_0 ?_
    refine rf_puti hS c_235_76 rfl fl_12_171 rfl rfl rfl rfl h_x0 ?_
    refine rf_nm (fun σ76 => ?_)
    exact rf_vret c_235_79 rfl rfl
def f_Mo_go_38 (x0 : Nat) (σ : Mm) : Option Mm := nmM (up2 σ x0 15 (σ x0 14)) fun σ43 => (if ¬ (σ43 x0 15) = (σ43 x0 18) then (f_Mo_go_62  x0 (0 : Int32) σ43) else (f_Mo_go_62  x0 (1 : Int32) σ43))
set_option maxRecDepth 100000 in
set_option maxHeartbeats 4000000 in
theorem t_Mo_go_38 {X : Xt} {S : Sh} (hS : ShOK S) {d : Nat} (hd : 2 ≤ d + 1) (x0 : Nat) (u1 : Value) (σ : Mm) (h_x0 : tgT x0 = 12) : Rf X S emV (f_Mo_go_38 x0 σ) (d + 1) 235 38 [.ref x0, u1] [] σ := by
  unfold f_Mo_go_38
  refine rf_ald (i := 0) (Or.inr ⟨0, rfl, rfl, rfl⟩) c_235_38 rfl ?_
  refine rf_ald (i := 0) (Or.inr ⟨0, rfl, rfl, rfl⟩) c_235_39 rfl ?_
  refine rf_geti hS c_235_40 rfl fl_12_165 rfl h_x0 ?_
  refine rf_puti hS c_235_43 rfl fl_12_174 rfl rfl rfl rfl h_x0 ?_
  refine rf_nm (fun σ43 => ?_)
  refine rf_ald (i := 0) (Or.inr ⟨0, rfl, rfl, rfl⟩) c_235_46 rfl ?_
  refine rf_geti hS c_235_47 rfl fl_12_174 rfl h_x0 ?_
  refine rf_ald (i := 0) (Or.inr ⟨0, rfl, rfl, rfl⟩) c_235_50 rfl ?_
  refine rf_geti hS c_235_51 rfl fl_12_183 rfl h_x0 ?_
  refine rf_ite (fun hc54 => ?_) (fun hc54 => ?_)
  · refine rf_b2t c_235_54 rfl (decide_eq_true hc54) ?_
    refine rf_iconst c_235_61 ki_0 ?_
    exact t_Mo_go_62 hS hd  x0 (0 : Int32) (u1) σ43 h_x0
  · refine rf_b2f c_235_54 rfl (decide_eq_false hc54) ?_
    refine rf_iconst c_235_57 ki_1 ?_
    refine rf_goto c_235_58 rfl ?_
    exact t_Mo_go_62 hS hd  x0 (1 : Int32) (u1) σ43 h_x0
def f_Mo_go_0 : Nat → Nat → Mm → Option Mm
  | 0, _, _ => none
  | n + 1, x0, σ => (if (σ x0 13) ≤ (σ x0 14) then (f_Mo_go_38  x0 σ) else (if inbB (σ x0 14) 96 = true then (if ¬ (σ (rfT x0 9) (ix (σ x0 14))) = (32 : Int32) then (f_Mo_go_38  x0 σ) else (nmM (up2 σ x0 14 ((σ x0 14) + (1 : Int32))) fun σ32 => f_Mo_go_0  n x0 σ32)) else none))
set_option maxRecDepth 100000 in
set_option maxHeartbeats 4000000 in
theorem t_Mo_go_0 {X : Xt} {S : Sh} (hS : ShOK S) {d : Nat} (hd : 2 ≤ d + 1) : ∀ (n : Nat) (x0 : Nat) (u1 : Value) (σ : Mm) (h_x0 : tgT x0 = 12), Rf X S emV (f_Mo_go_0 n x0 σ) (d + 1) 235 0 [.ref x0, u1] [] σ := by
  intro n
  induction n with
  | zero => intro x0 u1 σ h_x0; exact rf_none
  | succ n ih =>
    intro x0 u1 σ h_x0
    rw [f_Mo_go_0]
    refine rf_ald (i := 0) (Or.inr ⟨0, rfl, rfl, rfl⟩) c_235_0 rfl ?_
    refine rf_geti hS c_235_1 rfl fl_12_165 rfl h_x0 ?_
    refine rf_ald (i := 0) (Or.inr ⟨0, rfl, rfl, rfl⟩) c_235_4 rfl ?_
    refine rf_geti hS c_235_5 rfl fl_12_162 rfl h_x0 ?_
    refine rf_ite (fun hc8 => ?_) (fun hc8 => ?_)
    · refine rf_b2t c_235_8 rfl (decide_eq_true hc8) ?_
      exact t_Mo_go_38 hS hd  x0 (u1) σ h_x0
    · refine rf_b2f c_235_8 rfl (decide_eq_false hc8) ?_
      refine rf_ald (i := 0) (Or.inr ⟨0, rfl, rfl, rfl⟩) c_235_11 rfl ?_
      refine rf_getr hS c_235_12 rfl fl_12_28 rfl h_x0 ?_
      refine rf_ald (i := 0) (Or.inr ⟨0, rfl, rfl, rfl⟩) c_235_15 rfl ?_
      refine rf_geti hS c_235_16 rfl fl_12_165 rfl h_x0 ?_
      refine rf_ite (fun hb19 => ?_) (fun _ => rf_none)
      refine rf_iald hS c_235_19 (tf_12_9 h_x0) (lf_12_9 h_x0) hb19 ?_
      refine rf_bipush c_235_20 kb_32 ?_
      refine rf_ite (fun hc22 => ?_) (fun hc22 => ?_)
      · refine rf_b2t c_235_22 rfl (decide_eq_true hc22) ?_
        exact t_Mo_go_38 hS hd  x0 (u1) σ h_x0
      · refine rf_b2f c_235_22 rfl (decide_eq_false hc22) ?_
        refine rf_ald (i := 0) (Or.inr ⟨0, rfl, rfl, rfl⟩) c_235_25 rfl ?_
        refine rf_dup c_235_26 rfl ?_
        refine rf_geti hS c_235_27 rfl fl_12_165 rfl h_x0 ?_
        refine rf_iconst c_235_30 ki_1 ?_
        refine rf_iadd c_235_31 ?_
        refine rf_puti hS c_235_32 rfl fl_12_165 rfl rfl rfl rfl h_x0 ?_
        refine rf_nm (fun σ32 => ?_)
        refine rf_goto c_235_35 rfl ?_
        exact ih x0 (u1) σ32 h_x0
def f_Mo_go (x0 : Nat) (σ : Mm) : Option (Mm) := f_Mo_go_0  NN x0 σ
theorem t_Mo_go {X : Xt} {S : Sh} (hS : ShOK S) {d : Nat} (hd : 2 ≤ d) (x0 : Nat) (σ : Mm) (h_x0 : tgT x0 = 12) : Rf X S emV (f_Mo_go x0 σ) d 235 0 [.ref x0, unset0] [] σ := by
  obtain ⟨d1, rfl⟩ : ∃ d1, d = d1 + 1 := ⟨d - 1, by omega⟩
  exact t_Mo_go_0 hS hd  NN x0 (unset0) σ h_x0
theorem c_236_0 : cd 236 0 = some (.aload_n 0, 1) := by decide +kernel
theorem c_236_1 : cd 236 1 = some (.getfield 171, 3) := by decide +kernel
theorem c_236_4 : cd 236 4 = some (.iconst (1), 1) := by decide +kernel
theorem c_236_5 : cd 236 5 = some (.if_icmp .ne (15), 3) := by decide +kernel
theorem c_236_8 : cd 236 8 = some (.aload_n 0, 1) := by decide +kernel
theorem c_236_9 : cd 236 9 = some (.getfield 177, 3) := by decide +kernel
theorem c_236_12 : cd 236 12 = some (.iload_n 1, 1) := by decide +kernel
theorem c_236_13 : cd 236 13 = some (.if_icmp .ne (7), 3) := by decide +kernel
theorem c_236_16 : cd 236 16 = some (.iconst (1), 1) := by decide +kernel
theorem c_236_17 : cd 236 17 = some (.goto (4), 3) := by decide +kernel
theorem c_236_20 : cd 236 20 = some (.iconst (0), 1) := by decide +kernel
theorem c_236_21 : cd 236 21 = some (.ireturn, 1) := by decide +kernel
def f_Mo_isWord_21 (σ : Mm) (y0 : Int32) : Option Int32 := if zB y0 = true then some y0 else none
set_option maxRecDepth 100000 in
set_option maxHeartbeats 4000000 in
theorem t_Mo_isWord_21 {X : Xt} {S : Sh} (hS : ShOK S) {d : Nat} (hd : 0 ≤ d) (σ : Mm) (y0 : Int32) (u0 : Value) (u1 : Value) : Rf X S (emI σ) (f_Mo_isWord_21 σ y0) d 236 21 [u0, u1] [.int y0] σ := by
  unfold f_Mo_isWord_21
  refine rf_ite (fun hq21 => ?_) (fun _ => rf_none)
  exact rf_ret c_236_21 rfl (zB_n hq21) rfl rfl
def f_Mo_isWord_20 (σ : Mm) : Option Int32 := f_Mo_isWord_21 σ (0 : Int32)
set_option maxRecDepth 100000 in
set_option maxHeartbeats 4000000 in
theorem t_Mo_isWord_20 {X : Xt} {S : Sh} (hS : ShOK S) {d : Nat} (hd : 0 ≤ d) (σ : Mm) (u0 : Value) (u1 : Value) : Rf X S (emI σ) (f_Mo_isWord_20 σ) d 236 20 [u0, u1] [] σ := by
  unfold f_Mo_isWord_20
  refine rf_iconst c_236_20 ki_0 ?_
  exact t_Mo_isWord_21 hS hd σ  (0 : Int32) (u0) (u1)
def f_Mo_isWord (σ : Mm) (x0 : Nat) (x1 : Int32) : Option Int32 := (if ¬ (σ x0 16) = (1 : Int32) then (f_Mo_isWord_20 σ ) else (if ¬ (σ x0 17) = x1 then (f_Mo_isWord_20 σ ) else (f_Mo_isWord_21 σ (1 : Int32))))
set_option maxRecDepth 100000 in
set_option maxHeartbeats 4000000 in
theorem t_Mo_isWord {X : Xt} {S : Sh} (hS : ShOK S) {d : Nat} (hd : 0 ≤ d) (σ : Mm) (x0 : Nat) (x1 : Int32) (h_x0 : tgT x0 = 12) : Rf X S (emI σ) (f_Mo_isWord σ x0 x1) d 236 0 [.ref x0, .int x1] [] σ := by
  unfold f_Mo_isWord
  refine rf_ald (i := 0) (Or.inr ⟨0, rfl, rfl, rfl⟩) c_236_0 rfl ?_
  refine rf_geti hS c_236_1 rfl fl_12_171 rfl h_x0 ?_
  refine rf_iconst c_236_4 ki_1 ?_
  refine rf_ite (fun hc5 => ?_) (fun hc5 => ?_)
  · refine rf_b2t c_236_5 rfl (decide_eq_true hc5) ?_
    exact t_Mo_isWord_20 hS hd σ  (.ref x0) (.int x1)
  · refine rf_b2f c_236_5 rfl (decide_eq_false hc5) ?_
    refine rf_ald (i := 0) (Or.inr ⟨0, rfl, rfl, rfl⟩) c_236_8 rfl ?_
    refine rf_geti hS c_236_9 rfl fl_12_177 rfl h_x0 ?_
    refine rf_ild (i := 1) (Or.inr ⟨1, rfl, rfl, rfl⟩) c_236_12 rfl ?_
    refine rf_ite (fun hc13 => ?_) (fun hc13 => ?_)
    · refine rf_b2t c_236_13 rfl (decide_eq_true hc13) ?_
      exact t_Mo_isWord_20 hS hd σ  (.ref x0) (.int x1)
    · refine rf_b2f c_236_13 rfl (decide_eq_false hc13) ?_
      refine rf_iconst c_236_16 ki_1 ?_
      refine rf_goto c_236_17 rfl ?_
      exact t_Mo_isWord_21 hS hd σ  (1 : Int32) (.ref x0) (.int x1)
theorem c_237_0 : cd 237 0 = some (.aload_n 0, 1) := by decide +kernel
theorem c_237_1 : cd 237 1 = some (.getfield 171, 3) := by decide +kernel
theorem c_237_4 : cd 237 4 = some (.iconst (3), 1) := by decide +kernel
theorem c_237_5 : cd 237 5 = some (.if_icmp .ne (15), 3) := by decide +kernel
theorem c_237_8 : cd 237 8 = some (.aload_n 0, 1) := by decide +kernel
theorem c_237_9 : cd 237 9 = some (.getfield 177, 3) := by decide +kernel
theorem c_237_12 : cd 237 12 = some (.iload_n 1, 1) := by decide +kernel
theorem c_237_13 : cd 237 13 = some (.if_icmp .ne (7), 3) := by decide +kernel
theorem c_237_16 : cd 237 16 = some (.iconst (1), 1) := by decide +kernel
theorem c_237_17 : cd 237 17 = some (.goto (4), 3) := by decide +kernel
theorem c_237_20 : cd 237 20 = some (.iconst (0), 1) := by decide +kernel
theorem c_237_21 : cd 237 21 = some (.ireturn, 1) := by decide +kernel
def f_Mo_isSign_21 (σ : Mm) (y0 : Int32) : Option Int32 := if zB y0 = true then some y0 else none
set_option maxRecDepth 100000 in
set_option maxHeartbeats 4000000 in
theorem t_Mo_isSign_21 {X : Xt} {S : Sh} (hS : ShOK S) {d : Nat} (hd : 0 ≤ d) (σ : Mm) (y0 : Int32) (u0 : Value) (u1 : Value) : Rf X S (emI σ) (f_Mo_isSign_21 σ y0) d 237 21 [u0, u1] [.int y0] σ := by
  unfold f_Mo_isSign_21
  refine rf_ite (fun hq21 => ?_) (fun _ => rf_none)
  exact rf_ret c_237_21 rfl (zB_n hq21) rfl rfl
def f_Mo_isSign_20 (σ : Mm) : Option Int32 := f_Mo_isSign_21 σ (0 : Int32)
set_option maxRecDepth 100000 in
set_option maxHeartbeats 4000000 in
theorem t_Mo_isSign_20 {X : Xt} {S : Sh} (hS : ShOK S) {d : Nat} (hd : 0 ≤ d) (σ : Mm) (u0 : Value) (u1 : Value) : Rf X S (emI σ) (f_Mo_isSign_20 σ) d 237 20 [u0, u1] [] σ := by
  unfold f_Mo_isSign_20
  refine rf_iconst c_237_20 ki_0 ?_
  exact t_Mo_isSign_21 hS hd σ  (0 : Int32) (u0) (u1)
def f_Mo_isSign (σ : Mm) (x0 : Nat) (x1 : Int32) : Option Int32 := (if ¬ (σ x0 16) = (3 : Int32) then (f_Mo_isSign_20 σ ) else (if ¬ (σ x0 17) = x1 then (f_Mo_isSign_20 σ ) else (f_Mo_isSign_21 σ (1 : Int32))))
set_option maxRecDepth 100000 in
set_option maxHeartbeats 4000000 in
theorem t_Mo_isSign {X : Xt} {S : Sh} (hS : ShOK S) {d : Nat} (hd : 0 ≤ d) (σ : Mm) (x0 : Nat) (x1 : Int32) (h_x0 : tgT x0 = 12) : Rf X S (emI σ) (f_Mo_isSign σ x0 x1) d 237 0 [.ref x0, .int x1] [] σ := by
  unfold f_Mo_isSign
  refine rf_ald (i := 0) (Or.inr ⟨0, rfl, rfl, rfl⟩) c_237_0 rfl ?_
  refine rf_geti hS c_237_1 rfl fl_12_171 rfl h_x0 ?_
  refine rf_iconst c_237_4 ki_3 ?_
  refine rf_ite (fun hc5 => ?_) (fun hc5 => ?_)
  · refine rf_b2t c_237_5 rfl (decide_eq_true hc5) ?_
    exact t_Mo_isSign_20 hS hd σ  (.ref x0) (.int x1)
  · refine rf_b2f c_237_5 rfl (decide_eq_false hc5) ?_
    refine rf_ald (i := 0) (Or.inr ⟨0, rfl, rfl, rfl⟩) c_237_8 rfl ?_
    refine rf_geti hS c_237_9 rfl fl_12_177 rfl h_x0 ?_
    refine rf_ild (i := 1) (Or.inr ⟨1, rfl, rfl, rfl⟩) c_237_12 rfl ?_
    refine rf_ite (fun hc13 => ?_) (fun hc13 => ?_)
    · refine rf_b2t c_237_13 rfl (decide_eq_true hc13) ?_
      exact t_Mo_isSign_20 hS hd σ  (.ref x0) (.int x1)
    · refine rf_b2f c_237_13 rfl (decide_eq_false hc13) ?_
      refine rf_iconst c_237_16 ki_1 ?_
      refine rf_goto c_237_17 rfl ?_
      exact t_Mo_isSign_21 hS hd σ  (1 : Int32) (.ref x0) (.int x1)
theorem c_238_0 : cd 238 0 = some (.aload_n 0, 1) := by decide +kernel
theorem c_238_1 : cd 238 1 = some (.getfield 171, 3) := by decide +kernel
theorem c_238_4 : cd 238 4 = some (.iconst (2), 1) := by decide +kernel
theorem c_238_5 : cd 238 5 = some (.if_icmp .eq (5), 3) := by decide +kernel
theorem c_238_8 : cd 238 8 = some (.iconst (0), 1) := by decide +kernel
theorem c_238_9 : cd 238 9 = some (.ireturn, 1) := by decide +kernel
theorem c_238_10 : cd 238 10 = some (.aload_n 0, 1) := by decide +kernel
theorem c_238_11 : cd 238 11 = some (.aload_n 0, 1) := by decide +kernel
theorem c_238_12 : cd 238 12 = some (.getfield 177, 3) := by decide +kernel
theorem c_238_15 : cd 238 15 = some (.putfield 192, 3) := by decide +kernel
theorem c_238_18 : cd 238 18 = some (.aload_n 0, 1) := by decide +kernel
theorem c_238_19 : cd 238 19 = some (.invokevirtual 195, 3) := by decide +kernel
theorem c_238_22 : cd 238 22 = some (.iconst (1), 1) := by decide +kernel
theorem c_238_23 : cd 238 23 = some (.ireturn, 1) := by decide +kernel
def f_Mo_takesNumber (x0 : Nat) (σ : Mm) : Option (Int32 × Mm) := (if (σ x0 16) = (2 : Int32) then (nmM (up2 σ x0 29 (σ x0 17)) fun σ15 => (f_Mo_go x0 σ15).bind fun v19 => some ((1 : Int32), v19)) else (some ((0 : Int32), σ)))
set_option maxRecDepth 100000 in
set_option maxHeartbeats 4000000 in
theorem t_Mo_takesNumber_e {X : Xt} {S : Sh} (hS : ShOK S) {d : Nat} (hd : 3 ≤ d + 1) (x0 : Nat) (σ : Mm) (h_x0 : tgT x0 = 12) : Rf X S emM (f_Mo_takesNumber x0 σ) (d + 1) 238 0 [.ref x0] [] σ := by
  unfold f_Mo_takesNumber
  refine rf_ald (i := 0) (Or.inr ⟨0, rfl, rfl, rfl⟩) c_238_0 rfl ?_
  refine rf_geti hS c_238_1 rfl fl_12_171 rfl h_x0 ?_
  refine rf_iconst c_238_4 ki_2 ?_
  refine rf_ite (fun hc5 => ?_) (fun hc5 => ?_)
  · refine rf_b2t c_238_5 rfl (decide_eq_true hc5) ?_
    refine rf_ald (i := 0) (Or.inr ⟨0, rfl, rfl, rfl⟩) c_238_10 rfl ?_
    refine rf_ald (i := 0) (Or.inr ⟨0, rfl, rfl, rfl⟩) c_238_11 rfl ?_
    refine rf_geti hS c_238_12 rfl fl_12_177 rfl h_x0 ?_
    refine rf_puti hS c_238_15 rfl fl_12_192 rfl rfl rfl rfl h_x0 ?_
    refine rf_nm (fun σ15 => ?_)
    refine rf_ald (i := 0) (Or.inr ⟨0, rfl, rfl, rfl⟩) c_238_18 rfl ?_
    refine rf_callV (as := [.ref x0]) (kd := 1) c_238_19 rfl (by decide) rfl ml_12_195 (by decide) rfl (rcv_1 hS rfl rfl h_x0 (by decide)) (Nat.zero_le _) rfl rfl (t_Mo_go hS (by omega) x0 σ15 h_x0) (fun v19 => ?_)
    refine rf_iconst c_238_22 ki_1 ?_
    exact rf_ret c_238_23 rfl (by decide) rfl rfl
  · refine rf_b2f c_238_5 rfl (decide_eq_false hc5) ?_
    refine rf_iconst c_238_8 ki_0 ?_
    exact rf_ret c_238_9 rfl (by decide) rfl rfl
theorem t_Mo_takesNumber {X : Xt} {S : Sh} (hS : ShOK S) {d : Nat} (hd : 3 ≤ d) (x0 : Nat) (σ : Mm) (h_x0 : tgT x0 = 12) : Rf X S emM (f_Mo_takesNumber x0 σ) d 238 0 [.ref x0] [] σ := by
  obtain ⟨d1, rfl⟩ : ∃ d1, d = d1 + 1 := ⟨d - 1, by omega⟩
  exact t_Mo_takesNumber_e hS hd x0 σ h_x0
theorem c_239_0 : cd 239 0 = some (.aload_n 0, 1) := by decide +kernel
theorem c_239_1 : cd 239 1 = some (.getfield 38, 3) := by decide +kernel
theorem c_239_4 : cd 239 4 = some (.aload_n 0, 1) := by decide +kernel
theorem c_239_5 : cd 239 5 = some (.getfield 198, 3) := by decide +kernel
theorem c_239_8 : cd 239 8 = some (.iconst (3), 1) := by decide +kernel
theorem c_239_9 : cd 239 9 = some (.aload_n 0, 1) := by decide +kernel
theorem c_239_10 : cd 239 10 = some (.getfield 201, 3) := by decide +kernel
theorem c_239_13 : cd 239 13 = some (.imul, 1) := by decide +kernel
theorem c_239_14 : cd 239 14 = some (.iadd, 1) := by decide +kernel
theorem c_239_15 : cd 239 15 = some (.iload_n 1, 1) := by decide +kernel
theorem c_239_16 : cd 239 16 = some (.iastore, 1) := by decide +kernel
theorem c_239_17 : cd 239 17 = some (.aload_n 0, 1) := by decide +kernel
theorem c_239_18 : cd 239 18 = some (.getfield 38, 3) := by decide +kernel
theorem c_239_21 : cd 239 21 = some (.aload_n 0, 1) := by decide +kernel
theorem c_239_22 : cd 239 22 = some (.getfield 198, 3) := by decide +kernel
theorem c_239_25 : cd 239 25 = some (.iconst (3), 1) := by decide +kernel
theorem c_239_26 : cd 239 26 = some (.aload_n 0, 1) := by decide +kernel
theorem c_239_27 : cd 239 27 = some (.getfield 201, 3) := by decide +kernel
theorem c_239_30 : cd 239 30 = some (.imul, 1) := by decide +kernel
theorem c_239_31 : cd 239 31 = some (.iadd, 1) := by decide +kernel
theorem c_239_32 : cd 239 32 = some (.iconst (1), 1) := by decide +kernel
theorem c_239_33 : cd 239 33 = some (.iadd, 1) := by decide +kernel
theorem c_239_34 : cd 239 34 = some (.iload_n 2, 1) := by decide +kernel
theorem c_239_35 : cd 239 35 = some (.iastore, 1) := by decide +kernel
theorem c_239_36 : cd 239 36 = some (.aload_n 0, 1) := by decide +kernel
theorem c_239_37 : cd 239 37 = some (.getfield 38, 3) := by decide +kernel
theorem c_239_40 : cd 239 40 = some (.aload_n 0, 1) := by decide +kernel
theorem c_239_41 : cd 239 41 = some (.getfield 198, 3) := by decide +kernel
theorem c_239_44 : cd 239 44 = some (.iconst (3), 1) := by decide +kernel
theorem c_239_45 : cd 239 45 = some (.aload_n 0, 1) := by decide +kernel
theorem c_239_46 : cd 239 46 = some (.getfield 201, 3) := by decide +kernel
theorem c_239_49 : cd 239 49 = some (.imul, 1) := by decide +kernel
theorem c_239_50 : cd 239 50 = some (.iadd, 1) := by decide +kernel
theorem c_239_51 : cd 239 51 = some (.iconst (2), 1) := by decide +kernel
theorem c_239_52 : cd 239 52 = some (.iadd, 1) := by decide +kernel
theorem c_239_53 : cd 239 53 = some (.iload_n 3, 1) := by decide +kernel
theorem c_239_54 : cd 239 54 = some (.iastore, 1) := by decide +kernel
theorem c_239_55 : cd 239 55 = some (.aload_n 0, 1) := by decide +kernel
theorem c_239_56 : cd 239 56 = some (.dup, 1) := by decide +kernel
theorem c_239_57 : cd 239 57 = some (.getfield 201, 3) := by decide +kernel
theorem c_239_60 : cd 239 60 = some (.iconst (1), 1) := by decide +kernel
theorem c_239_61 : cd 239 61 = some (.iadd, 1) := by decide +kernel
theorem c_239_62 : cd 239 62 = some (.putfield 201, 3) := by decide +kernel
theorem c_239_65 : cd 239 65 = some (.return_, 1) := by decide +kernel
def f_Mo_emit (x0 : Nat) (x1 : Int32) (x2 : Int32) (x3 : Int32) (σ : Mm) : Option Mm := if inbB ((σ x0 23) + ((3 : Int32) * (σ x0 24))) 288 = true then nmM (up2 σ (rfT x0 22) (ix ((σ x0 23) + ((3 : Int32) * (σ x0 24)))) x1) fun σ16 => if inbB (((σ16 x0 23) + ((3 : Int32) * (σ16 x0 24))) + (1 : Int32)) 288 = true then nmM (up2 σ16 (rfT x0 22) (ix (((σ16 x0 23) + ((3 : Int32) * (σ16 x0 24))) + (1 : Int32))) x2) fun σ35 => if inbB (((σ35 x0 23) + ((3 : Int32) * (σ35 x0 24))) + (2 : Int32)) 288 = true then nmM (up2 σ35 (rfT x0 22) (ix (((σ35 x0 23) + ((3 : Int32) * (σ35 x0 24))) + (2 : Int32))) x3) fun σ54 => nmM (up2 σ54 x0 24 ((σ54 x0 24) + (1 : Int32))) fun σ62 => some σ62 else none else none else none
set_option maxRecDepth 100000 in
set_option maxHeartbeats 4000000 in
theorem t_Mo_emit {X : Xt} {S : Sh} (hS : ShOK S) {d : Nat} (hd : 0 ≤ d) (x0 : Nat) (x1 : Int32) (x2 : Int32) (x3 : Int32) (σ : Mm) (h_x0 : tgT x0 = 12) : Rf X S emV (f_Mo_emit x0 x1 x2 x3 σ) d 239 0 [.ref x0, .int x1, .int x2, .int x3] [] σ := by
  unfold f_Mo_emit
  refine rf_ald (i := 0) (Or.inr ⟨0, rfl, rfl, rfl⟩) c_239_0 rfl ?_
  refine rf_getr hS c_239_1 rfl fl_12_38 rfl h_x0 ?_
  refine rf_ald (i := 0) (Or.inr ⟨0, rfl, rfl, rfl⟩) c_239_4 rfl ?_
  refine rf_geti hS c_239_5 rfl fl_12_198 rfl h_x0 ?_
  refine rf_iconst c_239_8 ki_3 ?_
  refine rf_ald (i := 0) (Or.inr ⟨0, rfl, rfl, rfl⟩) c_239_9 rfl ?_
  refine rf_geti hS c_239_10 rfl fl_12_201 rfl h_x0 ?_
  refine rf_imul c_239_13 ?_
  refine rf_iadd c_239_14 ?_
  refine rf_ild (i := 1) (Or.inr ⟨1, rfl, rfl, rfl⟩) c_239_15 rfl ?_
  refine rf_ite (fun hb16 => ?_) (fun _ => rf_none)
  refine rf_iast hS c_239_16 (tf_12_22 h_x0) (lf_12_22 h_x0) hb16 ?_
  refine rf_nm (fun σ16 => ?_)
  refine rf_ald (i := 0) (Or.inr ⟨0, rfl, rfl, rfl⟩) c_239_17 rfl ?_
  refine rf_getr hS c_239_18 rfl fl_12_38 rfl h_x0 ?_
  refine rf_ald (i := 0) (Or.inr ⟨0, rfl, rfl, rfl⟩) c_239_21 rfl ?_
  refine rf_geti hS c_239_22 rfl fl_12_198 rfl h_x0 ?_
  refine rf_iconst c_239_25 ki_3 ?_
  refine rf_ald (i := 0) (Or.inr ⟨0, rfl, rfl, rfl⟩) c_239_26 rfl ?_
  refine rf_geti hS c_239_27 rfl fl_12_201 rfl h_x0 ?_
  refine rf_imul c_239_30 ?_
  refine rf_iadd c_239_31 ?_
  refine rf_iconst c_239_32 ki_1 ?_
  refine rf_iadd c_239_33 ?_
  refine rf_ild (i := 2) (Or.inr ⟨2, rfl, rfl, rfl⟩) c_239_34 rfl ?_
  refine rf_ite (fun hb35 => ?_) (fun _ => rf_none)
  refine rf_iast hS c_239_35 (tf_12_22 h_x0) (lf_12_22 h_x0) hb35 ?_
  refine rf_nm (fun σ35 => ?_)
  refine rf_ald (i := 0) (Or.inr ⟨0, rfl, rfl, rfl⟩) c_239_36 rfl ?_
  refine rf_getr hS c_239_37 rfl fl_12_38 rfl h_x0 ?_
  refine rf_ald (i := 0) (Or.inr ⟨0, rfl, rfl, rfl⟩) c_239_40 rfl ?_
  refine rf_geti hS c_239_41 rfl fl_12_198 rfl h_x0 ?_
  refine rf_iconst c_239_44 ki_3 ?_
  refine rf_ald (i := 0) (Or.inr ⟨0, rfl, rfl, rfl⟩) c_239_45 rfl ?_
  refine rf_geti hS c_239_46 rfl fl_12_201 rfl h_x0 ?_
  refine rf_imul c_239_49 ?_
  refine rf_iadd c_239_50 ?_
  refine rf_iconst c_239_51 ki_2 ?_
  refine rf_iadd c_239_52 ?_
  refine rf_ild (i := 3) (Or.inr ⟨3, rfl, rfl, rfl⟩) c_239_53 rfl ?_
  refine rf_ite (fun hb54 => ?_) (fun _ => rf_none)
  refine rf_iast hS c_239_54 (tf_12_22 h_x0) (lf_12_22 h_x0) hb54 ?_
  refine rf_nm (fun σ54 => ?_)
  refine rf_ald (i := 0) (Or.inr ⟨0, rfl, rfl, rfl⟩) c_239_55 rfl ?_
  refine rf_dup c_239_56 rfl ?_
  refine rf_geti hS c_239_57 rfl fl_12_201 rfl h_x0 ?_
  refine rf_iconst c_239_60 ki_1 ?_
  refine rf_iadd c_239_61 ?_
  refine rf_puti hS c_239_62 rfl fl_12_201 rfl rfl rfl rfl h_x0 ?_
  refine rf_nm (fun σ62 => ?_)
  exact rf_vret c_239_65 rfl rfl
theorem c_240_0 : cd 240 0 = some (.aload_n 0, 1) := by decide +kernel
theorem c_240_1 : cd 240 1 = some (.getfield 171, 3) := by decide +kernel
theorem c_240_4 : cd 240 4 = some (.iconst (1), 1) := by decide +kernel
theorem c_240_5 : cd 240 5 = some (.if_icmp .ne (12), 3) := by decide +kernel
theorem c_240_8 : cd 240 8 = some (.aload_n 0, 1) := by decide +kernel
theorem c_240_9 : cd 240 9 = some (.getfield 177, 3) := by decide +kernel
theorem c_240_12 : cd 240 12 = some (.bipush (11), 2) := by decide +kernel
theorem c_240_14 : cd 240 14 = some (.if_icmp .ge (5), 3) := by decide +kernel
theorem c_240_17 : cd 240 17 = some (.iconst (0), 1) := by decide +kernel
theorem c_240_18 : cd 240 18 = some (.ireturn, 1) := by decide +kernel
theorem c_240_19 : cd 240 19 = some (.aload_n 0, 1) := by decide +kernel
theorem c_240_20 : cd 240 20 = some (.getfield 177, 3) := by decide +kernel
theorem c_240_23 : cd 240 23 = some (.istore_n 1, 1) := by decide +kernel
theorem c_240_24 : cd 240 24 = some (.iconst (0), 1) := by decide +kernel
theorem c_240_25 : cd 240 25 = some (.istore_n 2, 1) := by decide +kernel
theorem c_240_26 : cd 240 26 = some (.aload_n 0, 1) := by decide +kernel
theorem c_240_27 : cd 240 27 = some (.invokevirtual 195, 3) := by decide +kernel
theorem c_240_30 : cd 240 30 = some (.iload_n 1, 1) := by decide +kernel
theorem c_240_31 : cd 240 31 = some (.bipush (13), 2) := by decide +kernel
theorem c_240_33 : cd 240 33 = some (.if_icmp .gt (32), 3) := by decide +kernel
theorem c_240_36 : cd 240 36 = some (.aload_n 0, 1) := by decide +kernel
theorem c_240_37 : cd 240 37 = some (.bipush (60), 2) := by decide +kernel
theorem c_240_39 : cd 240 39 = some (.invokevirtual 204, 3) := by decide +kernel
theorem c_240_42 : cd 240 42 = some (.ifCond .ne (14), 3) := by decide +kernel
theorem c_240_45 : cd 240 45 = some (.aload_n 0, 1) := by decide +kernel
theorem c_240_46 : cd 240 46 = some (.bipush (62), 2) := by decide +kernel
theorem c_240_48 : cd 240 48 = some (.invokevirtual 204, 3) := by decide +kernel
theorem c_240_51 : cd 240 51 = some (.ifCond .ne (5), 3) := by decide +kernel
theorem c_240_54 : cd 240 54 = some (.iconst (0), 1) := by decide +kernel
theorem c_240_55 : cd 240 55 = some (.ireturn, 1) := by decide +kernel
theorem c_240_56 : cd 240 56 = some (.aload_n 0, 1) := by decide +kernel
theorem c_240_57 : cd 240 57 = some (.getfield 177, 3) := by decide +kernel
theorem c_240_60 : cd 240 60 = some (.istore_n 2, 1) := by decide +kernel
theorem c_240_61 : cd 240 61 = some (.aload_n 0, 1) := by decide +kernel
theorem c_240_62 : cd 240 62 = some (.invokevirtual 195, 3) := by decide +kernel
theorem c_240_65 : cd 240 65 = some (.aload_n 0, 1) := by decide +kernel
theorem c_240_66 : cd 240 66 = some (.invokevirtual 207, 3) := by decide +kernel
theorem c_240_69 : cd 240 69 = some (.ifCond .ne (5), 3) := by decide +kernel
theorem c_240_72 : cd 240 72 = some (.iconst (0), 1) := by decide +kernel
theorem c_240_73 : cd 240 73 = some (.ireturn, 1) := by decide +kernel
theorem c_240_74 : cd 240 74 = some (.aload_n 0, 1) := by decide +kernel
theorem c_240_75 : cd 240 75 = some (.aload_n 0, 1) := by decide +kernel
theorem c_240_76 : cd 240 76 = some (.getfield 211, 3) := by decide +kernel
theorem c_240_79 : cd 240 79 = some (.ifCond .ne (26), 3) := by decide +kernel
theorem c_240_82 : cd 240 82 = some (.iload_n 1, 1) := by decide +kernel
theorem c_240_83 : cd 240 83 = some (.bipush (14), 2) := by decide +kernel
theorem c_240_85 : cd 240 85 = some (.if_icmp .eq (9), 3) := by decide +kernel
theorem c_240_88 : cd 240 88 = some (.iload_n 1, 1) := by decide +kernel
theorem c_240_89 : cd 240 89 = some (.bipush (16), 2) := by decide +kernel
theorem c_240_91 : cd 240 91 = some (.if_icmp .ne (18), 3) := by decide +kernel
theorem c_240_94 : cd 240 94 = some (.aload_n 0, 1) := by decide +kernel
theorem c_240_95 : cd 240 95 = some (.aload_n 0, 1) := by decide +kernel
theorem c_240_96 : cd 240 96 = some (.getfield 192, 3) := by decide +kernel
theorem c_240_99 : cd 240 99 = some (.invokevirtual 87, 3) := by decide +kernel
theorem c_240_102 : cd 240 102 = some (.ifCond .ne (7), 3) := by decide +kernel
theorem c_240_105 : cd 240 105 = some (.iconst (1), 1) := by decide +kernel
theorem c_240_106 : cd 240 106 = some (.goto (4), 3) := by decide +kernel
theorem c_240_109 : cd 240 109 = some (.iconst (0), 1) := by decide +kernel
theorem c_240_110 : cd 240 110 = some (.putfield 211, 3) := by decide +kernel
theorem c_240_113 : cd 240 113 = some (.aload_n 0, 1) := by decide +kernel
theorem c_240_114 : cd 240 114 = some (.iload_n 1, 1) := by decide +kernel
theorem c_240_115 : cd 240 115 = some (.iload_n 2, 1) := by decide +kernel
theorem c_240_116 : cd 240 116 = some (.aload_n 0, 1) := by decide +kernel
theorem c_240_117 : cd 240 117 = some (.getfield 192, 3) := by decide +kernel
theorem c_240_120 : cd 240 120 = some (.invokevirtual 215, 3) := by decide +kernel
theorem c_240_123 : cd 240 123 = some (.aload_n 0, 1) := by decide +kernel
theorem c_240_124 : cd 240 124 = some (.dup, 1) := by decide +kernel
theorem c_240_125 : cd 240 125 = some (.getfield 218, 3) := by decide +kernel
theorem c_240_128 : cd 240 128 = some (.iconst (1), 1) := by decide +kernel
theorem c_240_129 : cd 240 129 = some (.iadd, 1) := by decide +kernel
theorem c_240_130 : cd 240 130 = some (.putfield 218, 3) := by decide +kernel
theorem c_240_133 : cd 240 133 = some (.iconst (1), 1) := by decide +kernel
theorem c_240_134 : cd 240 134 = some (.ireturn, 1) := by decide +kernel
def f_Mo_takesAtom_17 (σ : Mm) : Option (Int32 × Mm) := some ((0 : Int32), σ)
set_option maxRecDepth 100000 in
set_option maxHeartbeats 4000000 in
theorem t_Mo_takesAtom_17 {X : Xt} {S : Sh} (hS : ShOK S) {d : Nat} (hd : 4 ≤ d + 1) (u0 : Value) (u1 : Value) (u2 : Value) (σ : Mm) : Rf X S emM (f_Mo_takesAtom_17 σ) (d + 1) 240 17 [u0, u1, u2] [] σ := by
  unfold f_Mo_takesAtom_17
  refine rf_iconst c_240_17 ki_0 ?_
  exact rf_ret c_240_18 rfl (by decide) rfl rfl
def f_Mo_takesAtom_110 (x0 : Nat) (x1 : Int32) (x2 : Int32) (y0 : Nat) (y1 : Int32) (σ : Mm) : Option (Int32 × Mm) := if zB y1 = true then nmM (up2 σ y0 28 y1) fun σ110 => (f_Mo_emit x0 x1 x2 (σ110 x0 29) σ110).bind fun v120 => nmM (up2 v120 x0 27 ((v120 x0 27) + (1 : Int32))) fun σ130 => some ((1 : Int32), σ130) else none
set_option maxRecDepth 100000 in
set_option maxHeartbeats 4000000 in
theorem t_Mo_takesAtom_110 {X : Xt} {S : Sh} (hS : ShOK S) {d : Nat} (hd : 4 ≤ d + 1) (x0 : Nat) (x1 : Int32) (x2 : Int32) (y0 : Nat) (y1 : Int32) (σ : Mm) (h_x0 : tgT x0 = 12) (h_y0 : tgT y0 = 12) : Rf X S emM (f_Mo_takesAtom_110 x0 x1 x2 y0 y1 σ) (d + 1) 240 110 [.ref x0, .int x1, .int x2] [.int y1, .ref y0] σ := by
  unfold f_Mo_takesAtom_110
  refine rf_ite (fun hq110 => ?_) (fun _ => rf_none)
  refine rf_puti hS c_240_110 rfl fl_12_211 rfl rfl (zB_n hq110) (zB_f hq110) h_y0 ?_
  refine rf_nm (fun σ110 => ?_)
  refine rf_ald (i := 0) (Or.inr ⟨0, rfl, rfl, rfl⟩) c_240_113 rfl ?_
  refine rf_ild (i := 1) (Or.inr ⟨1, rfl, rfl, rfl⟩) c_240_114 rfl ?_
  refine rf_ild (i := 2) (Or.inr ⟨2, rfl, rfl, rfl⟩) c_240_115 rfl ?_
  refine rf_ald (i := 0) (Or.inr ⟨0, rfl, rfl, rfl⟩) c_240_116 rfl ?_
  refine rf_geti hS c_240_117 rfl fl_12_192 rfl h_x0 ?_
  refine rf_callV (as := [.ref x0, .int x1, .int x2, .int (σ110 x0 29)]) (kd := 1) c_240_120 rfl (by decide) rfl ml_12_215 (by decide) rfl (rcv_1 hS rfl rfl h_x0 (by decide)) (Nat.zero_le _) rfl rfl (t_Mo_emit hS (by omega) x0 x1 x2 (σ110 x0 29) σ110 h_x0) (fun v120 => ?_)
  refine rf_ald (i := 0) (Or.inr ⟨0, rfl, rfl, rfl⟩) c_240_123 rfl ?_
  refine rf_dup c_240_124 rfl ?_
  refine rf_geti hS c_240_125 rfl fl_12_218 rfl h_x0 ?_
  refine rf_iconst c_240_128 ki_1 ?_
  refine rf_iadd c_240_129 ?_
  refine rf_puti hS c_240_130 rfl fl_12_218 rfl rfl rfl rfl h_x0 ?_
  refine rf_nm (fun σ130 => ?_)
  refine rf_iconst c_240_133 ki_1 ?_
  exact rf_ret c_240_134 rfl (by decide) rfl rfl
def f_Mo_takesAtom_105 (x0 : Nat) (x1 : Int32) (x2 : Int32) (y0 : Nat) (σ : Mm) : Option (Int32 × Mm) := f_Mo_takesAtom_110  x0 x1 x2 y0 (1 : Int32) σ
set_option maxRecDepth 100000 in
set_option maxHeartbeats 4000000 in
theorem t_Mo_takesAtom_105 {X : Xt} {S : Sh} (hS : ShOK S) {d : Nat} (hd : 4 ≤ d + 1) (x0 : Nat) (x1 : Int32) (x2 : Int32) (y0 : Nat) (σ : Mm) (h_x0 : tgT x0 = 12) (h_y0 : tgT y0 = 12) : Rf X S emM (f_Mo_takesAtom_105 x0 x1 x2 y0 σ) (d + 1) 240 105 [.ref x0, .int x1, .int x2] [.ref y0] σ := by
  unfold f_Mo_takesAtom_105
  refine rf_iconst c_240_105 ki_1 ?_
  refine rf_goto c_240_106 rfl ?_
  exact t_Mo_takesAtom_110 hS hd  x0 x1 x2 y0 (1 : Int32) σ h_x0 h_y0
def f_Mo_takesAtom_109 (x0 : Nat) (x1 : Int32) (x2 : Int32) (y0 : Nat) (σ : Mm) : Option (Int32 × Mm) := f_Mo_takesAtom_110  x0 x1 x2 y0 (0 : Int32) σ
set_option maxRecDepth 100000 in
set_option maxHeartbeats 4000000 in
theorem t_Mo_takesAtom_109 {X : Xt} {S : Sh} (hS : ShOK S) {d : Nat} (hd : 4 ≤ d + 1) (x0 : Nat) (x1 : Int32) (x2 : Int32) (y0 : Nat) (σ : Mm) (h_x0 : tgT x0 = 12) (h_y0 : tgT y0 = 12) : Rf X S emM (f_Mo_takesAtom_109 x0 x1 x2 y0 σ) (d + 1) 240 109 [.ref x0, .int x1, .int x2] [.ref y0] σ := by
  unfold f_Mo_takesAtom_109
  refine rf_iconst c_240_109 ki_0 ?_
  exact t_Mo_takesAtom_110 hS hd  x0 x1 x2 y0 (0 : Int32) σ h_x0 h_y0
def f_Mo_takesAtom_94 (x0 : Nat) (x1 : Int32) (x2 : Int32) (y0 : Nat) (σ : Mm) : Option (Int32 × Mm) := (f_Mo_isOffice σ x0 (σ x0 29)).bind fun v99 => (if ¬ v99 = 0 then (f_Mo_takesAtom_109  x0 x1 x2 y0 σ) else (f_Mo_takesAtom_105  x0 x1 x2 y0 σ))
set_option maxRecDepth 100000 in
set_option maxHeartbeats 4000000 in
theorem t_Mo_takesAtom_94 {X : Xt} {S : Sh} (hS : ShOK S) {d : Nat} (hd : 4 ≤ d + 1) (x0 : Nat) (x1 : Int32) (x2 : Int32) (y0 : Nat) (σ : Mm) (h_x0 : tgT x0 = 12) (h_y0 : tgT y0 = 12) : Rf X S emM (f_Mo_takesAtom_94 x0 x1 x2 y0 σ) (d + 1) 240 94 [.ref x0, .int x1, .int x2] [.ref y0] σ := by
  unfold f_Mo_takesAtom_94
  refine rf_ald (i := 0) (Or.inr ⟨0, rfl, rfl, rfl⟩) c_240_94 rfl ?_
  refine rf_ald (i := 0) (Or.inr ⟨0, rfl, rfl, rfl⟩) c_240_95 rfl ?_
  refine rf_geti hS c_240_96 rfl fl_12_192 rfl h_x0 ?_
  refine rf_callI (as := [.ref x0, .int (σ x0 29)]) (kd := 1) c_240_99 rfl (by decide) rfl ml_12_87 (by decide) rfl (rcv_1 hS rfl rfl h_x0 (by decide)) (by simp [Value.category]) rfl rfl (t_Mo_isOffice hS (by omega) σ x0 (σ x0 29) h_x0) (fun v99 => ?_)
  refine rf_ite (fun hc102 => ?_) (fun hc102 => ?_)
  · refine rf_b1t c_240_102 rfl (decide_eq_true hc102) ?_
    exact t_Mo_takesAtom_109 hS hd  x0 x1 x2 y0 σ h_x0 h_y0
  · refine rf_b1f c_240_102 rfl (decide_eq_false hc102) ?_
    exact t_Mo_takesAtom_105 hS hd  x0 x1 x2 y0 σ h_x0 h_y0
def f_Mo_takesAtom_65 (x0 : Nat) (x1 : Int32) (x2 : Int32) (σ : Mm) : Option (Int32 × Mm) := (f_Mo_takesNumber x0 σ).bind fun v66 => (if ¬ v66.1 = 0 then (if ¬ (v66.2 x0 28) = 0 then (f_Mo_takesAtom_105  x0 x1 x2 x0 v66.2) else (if x1 = (14 : Int32) then (f_Mo_takesAtom_94  x0 x1 x2 x0 v66.2) else (if ¬ x1 = (16 : Int32) then (f_Mo_takesAtom_109  x0 x1 x2 x0 v66.2) else (f_Mo_takesAtom_94  x0 x1 x2 x0 v66.2)))) else (some ((0 : Int32), v66.2)))
set_option maxRecDepth 100000 in
set_option maxHeartbeats 4000000 in
theorem t_Mo_takesAtom_65 {X : Xt} {S : Sh} (hS : ShOK S) {d : Nat} (hd : 4 ≤ d + 1) (x0 : Nat) (x1 : Int32) (x2 : Int32) (σ : Mm) (h_x0 : tgT x0 = 12) : Rf X S emM (f_Mo_takesAtom_65 x0 x1 x2 σ) (d + 1) 240 65 [.ref x0, .int x1, .int x2] [] σ := by
  unfold f_Mo_takesAtom_65
  refine rf_ald (i := 0) (Or.inr ⟨0, rfl, rfl, rfl⟩) c_240_65 rfl ?_
  refine rf_callM (as := [.ref x0]) (kd := 1) c_240_66 rfl (by decide) rfl ml_12_207 (by decide) rfl (rcv_1 hS rfl rfl h_x0 (by decide)) (Nat.zero_le _) rfl rfl (t_Mo_takesNumber hS (by omega) x0 σ h_x0) (fun v66 => ?_)
  refine rf_ite (fun hc69 => ?_) (fun hc69 => ?_)
  · refine rf_b1t c_240_69 rfl (decide_eq_true hc69) ?_
    refine rf_ald (i := 0) (Or.inr ⟨0, rfl, rfl, rfl⟩) c_240_74 rfl ?_
    refine rf_ald (i := 0) (Or.inr ⟨0, rfl, rfl, rfl⟩) c_240_75 rfl ?_
    refine rf_geti hS c_240_76 rfl fl_12_211 rfl h_x0 ?_
    refine rf_ite (fun hc79 => ?_) (fun hc79 => ?_)
    · refine rf_b1t c_240_79 rfl (decide_eq_true hc79) ?_
      exact t_Mo_takesAtom_105 hS hd  x0 x1 x2 x0 v66.2 h_x0 h_x0
    · refine rf_b1f c_240_79 rfl (decide_eq_false hc79) ?_
      refine rf_ild (i := 1) (Or.inr ⟨1, rfl, rfl, rfl⟩) c_240_82 rfl ?_
      refine rf_bipush c_240_83 kb_14 ?_
      refine rf_ite (fun hc85 => ?_) (fun hc85 => ?_)
      · refine rf_b2t c_240_85 rfl (decide_eq_true hc85) ?_
        exact t_Mo_takesAtom_94 hS hd  x0 x1 x2 x0 v66.2 h_x0 h_x0
      · refine rf_b2f c_240_85 rfl (decide_eq_false hc85) ?_
        refine rf_ild (i := 1) (Or.inr ⟨1, rfl, rfl, rfl⟩) c_240_88 rfl ?_
        refine rf_bipush c_240_89 kb_16 ?_
        refine rf_ite (fun hc91 => ?_) (fun hc91 => ?_)
        · refine rf_b2t c_240_91 rfl (decide_eq_true hc91) ?_
          exact t_Mo_takesAtom_109 hS hd  x0 x1 x2 x0 v66.2 h_x0 h_x0
        · refine rf_b2f c_240_91 rfl (decide_eq_false hc91) ?_
          exact t_Mo_takesAtom_94 hS hd  x0 x1 x2 x0 v66.2 h_x0 h_x0
  · refine rf_b1f c_240_69 rfl (decide_eq_false hc69) ?_
    refine rf_iconst c_240_72 ki_0 ?_
    exact rf_ret c_240_73 rfl (by decide) rfl rfl
def f_Mo_takesAtom_56 (x0 : Nat) (x1 : Int32) (σ : Mm) : Option (Int32 × Mm) := (f_Mo_go x0 σ).bind fun v62 => f_Mo_takesAtom_65  x0 x1 (σ x0 17) v62
set_option maxRecDepth 100000 in
set_option maxHeartbeats 4000000 in
theorem t_Mo_takesAtom_56 {X : Xt} {S : Sh} (hS : ShOK S) {d : Nat} (hd : 4 ≤ d + 1) (x0 : Nat) (x1 : Int32) (u2 : Value) (σ : Mm) (h_x0 : tgT x0 = 12) : Rf X S emM (f_Mo_takesAtom_56 x0 x1 σ) (d + 1) 240 56 [.ref x0, .int x1, u2] [] σ := by
  unfold f_Mo_takesAtom_56
  refine rf_ald (i := 0) (Or.inr ⟨0, rfl, rfl, rfl⟩) c_240_56 rfl ?_
  refine rf_geti hS c_240_57 rfl fl_12_177 rfl h_x0 ?_
  refine rf_ist (i := 2) (Or.inr ⟨2, rfl, rfl, rfl⟩) c_240_60 (Nat.le_of_ble_eq_true rfl) rfl ?_
  refine rf_ald (i := 0) (Or.inr ⟨0, rfl, rfl, rfl⟩) c_240_61 rfl ?_
  refine rf_callV (as := [.ref x0]) (kd := 1) c_240_62 rfl (by decide) rfl ml_12_195 (by decide) rfl (rcv_1 hS rfl rfl h_x0 (by decide)) (Nat.zero_le _) rfl rfl (t_Mo_go hS (by omega) x0 σ h_x0) (fun v62 => ?_)
  exact t_Mo_takesAtom_65 hS hd  x0 x1 (σ x0 17) v62 h_x0
def f_Mo_takesAtom (x0 : Nat) (σ : Mm) : Option (Int32 × Mm) := (if ¬ (σ x0 16) = (1 : Int32) then (f_Mo_takesAtom_17  σ) else (if (11 : Int32) ≤ (σ x0 17) then ((f_Mo_go x0 σ).bind fun v27 => (if (13 : Int32) < (σ x0 17) then (f_Mo_takesAtom_65  x0 (σ x0 17) (0 : Int32) v27) else ((f_Mo_isSign v27 x0 (60 : Int32)).bind fun v39 => (if ¬ v39 = 0 then (f_Mo_takesAtom_56  x0 (σ x0 17) v27) else ((f_Mo_isSign v27 x0 (62 : Int32)).bind fun v48 => (if ¬ v48 = 0 then (f_Mo_takesAtom_56  x0 (σ x0 17) v27) else (some ((0 : Int32), v27)))))))) else (f_Mo_takesAtom_17  σ)))
set_option maxRecDepth 100000 in
set_option maxHeartbeats 4000000 in
theorem t_Mo_takesAtom_e {X : Xt} {S : Sh} (hS : ShOK S) {d : Nat} (hd : 4 ≤ d + 1) (x0 : Nat) (σ : Mm) (h_x0 : tgT x0 = 12) : Rf X S emM (f_Mo_takesAtom x0 σ) (d + 1) 240 0 [.ref x0, unset0, unset0] [] σ := by
  unfold f_Mo_takesAtom
  refine rf_ald (i := 0) (Or.inr ⟨0, rfl, rfl, rfl⟩) c_240_0 rfl ?_
  refine rf_geti hS c_240_1 rfl fl_12_171 rfl h_x0 ?_
  refine rf_iconst c_240_4 ki_1 ?_
  refine rf_ite (fun hc5 => ?_) (fun hc5 => ?_)
  · refine rf_b2t c_240_5 rfl (decide_eq_true hc5) ?_
    exact t_Mo_takesAtom_17 hS hd  (.ref x0) (unset0) (unset0) σ
  · refine rf_b2f c_240_5 rfl (decide_eq_false hc5) ?_
    refine rf_ald (i := 0) (Or.inr ⟨0, rfl, rfl, rfl⟩) c_240_8 rfl ?_
    refine rf_geti hS c_240_9 rfl fl_12_177 rfl h_x0 ?_
    refine rf_bipush c_240_12 kb_11 ?_
    refine rf_ite (fun hc14 => ?_) (fun hc14 => ?_)
    · refine rf_b2t c_240_14 rfl (decide_eq_true hc14) ?_
      refine rf_ald (i := 0) (Or.inr ⟨0, rfl, rfl, rfl⟩) c_240_19 rfl ?_
      refine rf_geti hS c_240_20 rfl fl_12_177 rfl h_x0 ?_
      refine rf_ist (i := 1) (Or.inr ⟨1, rfl, rfl, rfl⟩) c_240_23 (Nat.le_of_ble_eq_true rfl) rfl ?_
      refine rf_iconst c_240_24 ki_0 ?_
      refine rf_ist (i := 2) (Or.inr ⟨2, rfl, rfl, rfl⟩) c_240_25 (Nat.le_of_ble_eq_true rfl) rfl ?_
      refine rf_ald (i := 0) (Or.inr ⟨0, rfl, rfl, rfl⟩) c_240_26 rfl ?_
      refine rf_callV (as := [.ref x0]) (kd := 1) c_240_27 rfl (by decide) rfl ml_12_195 (by decide) rfl (rcv_1 hS rfl rfl h_x0 (by decide)) (Nat.zero_le _) rfl rfl (t_Mo_go hS (by omega) x0 σ h_x0) (fun v27 => ?_)
      refine rf_ild (i := 1) (Or.inr ⟨1, rfl, rfl, rfl⟩) c_240_30 rfl ?_
      refine rf_bipush c_240_31 kb_13 ?_
      refine rf_ite (fun hc33 => ?_) (fun hc33 => ?_)
      · refine rf_b2t c_240_33 rfl (decide_eq_true hc33) ?_
        exact t_Mo_takesAtom_65 hS hd  x0 (σ x0 17) (0 : Int32) v27 h_x0
      · refine rf_b2f c_240_33 rfl (decide_eq_false hc33) ?_
        refine rf_ald (i := 0) (Or.inr ⟨0, rfl, rfl, rfl⟩) c_240_36 rfl ?_
        refine rf_bipush c_240_37 kb_60 ?_
        refine rf_callI (as := [.ref x0, .int (60 : Int32)]) (kd := 1) c_240_39 rfl (by decide) rfl ml_12_204 (by decide) rfl (rcv_1 hS rfl rfl h_x0 (by decide)) (Nat.zero_le _) rfl rfl (t_Mo_isSign hS (by omega) v27 x0 (60 : Int32) h_x0) (fun v39 => ?_)
        refine rf_ite (fun hc42 => ?_) (fun hc42 => ?_)
        · refine rf_b1t c_240_42 rfl (decide_eq_true hc42) ?_
          exact t_Mo_takesAtom_56 hS hd  x0 (σ x0 17) (.int (0 : Int32)) v27 h_x0
        · refine rf_b1f c_240_42 rfl (decide_eq_false hc42) ?_
          refine rf_ald (i := 0) (Or.inr ⟨0, rfl, rfl, rfl⟩) c_240_45 rfl ?_
          refine rf_bipush c_240_46 kb_62 ?_
          refine rf_callI (as := [.ref x0, .int (62 : Int32)]) (kd := 1) c_240_48 rfl (by decide) rfl ml_12_204 (by decide) rfl (rcv_1 hS rfl rfl h_x0 (by decide)) (Nat.zero_le _) rfl rfl (t_Mo_isSign hS (by omega) v27 x0 (62 : Int32) h_x0) (fun v48 => ?_)
          refine rf_ite (fun hc51 => ?_) (fun hc51 => ?_)
          · refine rf_b1t c_240_51 rfl (decide_eq_true hc51) ?_
            exact t_Mo_takesAtom_56 hS hd  x0 (σ x0 17) (.int (0 : Int32)) v27 h_x0
          · refine rf_b1f c_240_51 rfl (decide_eq_false hc51) ?_
            refine rf_iconst c_240_54 ki_0 ?_
            exact rf_ret c_240_55 rfl (by decide) rfl rfl
    · refine rf_b2f c_240_14 rfl (decide_eq_false hc14) ?_
      exact t_Mo_takesAtom_17 hS hd  (.ref x0) (unset0) (unset0) σ
theorem t_Mo_takesAtom {X : Xt} {S : Sh} (hS : ShOK S) {d : Nat} (hd : 4 ≤ d) (x0 : Nat) (σ : Mm) (h_x0 : tgT x0 = 12) : Rf X S emM (f_Mo_takesAtom x0 σ) d 240 0 [.ref x0, unset0, unset0] [] σ := by
  obtain ⟨d1, rfl⟩ : ∃ d1, d = d1 + 1 := ⟨d - 1, by omega⟩
  exact t_Mo_takesAtom_e hS hd x0 σ h_x0
theorem c_241_0 : cd 241 0 = some (.aload_n 0, 1) := by decide +kernel
theorem c_241_1 : cd 241 1 = some (.getfield 41, 3) := by decide +kernel
theorem c_241_4 : cd 241 4 = some (.aload_n 0, 1) := by decide +kernel
theorem c_241_5 : cd 241 5 = some (.getfield 221, 3) := by decide +kernel
theorem c_241_8 : cd 241 8 = some (.iload_n 1, 1) := by decide +kernel
theorem c_241_9 : cd 241 9 = some (.iastore, 1) := by decide +kernel
theorem c_241_10 : cd 241 10 = some (.aload_n 0, 1) := by decide +kernel
theorem c_241_11 : cd 241 11 = some (.dup, 1) := by decide +kernel
theorem c_241_12 : cd 241 12 = some (.getfield 221, 3) := by decide +kernel
theorem c_241_15 : cd 241 15 = some (.iconst (1), 1) := by decide +kernel
theorem c_241_16 : cd 241 16 = some (.iadd, 1) := by decide +kernel
theorem c_241_17 : cd 241 17 = some (.putfield 221, 3) := by decide +kernel
theorem c_241_20 : cd 241 20 = some (.return_, 1) := by decide +kernel
def f_Mo_await (x0 : Nat) (x1 : Int32) (σ : Mm) : Option Mm := if inbB (σ x0 31) 100 = true then nmM (up2 σ (rfT x0 30) (ix (σ x0 31)) x1) fun σ9 => nmM (up2 σ9 x0 31 ((σ9 x0 31) + (1 : Int32))) fun σ17 => some σ17 else none
set_option maxRecDepth 100000 in
set_option maxHeartbeats 4000000 in
theorem t_Mo_await {X : Xt} {S : Sh} (hS : ShOK S) {d : Nat} (hd : 0 ≤ d) (x0 : Nat) (x1 : Int32) (σ : Mm) (h_x0 : tgT x0 = 12) : Rf X S emV (f_Mo_await x0 x1 σ) d 241 0 [.ref x0, .int x1] [] σ := by
  unfold f_Mo_await
  refine rf_ald (i := 0) (Or.inr ⟨0, rfl, rfl, rfl⟩) c_241_0 rfl ?_
  refine rf_getr hS c_241_1 rfl fl_12_41 rfl h_x0 ?_
  refine rf_ald (i := 0) (Or.inr ⟨0, rfl, rfl, rfl⟩) c_241_4 rfl ?_
  refine rf_geti hS c_241_5 rfl fl_12_221 rfl h_x0 ?_
  refine rf_ild (i := 1) (Or.inr ⟨1, rfl, rfl, rfl⟩) c_241_8 rfl ?_
  refine rf_ite (fun hb9 => ?_) (fun _ => rf_none)
  refine rf_iast hS c_241_9 (tf_12_30 h_x0) (lf_12_30 h_x0) hb9 ?_
  refine rf_nm (fun σ9 => ?_)
  refine rf_ald (i := 0) (Or.inr ⟨0, rfl, rfl, rfl⟩) c_241_10 rfl ?_
  refine rf_dup c_241_11 rfl ?_
  refine rf_geti hS c_241_12 rfl fl_12_221 rfl h_x0 ?_
  refine rf_iconst c_241_15 ki_1 ?_
  refine rf_iadd c_241_16 ?_
  refine rf_puti hS c_241_17 rfl fl_12_221 rfl rfl rfl rfl h_x0 ?_
  refine rf_nm (fun σ17 => ?_)
  exact rf_vret c_241_20 rfl rfl
theorem c_242_0 : cd 242 0 = some (.aload_n 0, 1) := by decide +kernel
theorem c_242_1 : cd 242 1 = some (.getfield 221, 3) := by decide +kernel
theorem c_242_4 : cd 242 4 = some (.ifCond .le (50), 3) := by decide +kernel
theorem c_242_7 : cd 242 7 = some (.aload_n 0, 1) := by decide +kernel
theorem c_242_8 : cd 242 8 = some (.getfield 41, 3) := by decide +kernel
theorem c_242_11 : cd 242 11 = some (.aload_n 0, 1) := by decide +kernel
theorem c_242_12 : cd 242 12 = some (.getfield 221, 3) := by decide +kernel
theorem c_242_15 : cd 242 15 = some (.iconst (1), 1) := by decide +kernel
theorem c_242_16 : cd 242 16 = some (.isub, 1) := by decide +kernel
theorem c_242_17 : cd 242 17 = some (.iaload, 1) := by decide +kernel
theorem c_242_18 : cd 242 18 = some (.bipush (10), 2) := by decide +kernel
theorem c_242_20 : cd 242 20 = some (.if_icmp .ne (34), 3) := by decide +kernel
theorem c_242_23 : cd 242 23 = some (.aload_n 0, 1) := by decide +kernel
theorem c_242_24 : cd 242 24 = some (.dup, 1) := by decide +kernel
theorem c_242_25 : cd 242 25 = some (.getfield 221, 3) := by decide +kernel
theorem c_242_28 : cd 242 28 = some (.iconst (1), 1) := by decide +kernel
theorem c_242_29 : cd 242 29 = some (.isub, 1) := by decide +kernel
theorem c_242_30 : cd 242 30 = some (.putfield 221, 3) := by decide +kernel
theorem c_242_33 : cd 242 33 = some (.aload_n 0, 1) := by decide +kernel
theorem c_242_34 : cd 242 34 = some (.dup, 1) := by decide +kernel
theorem c_242_35 : cd 242 35 = some (.getfield 224, 3) := by decide +kernel
theorem c_242_38 : cd 242 38 = some (.iconst (1), 1) := by decide +kernel
theorem c_242_39 : cd 242 39 = some (.isub, 1) := by decide +kernel
theorem c_242_40 : cd 242 40 = some (.putfield 224, 3) := by decide +kernel
theorem c_242_43 : cd 242 43 = some (.aload_n 0, 1) := by decide +kernel
theorem c_242_44 : cd 242 44 = some (.bipush (10), 2) := by decide +kernel
theorem c_242_46 : cd 242 46 = some (.iconst (0), 1) := by decide +kernel
theorem c_242_47 : cd 242 47 = some (.iconst (0), 1) := by decide +kernel
theorem c_242_48 : cd 242 48 = some (.invokevirtual 215, 3) := by decide +kernel
theorem c_242_51 : cd 242 51 = some (.goto (-51), 3) := by decide +kernel
theorem c_242_54 : cd 242 54 = some (.return_, 1) := by decide +kernel
def f_Mo_endNots_54 (σ : Mm) : Option Mm := some σ
set_option maxRecDepth 100000 in
set_option maxHeartbeats 4000000 in
theorem t_Mo_endNots_54 {X : Xt} {S : Sh} (hS : ShOK S) {d : Nat} (hd : 1 ≤ d + 1) (u0 : Value) (σ : Mm) : Rf X S emV (f_Mo_endNots_54 σ) (d + 1) 242 54 [u0] [] σ := by
  unfold f_Mo_endNots_54
  exact rf_vret c_242_54 rfl rfl
def f_Mo_endNots_0 : Nat → Nat → Mm → Option Mm
  | 0, _, _ => none
  | n + 1, x0, σ => (if (σ x0 31) ≤ 0 then (f_Mo_endNots_54  σ) else (if inbB ((σ x0 31) - (1 : Int32)) 100 = true then (if ¬ (σ (rfT x0 30) (ix ((σ x0 31) - (1 : Int32)))) = (10 : Int32) then (f_Mo_endNots_54  σ) else (nmM (up2 σ x0 31 ((σ x0 31) - (1 : Int32))) fun σ30 => nmM (up2 σ30 x0 33 ((σ30 x0 33) - (1 : Int32))) fun σ40 => (f_Mo_emit x0 (10 : Int32) (0 : Int32) (0 : Int32) σ40).bind fun v48 => f_Mo_endNots_0  n x0 v48)) else none))
set_option maxRecDepth 100000 in
set_option maxHeartbeats 4000000 in
theorem t_Mo_endNots_0 {X : Xt} {S : Sh} (hS : ShOK S) {d : Nat} (hd : 1 ≤ d + 1) : ∀ (n : Nat) (x0 : Nat) (σ : Mm) (h_x0 : tgT x0 = 12), Rf X S emV (f_Mo_endNots_0 n x0 σ) (d + 1) 242 0 [.ref x0] [] σ := by
  intro n
  induction n with
  | zero => intro x0 σ h_x0; exact rf_none
  | succ n ih =>
    intro x0 σ h_x0
    rw [f_Mo_endNots_0]
    refine rf_ald (i := 0) (Or.inr ⟨0, rfl, rfl, rfl⟩) c_242_0 rfl ?_
    refine rf_geti hS c_242_1 rfl fl_12_221 rfl h_x0 ?_
    refine rf_ite (fun hc4 => ?_) (fun hc4 => ?_)
    · refine rf_b1t c_242_4 rfl (decide_eq_true hc4) ?_
      exact t_Mo_endNots_54 hS hd  (.ref x0) σ
    · refine rf_b1f c_242_4 rfl (decide_eq_false hc4) ?_
      refine rf_ald (i := 0) (Or.inr ⟨0, rfl, rfl, rfl⟩) c_242_7 rfl ?_
      refine rf_getr hS c_242_8 rfl fl_12_41 rfl h_x0 ?_
      refine rf_ald (i := 0) (Or.inr ⟨0, rfl, rfl, rfl⟩) c_242_11 rfl ?_
      refine rf_geti hS c_242_12 rfl fl_12_221 rfl h_x0 ?_
      refine rf_iconst c_242_15 ki_1 ?_
      refine rf_isub c_242_16 ?_
      refine rf_ite (fun hb17 => ?_) (fun _ => rf_none)
      refine rf_iald hS c_242_17 (tf_12_30 h_x0) (lf_12_30 h_x0) hb17 ?_
      refine rf_bipush c_242_18 kb_10 ?_
      refine rf_ite (fun hc20 => ?_) (fun hc20 => ?_)
      · refine rf_b2t c_242_20 rfl (decide_eq_true hc20) ?_
        exact t_Mo_endNots_54 hS hd  (.ref x0) σ
      · refine rf_b2f c_242_20 rfl (decide_eq_false hc20) ?_
        refine rf_ald (i := 0) (Or.inr ⟨0, rfl, rfl, rfl⟩) c_242_23 rfl ?_
        refine rf_dup c_242_24 rfl ?_
        refine rf_geti hS c_242_25 rfl fl_12_221 rfl h_x0 ?_
        refine rf_iconst c_242_28 ki_1 ?_
        refine rf_isub c_242_29 ?_
        refine rf_puti hS c_242_30 rfl fl_12_221 rfl rfl rfl rfl h_x0 ?_
        refine rf_nm (fun σ30 => ?_)
        refine rf_ald (i := 0) (Or.inr ⟨0, rfl, rfl, rfl⟩) c_242_33 rfl ?_
        refine rf_dup c_242_34 rfl ?_
        refine rf_geti hS c_242_35 rfl fl_12_224 rfl h_x0 ?_
        refine rf_iconst c_242_38 ki_1 ?_
        refine rf_isub c_242_39 ?_
        refine rf_puti hS c_242_40 rfl fl_12_224 rfl rfl rfl rfl h_x0 ?_
        refine rf_nm (fun σ40 => ?_)
        refine rf_ald (i := 0) (Or.inr ⟨0, rfl, rfl, rfl⟩) c_242_43 rfl ?_
        refine rf_bipush c_242_44 kb_10 ?_
        refine rf_iconst c_242_46 ki_0 ?_
        refine rf_iconst c_242_47 ki_0 ?_
        refine rf_callV (as := [.ref x0, .int (10 : Int32), .int (0 : Int32), .int (0 : Int32)]) (kd := 1) c_242_48 rfl (by decide) rfl ml_12_215 (by decide) rfl (rcv_1 hS rfl rfl h_x0 (by decide)) (Nat.zero_le _) rfl rfl (t_Mo_emit hS (by omega) x0 (10 : Int32) (0 : Int32) (0 : Int32) σ40 h_x0) (fun v48 => ?_)
        refine rf_goto c_242_51 rfl ?_
        exact ih x0 v48 h_x0
def f_Mo_endNots (x0 : Nat) (σ : Mm) : Option (Mm) := f_Mo_endNots_0  NN x0 σ
theorem t_Mo_endNots {X : Xt} {S : Sh} (hS : ShOK S) {d : Nat} (hd : 1 ≤ d) (x0 : Nat) (σ : Mm) (h_x0 : tgT x0 = 12) : Rf X S emV (f_Mo_endNots x0 σ) d 242 0 [.ref x0] [] σ := by
  obtain ⟨d1, rfl⟩ : ∃ d1, d = d1 + 1 := ⟨d - 1, by omega⟩
  exact t_Mo_endNots_0 hS hd  NN x0 σ h_x0
theorem c_243_0 : cd 243 0 = some (.aload_n 0, 1) := by decide +kernel
theorem c_243_1 : cd 243 1 = some (.getfield 221, 3) := by decide +kernel
theorem c_243_4 : cd 243 4 = some (.ifCond .le (67), 3) := by decide +kernel
theorem c_243_7 : cd 243 7 = some (.aload_n 0, 1) := by decide +kernel
theorem c_243_8 : cd 243 8 = some (.getfield 41, 3) := by decide +kernel
theorem c_243_11 : cd 243 11 = some (.aload_n 0, 1) := by decide +kernel
theorem c_243_12 : cd 243 12 = some (.getfield 221, 3) := by decide +kernel
theorem c_243_15 : cd 243 15 = some (.iconst (1), 1) := by decide +kernel
theorem c_243_16 : cd 243 16 = some (.isub, 1) := by decide +kernel
theorem c_243_17 : cd 243 17 = some (.iaload, 1) := by decide +kernel
theorem c_243_18 : cd 243 18 = some (.bipush (8), 2) := by decide +kernel
theorem c_243_20 : cd 243 20 = some (.if_icmp .eq (23), 3) := by decide +kernel
theorem c_243_23 : cd 243 23 = some (.iload_n 1, 1) := by decide +kernel
theorem c_243_24 : cd 243 24 = some (.ifCond .eq (47), 3) := by decide +kernel
theorem c_243_27 : cd 243 27 = some (.aload_n 0, 1) := by decide +kernel
theorem c_243_28 : cd 243 28 = some (.getfield 41, 3) := by decide +kernel
theorem c_243_31 : cd 243 31 = some (.aload_n 0, 1) := by decide +kernel
theorem c_243_32 : cd 243 32 = some (.getfield 221, 3) := by decide +kernel
theorem c_243_35 : cd 243 35 = some (.iconst (1), 1) := by decide +kernel
theorem c_243_36 : cd 243 36 = some (.isub, 1) := by decide +kernel
theorem c_243_37 : cd 243 37 = some (.iaload, 1) := by decide +kernel
theorem c_243_38 : cd 243 38 = some (.bipush (9), 2) := by decide +kernel
theorem c_243_40 : cd 243 40 = some (.if_icmp .ne (31), 3) := by decide +kernel
theorem c_243_43 : cd 243 43 = some (.aload_n 0, 1) := by decide +kernel
theorem c_243_44 : cd 243 44 = some (.dup, 1) := by decide +kernel
theorem c_243_45 : cd 243 45 = some (.getfield 221, 3) := by decide +kernel
theorem c_243_48 : cd 243 48 = some (.iconst (1), 1) := by decide +kernel
theorem c_243_49 : cd 243 49 = some (.isub, 1) := by decide +kernel
theorem c_243_50 : cd 243 50 = some (.putfield 221, 3) := by decide +kernel
theorem c_243_53 : cd 243 53 = some (.aload_n 0, 1) := by decide +kernel
theorem c_243_54 : cd 243 54 = some (.aload_n 0, 1) := by decide +kernel
theorem c_243_55 : cd 243 55 = some (.getfield 41, 3) := by decide +kernel
theorem c_243_58 : cd 243 58 = some (.aload_n 0, 1) := by decide +kernel
theorem c_243_59 : cd 243 59 = some (.getfield 221, 3) := by decide +kernel
theorem c_243_62 : cd 243 62 = some (.iaload, 1) := by decide +kernel
theorem c_243_63 : cd 243 63 = some (.iconst (0), 1) := by decide +kernel
theorem c_243_64 : cd 243 64 = some (.iconst (0), 1) := by decide +kernel
theorem c_243_65 : cd 243 65 = some (.invokevirtual 215, 3) := by decide +kernel
theorem c_243_68 : cd 243 68 = some (.goto (-68), 3) := by decide +kernel
theorem c_243_71 : cd 243 71 = some (.return_, 1) := by decide +kernel
def f_Mo_doAll_43 (k0 : Nat → Int32 → Mm → Option (Mm)) (x0 : Nat) (x1 : Int32) (σ : Mm) : Option Mm := nmM (up2 σ x0 31 ((σ x0 31) - (1 : Int32))) fun σ50 => if inbB (σ50 x0 31) 100 = true then (f_Mo_emit x0 (σ50 (rfT x0 30) (ix (σ50 x0 31))) (0 : Int32) (0 : Int32) σ50).bind fun v65 => k0 x0 x1 v65 else none
set_option maxRecDepth 100000 in
set_option maxHeartbeats 4000000 in
theorem t_Mo_doAll_43 {X : Xt} {S : Sh} (hS : ShOK S) {d : Nat} (hd : 1 ≤ d + 1) {k0 : Nat → Int32 → Mm → Option (Mm)} (hk0 : ∀ (x0 : Nat) (x1 : Int32) (σ : Mm) (h_x0 : tgT x0 = 12), Rf X S emV (k0 x0 x1 σ) (d + 1) 243 0 [.ref x0, .int x1] [] σ) (x0 : Nat) (x1 : Int32) (σ : Mm) (h_x0 : tgT x0 = 12) : Rf X S emV (f_Mo_doAll_43 k0 x0 x1 σ) (d + 1) 243 43 [.ref x0, .int x1] [] σ := by
  unfold f_Mo_doAll_43
  refine rf_ald (i := 0) (Or.inr ⟨0, rfl, rfl, rfl⟩) c_243_43 rfl ?_
  refine rf_dup c_243_44 rfl ?_
  refine rf_geti hS c_243_45 rfl fl_12_221 rfl h_x0 ?_
  refine rf_iconst c_243_48 ki_1 ?_
  refine rf_isub c_243_49 ?_
  refine rf_puti hS c_243_50 rfl fl_12_221 rfl rfl rfl rfl h_x0 ?_
  refine rf_nm (fun σ50 => ?_)
  refine rf_ald (i := 0) (Or.inr ⟨0, rfl, rfl, rfl⟩) c_243_53 rfl ?_
  refine rf_ald (i := 0) (Or.inr ⟨0, rfl, rfl, rfl⟩) c_243_54 rfl ?_
  refine rf_getr hS c_243_55 rfl fl_12_41 rfl h_x0 ?_
  refine rf_ald (i := 0) (Or.inr ⟨0, rfl, rfl, rfl⟩) c_243_58 rfl ?_
  refine rf_geti hS c_243_59 rfl fl_12_221 rfl h_x0 ?_
  refine rf_ite (fun hb62 => ?_) (fun _ => rf_none)
  refine rf_iald hS c_243_62 (tf_12_30 h_x0) (lf_12_30 h_x0) hb62 ?_
  refine rf_iconst c_243_63 ki_0 ?_
  refine rf_iconst c_243_64 ki_0 ?_
  refine rf_callV (as := [.ref x0, .int (σ50 (rfT x0 30) (ix (σ50 x0 31))), .int (0 : Int32), .int (0 : Int32)]) (kd := 1) c_243_65 rfl (by decide) rfl ml_12_215 (by decide) rfl (rcv_1 hS rfl rfl h_x0 (by decide)) (Nat.zero_le _) rfl rfl (t_Mo_emit hS (by omega) x0 (σ50 (rfT x0 30) (ix (σ50 x0 31))) (0 : Int32) (0 : Int32) σ50 h_x0) (fun v65 => ?_)
  refine rf_goto c_243_68 rfl ?_
  exact hk0 x0 x1 v65 h_x0
def f_Mo_doAll_71 (σ : Mm) : Option Mm := some σ
set_option maxRecDepth 100000 in
set_option maxHeartbeats 4000000 in
theorem t_Mo_doAll_71 {X : Xt} {S : Sh} (hS : ShOK S) {d : Nat} (hd : 1 ≤ d + 1) (u0 : Value) (u1 : Value) (σ : Mm) : Rf X S emV (f_Mo_doAll_71 σ) (d + 1) 243 71 [u0, u1] [] σ := by
  unfold f_Mo_doAll_71
  exact rf_vret c_243_71 rfl rfl
def f_Mo_doAll_0 : Nat → Nat → Int32 → Mm → Option Mm
  | 0, _, _, _ => none
  | n + 1, x0, x1, σ => (if (σ x0 31) ≤ 0 then (f_Mo_doAll_71  σ) else (if inbB ((σ x0 31) - (1 : Int32)) 100 = true then (if (σ (rfT x0 30) (ix ((σ x0 31) - (1 : Int32)))) = (8 : Int32) then (f_Mo_doAll_43 (f_Mo_doAll_0  n) x0 x1 σ) else (if x1 = 0 then (f_Mo_doAll_71  σ) else (if inbB ((σ x0 31) - (1 : Int32)) 100 = true then (if ¬ (σ (rfT x0 30) (ix ((σ x0 31) - (1 : Int32)))) = (9 : Int32) then (f_Mo_doAll_71  σ) else (f_Mo_doAll_43 (f_Mo_doAll_0  n) x0 x1 σ)) else none))) else none))
set_option maxRecDepth 100000 in
set_option maxHeartbeats 4000000 in
theorem t_Mo_doAll_0 {X : Xt} {S : Sh} (hS : ShOK S) {d : Nat} (hd : 1 ≤ d + 1) : ∀ (n : Nat) (x0 : Nat) (x1 : Int32) (σ : Mm) (h_x0 : tgT x0 = 12), Rf X S emV (f_Mo_doAll_0 n x0 x1 σ) (d + 1) 243 0 [.ref x0, .int x1] [] σ := by
  intro n
  induction n with
  | zero => intro x0 x1 σ h_x0; exact rf_none
  | succ n ih =>
    intro x0 x1 σ h_x0
    rw [f_Mo_doAll_0]
    refine rf_ald (i := 0) (Or.inr ⟨0, rfl, rfl, rfl⟩) c_243_0 rfl ?_
    refine rf_geti hS c_243_1 rfl fl_12_221 rfl h_x0 ?_
    refine rf_ite (fun hc4 => ?_) (fun hc4 => ?_)
    · refine rf_b1t c_243_4 rfl (decide_eq_true hc4) ?_
      exact t_Mo_doAll_71 hS hd  (.ref x0) (.int x1) σ
    · refine rf_b1f c_243_4 rfl (decide_eq_false hc4) ?_
      refine rf_ald (i := 0) (Or.inr ⟨0, rfl, rfl, rfl⟩) c_243_7 rfl ?_
      refine rf_getr hS c_243_8 rfl fl_12_41 rfl h_x0 ?_
      refine rf_ald (i := 0) (Or.inr ⟨0, rfl, rfl, rfl⟩) c_243_11 rfl ?_
      refine rf_geti hS c_243_12 rfl fl_12_221 rfl h_x0 ?_
      refine rf_iconst c_243_15 ki_1 ?_
      refine rf_isub c_243_16 ?_
      refine rf_ite (fun hb17 => ?_) (fun _ => rf_none)
      refine rf_iald hS c_243_17 (tf_12_30 h_x0) (lf_12_30 h_x0) hb17 ?_
      refine rf_bipush c_243_18 kb_8 ?_
      refine rf_ite (fun hc20 => ?_) (fun hc20 => ?_)
      · refine rf_b2t c_243_20 rfl (decide_eq_true hc20) ?_
        exact t_Mo_doAll_43 hS hd ih x0 x1 σ h_x0
      · refine rf_b2f c_243_20 rfl (decide_eq_false hc20) ?_
        refine rf_ild (i := 1) (Or.inr ⟨1, rfl, rfl, rfl⟩) c_243_23 rfl ?_
        refine rf_ite (fun hc24 => ?_) (fun hc24 => ?_)
        · refine rf_b1t c_243_24 rfl (decide_eq_true hc24) ?_
          exact t_Mo_doAll_71 hS hd  (.ref x0) (.int x1) σ
        · refine rf_b1f c_243_24 rfl (decide_eq_false hc24) ?_
          refine rf_ald (i := 0) (Or.inr ⟨0, rfl, rfl, rfl⟩) c_243_27 rfl ?_
          refine rf_getr hS c_243_28 rfl fl_12_41 rfl h_x0 ?_
          refine rf_ald (i := 0) (Or.inr ⟨0, rfl, rfl, rfl⟩) c_243_31 rfl ?_
          refine rf_geti hS c_243_32 rfl fl_12_221 rfl h_x0 ?_
          refine rf_iconst c_243_35 ki_1 ?_
          refine rf_isub c_243_36 ?_
          refine rf_ite (fun hb37 => ?_) (fun _ => rf_none)
          refine rf_iald hS c_243_37 (tf_12_30 h_x0) (lf_12_30 h_x0) hb37 ?_
          refine rf_bipush c_243_38 kb_9 ?_
          refine rf_ite (fun hc40 => ?_) (fun hc40 => ?_)
          · refine rf_b2t c_243_40 rfl (decide_eq_true hc40) ?_
            exact t_Mo_doAll_71 hS hd  (.ref x0) (.int x1) σ
          · refine rf_b2f c_243_40 rfl (decide_eq_false hc40) ?_
            exact t_Mo_doAll_43 hS hd ih x0 x1 σ h_x0
def f_Mo_doAll (x0 : Nat) (x1 : Int32) (σ : Mm) : Option (Mm) := f_Mo_doAll_0  NN x0 x1 σ
theorem t_Mo_doAll {X : Xt} {S : Sh} (hS : ShOK S) {d : Nat} (hd : 1 ≤ d) (x0 : Nat) (x1 : Int32) (σ : Mm) (h_x0 : tgT x0 = 12) : Rf X S emV (f_Mo_doAll x0 x1 σ) d 243 0 [.ref x0, .int x1] [] σ := by
  obtain ⟨d1, rfl⟩ : ∃ d1, d = d1 + 1 := ⟨d - 1, by omega⟩
  exact t_Mo_doAll_0 hS hd  NN x0 x1 σ h_x0
theorem c_244_0 : cd 244 0 = some (.aload_n 0, 1) := by decide +kernel
theorem c_244_1 : cd 244 1 = some (.getfield 227, 3) := by decide +kernel
theorem c_244_4 : cd 244 4 = some (.ifCond .ne (27), 3) := by decide +kernel
theorem c_244_7 : cd 244 7 = some (.aload_n 0, 1) := by decide +kernel
theorem c_244_8 : cd 244 8 = some (.getfield 171, 3) := by decide +kernel
theorem c_244_11 : cd 244 11 = some (.ifCond .eq (16), 3) := by decide +kernel
theorem c_244_14 : cd 244 14 = some (.iload_n 1, 1) := by decide +kernel
theorem c_244_15 : cd 244 15 = some (.ifCond .ne (16), 3) := by decide +kernel
theorem c_244_18 : cd 244 18 = some (.aload_n 0, 1) := by decide +kernel
theorem c_244_19 : cd 244 19 = some (.bipush (7), 2) := by decide +kernel
theorem c_244_21 : cd 244 21 = some (.invokevirtual 230, 3) := by decide +kernel
theorem c_244_24 : cd 244 24 = some (.ifCond .eq (7), 3) := by decide +kernel
theorem c_244_27 : cd 244 27 = some (.iconst (1), 1) := by decide +kernel
theorem c_244_28 : cd 244 28 = some (.goto (4), 3) := by decide +kernel
theorem c_244_31 : cd 244 31 = some (.iconst (0), 1) := by decide +kernel
theorem c_244_32 : cd 244 32 = some (.ireturn, 1) := by decide +kernel
def f_Mo_isOver_32 (σ : Mm) (y0 : Int32) : Option Int32 := if zB y0 = true then some y0 else none
set_option maxRecDepth 100000 in
set_option maxHeartbeats 4000000 in
theorem t_Mo_isOver_32 {X : Xt} {S : Sh} (hS : ShOK S) {d : Nat} (hd : 1 ≤ d + 1) (σ : Mm) (y0 : Int32) (u0 : Value) (u1 : Value) : Rf X S (emI σ) (f_Mo_isOver_32 σ y0) (d + 1) 244 32 [u0, u1] [.int y0] σ := by
  unfold f_Mo_isOver_32
  refine rf_ite (fun hq32 => ?_) (fun _ => rf_none)
  exact rf_ret c_244_32 rfl (zB_n hq32) rfl rfl
def f_Mo_isOver_27 (σ : Mm) : Option Int32 := f_Mo_isOver_32 σ (1 : Int32)
set_option maxRecDepth 100000 in
set_option maxHeartbeats 4000000 in
theorem t_Mo_isOver_27 {X : Xt} {S : Sh} (hS : ShOK S) {d : Nat} (hd : 1 ≤ d + 1) (σ : Mm) (u0 : Value) (u1 : Value) : Rf X S (emI σ) (f_Mo_isOver_27 σ) (d + 1) 244 27 [u0, u1] [] σ := by
  unfold f_Mo_isOver_27
  refine rf_iconst c_244_27 ki_1 ?_
  refine rf_goto c_244_28 rfl ?_
  exact t_Mo_isOver_32 hS hd σ  (1 : Int32) (u0) (u1)
def f_Mo_isOver_31 (σ : Mm) : Option Int32 := f_Mo_isOver_32 σ (0 : Int32)
set_option maxRecDepth 100000 in
set_option maxHeartbeats 4000000 in
theorem t_Mo_isOver_31 {X : Xt} {S : Sh} (hS : ShOK S) {d : Nat} (hd : 1 ≤ d + 1) (σ : Mm) (u0 : Value) (u1 : Value) : Rf X S (emI σ) (f_Mo_isOver_31 σ) (d + 1) 244 31 [u0, u1] [] σ := by
  unfold f_Mo_isOver_31
  refine rf_iconst c_244_31 ki_0 ?_
  exact t_Mo_isOver_32 hS hd σ  (0 : Int32) (u0) (u1)
def f_Mo_isOver (σ : Mm) (x0 : Nat) (x1 : Int32) : Option Int32 := (if ¬ (σ x0 32) = 0 then (f_Mo_isOver_31 σ ) else (if (σ x0 16) = 0 then (f_Mo_isOver_27 σ ) else (if ¬ x1 = 0 then (f_Mo_isOver_31 σ ) else ((f_Mo_isWord σ x0 (7 : Int32)).bind fun v21 => (if v21 = 0 then (f_Mo_isOver_31 σ ) else (f_Mo_isOver_27 σ ))))))
set_option maxRecDepth 100000 in
set_option maxHeartbeats 4000000 in
theorem t_Mo_isOver_e {X : Xt} {S : Sh} (hS : ShOK S) {d : Nat} (hd : 1 ≤ d + 1) (σ : Mm) (x0 : Nat) (x1 : Int32) (h_x0 : tgT x0 = 12) : Rf X S (emI σ) (f_Mo_isOver σ x0 x1) (d + 1) 244 0 [.ref x0, .int x1] [] σ := by
  unfold f_Mo_isOver
  refine rf_ald (i := 0) (Or.inr ⟨0, rfl, rfl, rfl⟩) c_244_0 rfl ?_
  refine rf_geti hS c_244_1 rfl fl_12_227 rfl h_x0 ?_
  refine rf_ite (fun hc4 => ?_) (fun hc4 => ?_)
  · refine rf_b1t c_244_4 rfl (decide_eq_true hc4) ?_
    exact t_Mo_isOver_31 hS hd σ  (.ref x0) (.int x1)
  · refine rf_b1f c_244_4 rfl (decide_eq_false hc4) ?_
    refine rf_ald (i := 0) (Or.inr ⟨0, rfl, rfl, rfl⟩) c_244_7 rfl ?_
    refine rf_geti hS c_244_8 rfl fl_12_171 rfl h_x0 ?_
    refine rf_ite (fun hc11 => ?_) (fun hc11 => ?_)
    · refine rf_b1t c_244_11 rfl (decide_eq_true hc11) ?_
      exact t_Mo_isOver_27 hS hd σ  (.ref x0) (.int x1)
    · refine rf_b1f c_244_11 rfl (decide_eq_false hc11) ?_
      refine rf_ild (i := 1) (Or.inr ⟨1, rfl, rfl, rfl⟩) c_244_14 rfl ?_
      refine rf_ite (fun hc15 => ?_) (fun hc15 => ?_)
      · refine rf_b1t c_244_15 rfl (decide_eq_true hc15) ?_
        exact t_Mo_isOver_31 hS hd σ  (.ref x0) (.int x1)
      · refine rf_b1f c_244_15 rfl (decide_eq_false hc15) ?_
        refine rf_ald (i := 0) (Or.inr ⟨0, rfl, rfl, rfl⟩) c_244_18 rfl ?_
        refine rf_bipush c_244_19 kb_7 ?_
        refine rf_callI (as := [.ref x0, .int (7 : Int32)]) (kd := 1) c_244_21 rfl (by decide) rfl ml_12_230 (by decide) rfl (rcv_1 hS rfl rfl h_x0 (by decide)) (Nat.zero_le _) rfl rfl (t_Mo_isWord hS (by omega) σ x0 (7 : Int32) h_x0) (fun v21 => ?_)
        refine rf_ite (fun hc24 => ?_) (fun hc24 => ?_)
        · refine rf_b1t c_244_24 rfl (decide_eq_true hc24) ?_
          exact t_Mo_isOver_31 hS hd σ  (.ref x0) (.int x1)
        · refine rf_b1f c_244_24 rfl (decide_eq_false hc24) ?_
          exact t_Mo_isOver_27 hS hd σ  (.ref x0) (.int x1)
theorem t_Mo_isOver {X : Xt} {S : Sh} (hS : ShOK S) {d : Nat} (hd : 1 ≤ d) (σ : Mm) (x0 : Nat) (x1 : Int32) (h_x0 : tgT x0 = 12) : Rf X S (emI σ) (f_Mo_isOver σ x0 x1) d 244 0 [.ref x0, .int x1] [] σ := by
  obtain ⟨d1, rfl⟩ : ∃ d1, d = d1 + 1 := ⟨d - 1, by omega⟩
  exact t_Mo_isOver_e hS hd σ x0 x1 h_x0
theorem c_245_0 : cd 245 0 = some (.aload_n 0, 1) := by decide +kernel
theorem c_245_1 : cd 245 1 = some (.iload_n 1, 1) := by decide +kernel
theorem c_245_2 : cd 245 2 = some (.ifCond .eq (9), 3) := by decide +kernel
theorem c_245_5 : cd 245 5 = some (.sipush (144), 3) := by decide +kernel
theorem c_245_8 : cd 245 8 = some (.goto (4), 3) := by decide +kernel
theorem c_245_11 : cd 245 11 = some (.iconst (0), 1) := by decide +kernel
theorem c_245_12 : cd 245 12 = some (.putfield 198, 3) := by decide +kernel
theorem c_245_15 : cd 245 15 = some (.aload_n 0, 1) := by decide +kernel
theorem c_245_16 : cd 245 16 = some (.iconst (0), 1) := by decide +kernel
theorem c_245_17 : cd 245 17 = some (.putfield 201, 3) := by decide +kernel
theorem c_245_20 : cd 245 20 = some (.aload_n 0, 1) := by decide +kernel
theorem c_245_21 : cd 245 21 = some (.iconst (0), 1) := by decide +kernel
theorem c_245_22 : cd 245 22 = some (.putfield 221, 3) := by decide +kernel
theorem c_245_25 : cd 245 25 = some (.aload_n 0, 1) := by decide +kernel
theorem c_245_26 : cd 245 26 = some (.iconst (0), 1) := by decide +kernel
theorem c_245_27 : cd 245 27 = some (.putfield 227, 3) := by decide +kernel
theorem c_245_30 : cd 245 30 = some (.aload_n 0, 1) := by decide +kernel
theorem c_245_31 : cd 245 31 = some (.iconst (0), 1) := by decide +kernel
theorem c_245_32 : cd 245 32 = some (.putfield 224, 3) := by decide +kernel
theorem c_245_35 : cd 245 35 = some (.iconst (1), 1) := by decide +kernel
theorem c_245_36 : cd 245 36 = some (.istore_n 2, 1) := by decide +kernel
theorem c_245_37 : cd 245 37 = some (.iload_n 2, 1) := by decide +kernel
theorem c_245_38 : cd 245 38 = some (.ifCond .ne (11), 3) := by decide +kernel
theorem c_245_41 : cd 245 41 = some (.aload_n 0, 1) := by decide +kernel
theorem c_245_42 : cd 245 42 = some (.iload_n 1, 1) := by decide +kernel
theorem c_245_43 : cd 245 43 = some (.invokevirtual 233, 3) := by decide +kernel
theorem c_245_46 : cd 245 46 = some (.ifCond .ne (214), 3) := by decide +kernel
theorem c_245_49 : cd 245 49 = some (.iload_n 2, 1) := by decide +kernel
theorem c_245_50 : cd 245 50 = some (.ifCond .eq (103), 3) := by decide +kernel
theorem c_245_53 : cd 245 53 = some (.aload_n 0, 1) := by decide +kernel
theorem c_245_54 : cd 245 54 = some (.bipush (10), 2) := by decide +kernel
theorem c_245_56 : cd 245 56 = some (.invokevirtual 230, 3) := by decide +kernel
theorem c_245_59 : cd 245 59 = some (.ifCond .eq (35), 3) := by decide +kernel
theorem c_245_62 : cd 245 62 = some (.aload_n 0, 1) := by decide +kernel
theorem c_245_63 : cd 245 63 = some (.getfield 224, 3) := by decide +kernel
theorem c_245_66 : cd 245 66 = some (.bipush (8), 2) := by decide +kernel
theorem c_245_68 : cd 245 68 = some (.if_icmp .ge (26), 3) := by decide +kernel
theorem c_245_71 : cd 245 71 = some (.aload_n 0, 1) := by decide +kernel
theorem c_245_72 : cd 245 72 = some (.bipush (10), 2) := by decide +kernel
theorem c_245_74 : cd 245 74 = some (.invokevirtual 237, 3) := by decide +kernel
theorem c_245_77 : cd 245 77 = some (.aload_n 0, 1) := by decide +kernel
theorem c_245_78 : cd 245 78 = some (.dup, 1) := by decide +kernel
theorem c_245_79 : cd 245 79 = some (.getfield 224, 3) := by decide +kernel
theorem c_245_82 : cd 245 82 = some (.iconst (1), 1) := by decide +kernel
theorem c_245_83 : cd 245 83 = some (.iadd, 1) := by decide +kernel
theorem c_245_84 : cd 245 84 = some (.putfield 224, 3) := by decide +kernel
theorem c_245_87 : cd 245 87 = some (.aload_n 0, 1) := by decide +kernel
theorem c_245_88 : cd 245 88 = some (.invokevirtual 195, 3) := by decide +kernel
theorem c_245_91 : cd 245 91 = some (.goto (-54), 3) := by decide +kernel
theorem c_245_94 : cd 245 94 = some (.aload_n 0, 1) := by decide +kernel
theorem c_245_95 : cd 245 95 = some (.bipush (40), 2) := by decide +kernel
theorem c_245_97 : cd 245 97 = some (.invokevirtual 204, 3) := by decide +kernel
theorem c_245_100 : cd 245 100 = some (.ifCond .eq (35), 3) := by decide +kernel
theorem c_245_103 : cd 245 103 = some (.aload_n 0, 1) := by decide +kernel
theorem c_245_104 : cd 245 104 = some (.getfield 227, 3) := by decide +kernel
theorem c_245_107 : cd 245 107 = some (.bipush (8), 2) := by decide +kernel
theorem c_245_109 : cd 245 109 = some (.if_icmp .ge (26), 3) := by decide +kernel
theorem c_245_112 : cd 245 112 = some (.aload_n 0, 1) := by decide +kernel
theorem c_245_113 : cd 245 113 = some (.bipush (17), 2) := by decide +kernel
theorem c_245_115 : cd 245 115 = some (.invokevirtual 237, 3) := by decide +kernel
theorem c_245_118 : cd 245 118 = some (.aload_n 0, 1) := by decide +kernel
theorem c_245_119 : cd 245 119 = some (.dup, 1) := by decide +kernel
theorem c_245_120 : cd 245 120 = some (.getfield 227, 3) := by decide +kernel
theorem c_245_123 : cd 245 123 = some (.iconst (1), 1) := by decide +kernel
theorem c_245_124 : cd 245 124 = some (.iadd, 1) := by decide +kernel
theorem c_245_125 : cd 245 125 = some (.putfield 227, 3) := by decide +kernel
theorem c_245_128 : cd 245 128 = some (.aload_n 0, 1) := by decide +kernel
theorem c_245_129 : cd 245 129 = some (.invokevirtual 195, 3) := by decide +kernel
theorem c_245_132 : cd 245 132 = some (.goto (-95), 3) := by decide +kernel
theorem c_245_135 : cd 245 135 = some (.aload_n 0, 1) := by decide +kernel
theorem c_245_136 : cd 245 136 = some (.invokevirtual 240, 3) := by decide +kernel
theorem c_245_139 : cd 245 139 = some (.ifCond .eq (12), 3) := by decide +kernel
theorem c_245_142 : cd 245 142 = some (.aload_n 0, 1) := by decide +kernel
theorem c_245_143 : cd 245 143 = some (.invokevirtual 243, 3) := by decide +kernel
theorem c_245_146 : cd 245 146 = some (.iconst (0), 1) := by decide +kernel
theorem c_245_147 : cd 245 147 = some (.istore_n 2, 1) := by decide +kernel
theorem c_245_148 : cd 245 148 = some (.goto (-111), 3) := by decide +kernel
theorem c_245_151 : cd 245 151 = some (.iconst (0), 1) := by decide +kernel
theorem c_245_152 : cd 245 152 = some (.ireturn, 1) := by decide +kernel
theorem c_245_153 : cd 245 153 = some (.aload_n 0, 1) := by decide +kernel
theorem c_245_154 : cd 245 154 = some (.bipush (8), 2) := by decide +kernel
theorem c_245_156 : cd 245 156 = some (.invokevirtual 230, 3) := by decide +kernel
theorem c_245_159 : cd 245 159 = some (.ifCond .ne (12), 3) := by decide +kernel
theorem c_245_162 : cd 245 162 = some (.aload_n 0, 1) := by decide +kernel
theorem c_245_163 : cd 245 163 = some (.bipush (9), 2) := by decide +kernel
theorem c_245_165 : cd 245 165 = some (.invokevirtual 230, 3) := by decide +kernel
theorem c_245_168 : cd 245 168 = some (.ifCond .eq (38), 3) := by decide +kernel
theorem c_245_171 : cd 245 171 = some (.aload_n 0, 1) := by decide +kernel
theorem c_245_172 : cd 245 172 = some (.aload_n 0, 1) := by decide +kernel
theorem c_245_173 : cd 245 173 = some (.getfield 177, 3) := by decide +kernel
theorem c_245_176 : cd 245 176 = some (.bipush (9), 2) := by decide +kernel
theorem c_245_178 : cd 245 178 = some (.if_icmp .ne (7), 3) := by decide +kernel
theorem c_245_181 : cd 245 181 = some (.iconst (1), 1) := by decide +kernel
theorem c_245_182 : cd 245 182 = some (.goto (4), 3) := by decide +kernel
theorem c_245_185 : cd 245 185 = some (.iconst (0), 1) := by decide +kernel
theorem c_245_186 : cd 245 186 = some (.invokevirtual 246, 3) := by decide +kernel
theorem c_245_189 : cd 245 189 = some (.aload_n 0, 1) := by decide +kernel
theorem c_245_190 : cd 245 190 = some (.aload_n 0, 1) := by decide +kernel
theorem c_245_191 : cd 245 191 = some (.getfield 177, 3) := by decide +kernel
theorem c_245_194 : cd 245 194 = some (.invokevirtual 237, 3) := by decide +kernel
theorem c_245_197 : cd 245 197 = some (.iconst (1), 1) := by decide +kernel
theorem c_245_198 : cd 245 198 = some (.istore_n 2, 1) := by decide +kernel
theorem c_245_199 : cd 245 199 = some (.aload_n 0, 1) := by decide +kernel
theorem c_245_200 : cd 245 200 = some (.invokevirtual 195, 3) := by decide +kernel
theorem c_245_203 : cd 245 203 = some (.goto (-166), 3) := by decide +kernel
theorem c_245_206 : cd 245 206 = some (.aload_n 0, 1) := by decide +kernel
theorem c_245_207 : cd 245 207 = some (.bipush (41), 2) := by decide +kernel
theorem c_245_209 : cd 245 209 = some (.invokevirtual 204, 3) := by decide +kernel
theorem c_245_212 : cd 245 212 = some (.ifCond .eq (46), 3) := by decide +kernel
theorem c_245_215 : cd 245 215 = some (.aload_n 0, 1) := by decide +kernel
theorem c_245_216 : cd 245 216 = some (.getfield 227, 3) := by decide +kernel
theorem c_245_219 : cd 245 219 = some (.ifCond .le (39), 3) := by decide +kernel
theorem c_245_222 : cd 245 222 = some (.aload_n 0, 1) := by decide +kernel
theorem c_245_223 : cd 245 223 = some (.iconst (1), 1) := by decide +kernel
theorem c_245_224 : cd 245 224 = some (.invokevirtual 246, 3) := by decide +kernel
theorem c_245_227 : cd 245 227 = some (.aload_n 0, 1) := by decide +kernel
theorem c_245_228 : cd 245 228 = some (.dup, 1) := by decide +kernel
theorem c_245_229 : cd 245 229 = some (.getfield 221, 3) := by decide +kernel
theorem c_245_232 : cd 245 232 = some (.iconst (1), 1) := by decide +kernel
theorem c_245_233 : cd 245 233 = some (.isub, 1) := by decide +kernel
theorem c_245_234 : cd 245 234 = some (.putfield 221, 3) := by decide +kernel
theorem c_245_237 : cd 245 237 = some (.aload_n 0, 1) := by decide +kernel
theorem c_245_238 : cd 245 238 = some (.dup, 1) := by decide +kernel
theorem c_245_239 : cd 245 239 = some (.getfield 227, 3) := by decide +kernel
theorem c_245_242 : cd 245 242 = some (.iconst (1), 1) := by decide +kernel
theorem c_245_243 : cd 245 243 = some (.isub, 1) := by decide +kernel
theorem c_245_244 : cd 245 244 = some (.putfield 227, 3) := by decide +kernel
theorem c_245_247 : cd 245 247 = some (.aload_n 0, 1) := by decide +kernel
theorem c_245_248 : cd 245 248 = some (.invokevirtual 243, 3) := by decide +kernel
theorem c_245_251 : cd 245 251 = some (.aload_n 0, 1) := by decide +kernel
theorem c_245_252 : cd 245 252 = some (.invokevirtual 195, 3) := by decide +kernel
theorem c_245_255 : cd 245 255 = some (.goto (-218), 3) := by decide +kernel
theorem c_245_258 : cd 245 258 = some (.iconst (0), 1) := by decide +kernel
theorem c_245_259 : cd 245 259 = some (.ireturn, 1) := by decide +kernel
theorem c_245_260 : cd 245 260 = some (.aload_n 0, 1) := by decide +kernel
theorem c_245_261 : cd 245 261 = some (.iconst (1), 1) := by decide +kernel
theorem c_245_262 : cd 245 262 = some (.invokevirtual 246, 3) := by decide +kernel
theorem c_245_265 : cd 245 265 = some (.iconst (1), 1) := by decide +kernel
theorem c_245_266 : cd 245 266 = some (.ireturn, 1) := by decide +kernel
def f_Mo_takesE_135 (k37 : Nat → Int32 → Int32 → Mm → Option (Int32 × Mm)) (x0 : Nat) (x1 : Int32) (σ : Mm) : Option (Int32 × Mm) := (f_Mo_takesAtom x0 σ).bind fun v136 => (if v136.1 = 0 then (some ((0 : Int32), v136.2)) else ((f_Mo_endNots x0 v136.2).bind fun v143 => k37 x0 x1 (0 : Int32) v143))
set_option maxRecDepth 100000 in
set_option maxHeartbeats 4000000 in
theorem t_Mo_takesE_135 {X : Xt} {S : Sh} (hS : ShOK S) {d : Nat} (hd : 5 ≤ d + 1) {k37 : Nat → Int32 → Int32 → Mm → Option (Int32 × Mm)} (hk37 : ∀ (x0 : Nat) (x1 : Int32) (x2 : Int32) (σ : Mm) (h_x0 : tgT x0 = 12), Rf X S emM (k37 x0 x1 x2 σ) (d + 1) 245 37 [.ref x0, .int x1, .int x2] [] σ) (x0 : Nat) (x1 : Int32) (u2 : Value) (σ : Mm) (h_x0 : tgT x0 = 12) : Rf X S emM (f_Mo_takesE_135 k37 x0 x1 σ) (d + 1) 245 135 [.ref x0, .int x1, u2] [] σ := by
  unfold f_Mo_takesE_135
  refine rf_ald (i := 0) (Or.inr ⟨0, rfl, rfl, rfl⟩) c_245_135 rfl ?_
  refine rf_callM (as := [.ref x0]) (kd := 1) c_245_136 rfl (by decide) rfl ml_12_240 (by decide) rfl (rcv_1 hS rfl rfl h_x0 (by decide)) (Nat.zero_le _) rfl rfl (t_Mo_takesAtom hS (by omega) x0 σ h_x0) (fun v136 => ?_)
  refine rf_ite (fun hc139 => ?_) (fun hc139 => ?_)
  · refine rf_b1t c_245_139 rfl (decide_eq_true hc139) ?_
    refine rf_iconst c_245_151 ki_0 ?_
    exact rf_ret c_245_152 rfl (by decide) rfl rfl
  · refine rf_b1f c_245_139 rfl (decide_eq_false hc139) ?_
    refine rf_ald (i := 0) (Or.inr ⟨0, rfl, rfl, rfl⟩) c_245_142 rfl ?_
    refine rf_callV (as := [.ref x0]) (kd := 1) c_245_143 rfl (by decide) rfl ml_12_243 (by decide) rfl (rcv_1 hS rfl rfl h_x0 (by decide)) (Nat.zero_le _) rfl rfl (t_Mo_endNots hS (by omega) x0 v136.2 h_x0) (fun v143 => ?_)
    refine rf_iconst c_245_146 ki_0 ?_
    refine rf_ist (i := 2) (Or.inr ⟨2, rfl, rfl, rfl⟩) c_245_147 (Nat.le_of_ble_eq_true rfl) rfl ?_
    refine rf_goto c_245_148 rfl ?_
    exact hk37 x0 x1 (0 : Int32) v143 h_x0
def f_Mo_takesE_94 (k37 : Nat → Int32 → Int32 → Mm → Option (Int32 × Mm)) (x0 : Nat) (x1 : Int32) (x2 : Int32) (σ : Mm) : Option (Int32 × Mm) := (f_Mo_isSign σ x0 (40 : Int32)).bind fun v97 => (if v97 = 0 then (f_Mo_takesE_135 k37 x0 x1 σ) else (if (8 : Int32) ≤ (σ x0 32) then (f_Mo_takesE_135 k37 x0 x1 σ) else ((f_Mo_await x0 (17 : Int32) σ).bind fun v115 => nmM (up2 v115 x0 32 ((v115 x0 32) + (1 : Int32))) fun σ125 => (f_Mo_go x0 σ125).bind fun v129 => k37 x0 x1 x2 v129)))
set_option maxRecDepth 100000 in
set_option maxHeartbeats 4000000 in
theorem t_Mo_takesE_94 {X : Xt} {S : Sh} (hS : ShOK S) {d : Nat} (hd : 5 ≤ d + 1) {k37 : Nat → Int32 → Int32 → Mm → Option (Int32 × Mm)} (hk37 : ∀ (x0 : Nat) (x1 : Int32) (x2 : Int32) (σ : Mm) (h_x0 : tgT x0 = 12), Rf X S emM (k37 x0 x1 x2 σ) (d + 1) 245 37 [.ref x0, .int x1, .int x2] [] σ) (x0 : Nat) (x1 : Int32) (x2 : Int32) (σ : Mm) (h_x0 : tgT x0 = 12) : Rf X S emM (f_Mo_takesE_94 k37 x0 x1 x2 σ) (d + 1) 245 94 [.ref x0, .int x1, .int x2] [] σ := by
  unfold f_Mo_takesE_94
  refine rf_ald (i := 0) (Or.inr ⟨0, rfl, rfl, rfl⟩) c_245_94 rfl ?_
  refine rf_bipush c_245_95 kb_40 ?_
  refine rf_callI (as := [.ref x0, .int (40 : Int32)]) (kd := 1) c_245_97 rfl (by decide) rfl ml_12_204 (by decide) rfl (rcv_1 hS rfl rfl h_x0 (by decide)) (Nat.zero_le _) rfl rfl (t_Mo_isSign hS (by omega) σ x0 (40 : Int32) h_x0) (fun v97 => ?_)
  refine rf_ite (fun hc100 => ?_) (fun hc100 => ?_)
  · refine rf_b1t c_245_100 rfl (decide_eq_true hc100) ?_
    exact t_Mo_takesE_135 hS hd hk37 x0 x1 (.int x2) σ h_x0
  · refine rf_b1f c_245_100 rfl (decide_eq_false hc100) ?_
    refine rf_ald (i := 0) (Or.inr ⟨0, rfl, rfl, rfl⟩) c_245_103 rfl ?_
    refine rf_geti hS c_245_104 rfl fl_12_227 rfl h_x0 ?_
    refine rf_bipush c_245_107 kb_8 ?_
    refine rf_ite (fun hc109 => ?_) (fun hc109 => ?_)
    · refine rf_b2t c_245_109 rfl (decide_eq_true hc109) ?_
      exact t_Mo_takesE_135 hS hd hk37 x0 x1 (.int x2) σ h_x0
    · refine rf_b2f c_245_109 rfl (decide_eq_false hc109) ?_
      refine rf_ald (i := 0) (Or.inr ⟨0, rfl, rfl, rfl⟩) c_245_112 rfl ?_
      refine rf_bipush c_245_113 kb_17 ?_
      refine rf_callV (as := [.ref x0, .int (17 : Int32)]) (kd := 1) c_245_115 rfl (by decide) rfl ml_12_237 (by decide) rfl (rcv_1 hS rfl rfl h_x0 (by decide)) (Nat.zero_le _) rfl rfl (t_Mo_await hS (by omega) x0 (17 : Int32) σ h_x0) (fun v115 => ?_)
      refine rf_ald (i := 0) (Or.inr ⟨0, rfl, rfl, rfl⟩) c_245_118 rfl ?_
      refine rf_dup c_245_119 rfl ?_
      refine rf_geti hS c_245_120 rfl fl_12_227 rfl h_x0 ?_
      refine rf_iconst c_245_123 ki_1 ?_
      refine rf_iadd c_245_124 ?_
      refine rf_puti hS c_245_125 rfl fl_12_227 rfl rfl rfl rfl h_x0 ?_
      refine rf_nm (fun σ125 => ?_)
      refine rf_ald (i := 0) (Or.inr ⟨0, rfl, rfl, rfl⟩) c_245_128 rfl ?_
      refine rf_callV (as := [.ref x0]) (kd := 1) c_245_129 rfl (by decide) rfl ml_12_195 (by decide) rfl (rcv_1 hS rfl rfl h_x0 (by decide)) (Nat.zero_le _) rfl rfl (t_Mo_go hS (by omega) x0 σ125 h_x0) (fun v129 => ?_)
      refine rf_goto c_245_132 rfl ?_
      exact hk37 x0 x1 x2 v129 h_x0
def f_Mo_takesE_186 (k37 : Nat → Int32 → Int32 → Mm → Option (Int32 × Mm)) (x0 : Nat) (x1 : Int32) (y0 : Nat) (y1 : Int32) (σ : Mm) : Option (Int32 × Mm) := (f_Mo_doAll y0 y1 σ).bind fun v186 => (f_Mo_await x0 (v186 x0 17) v186).bind fun v194 => (f_Mo_go x0 v194).bind fun v200 => k37 x0 x1 (1 : Int32) v200
set_option maxRecDepth 100000 in
set_option maxHeartbeats 4000000 in
theorem t_Mo_takesE_186 {X : Xt} {S : Sh} (hS : ShOK S) {d : Nat} (hd : 5 ≤ d + 1) {k37 : Nat → Int32 → Int32 → Mm → Option (Int32 × Mm)} (hk37 : ∀ (x0 : Nat) (x1 : Int32) (x2 : Int32) (σ : Mm) (h_x0 : tgT x0 = 12), Rf X S emM (k37 x0 x1 x2 σ) (d + 1) 245 37 [.ref x0, .int x1, .int x2] [] σ) (x0 : Nat) (x1 : Int32) (y0 : Nat) (y1 : Int32) (u2 : Value) (σ : Mm) (h_x0 : tgT x0 = 12) (h_y0 : tgT y0 = 12) : Rf X S emM (f_Mo_takesE_186 k37 x0 x1 y0 y1 σ) (d + 1) 245 186 [.ref x0, .int x1, u2] [.int y1, .ref y0] σ := by
  unfold f_Mo_takesE_186
  refine rf_callV (as := [.ref y0, .int y1]) (kd := 1) c_245_186 rfl (by decide) rfl ml_12_246 (by decide) rfl (rcv_1 hS rfl rfl h_y0 (by decide)) (Nat.zero_le _) rfl rfl (t_Mo_doAll hS (by omega) y0 y1 σ h_y0) (fun v186 => ?_)
  refine rf_ald (i := 0) (Or.inr ⟨0, rfl, rfl, rfl⟩) c_245_189 rfl ?_
  refine rf_ald (i := 0) (Or.inr ⟨0, rfl, rfl, rfl⟩) c_245_190 rfl ?_
  refine rf_geti hS c_245_191 rfl fl_12_177 rfl h_x0 ?_
  refine rf_callV (as := [.ref x0, .int (v186 x0 17)]) (kd := 1) c_245_194 rfl (by decide) rfl ml_12_237 (by decide) rfl (rcv_1 hS rfl rfl h_x0 (by decide)) (Nat.zero_le _) rfl rfl (t_Mo_await hS (by omega) x0 (v186 x0 17) v186 h_x0) (fun v194 => ?_)
  refine rf_iconst c_245_197 ki_1 ?_
  refine rf_ist (i := 2) (Or.inr ⟨2, rfl, rfl, rfl⟩) c_245_198 (Nat.le_of_ble_eq_true rfl) rfl ?_
  refine rf_ald (i := 0) (Or.inr ⟨0, rfl, rfl, rfl⟩) c_245_199 rfl ?_
  refine rf_callV (as := [.ref x0]) (kd := 1) c_245_200 rfl (by decide) rfl ml_12_195 (by decide) rfl (rcv_1 hS rfl rfl h_x0 (by decide)) (Nat.zero_le _) rfl rfl (t_Mo_go hS (by omega) x0 v194 h_x0) (fun v200 => ?_)
  refine rf_goto c_245_203 rfl ?_
  exact hk37 x0 x1 (1 : Int32) v200 h_x0
def f_Mo_takesE_171 (k37 : Nat → Int32 → Int32 → Mm → Option (Int32 × Mm)) (x0 : Nat) (x1 : Int32) (σ : Mm) : Option (Int32 × Mm) := (if ¬ (σ x0 17) = (9 : Int32) then (f_Mo_takesE_186 k37 x0 x1 x0 (0 : Int32) σ) else (f_Mo_takesE_186 k37 x0 x1 x0 (1 : Int32) σ))
set_option maxRecDepth 100000 in
set_option maxHeartbeats 4000000 in
theorem t_Mo_takesE_171 {X : Xt} {S : Sh} (hS : ShOK S) {d : Nat} (hd : 5 ≤ d + 1) {k37 : Nat → Int32 → Int32 → Mm → Option (Int32 × Mm)} (hk37 : ∀ (x0 : Nat) (x1 : Int32) (x2 : Int32) (σ : Mm) (h_x0 : tgT x0 = 12), Rf X S emM (k37 x0 x1 x2 σ) (d + 1) 245 37 [.ref x0, .int x1, .int x2] [] σ) (x0 : Nat) (x1 : Int32) (u2 : Value) (σ : Mm) (h_x0 : tgT x0 = 12) : Rf X S emM (f_Mo_takesE_171 k37 x0 x1 σ) (d + 1) 245 171 [.ref x0, .int x1, u2] [] σ := by
  unfold f_Mo_takesE_171
  refine rf_ald (i := 0) (Or.inr ⟨0, rfl, rfl, rfl⟩) c_245_171 rfl ?_
  refine rf_ald (i := 0) (Or.inr ⟨0, rfl, rfl, rfl⟩) c_245_172 rfl ?_
  refine rf_geti hS c_245_173 rfl fl_12_177 rfl h_x0 ?_
  refine rf_bipush c_245_176 kb_9 ?_
  refine rf_ite (fun hc178 => ?_) (fun hc178 => ?_)
  · refine rf_b2t c_245_178 rfl (decide_eq_true hc178) ?_
    refine rf_iconst c_245_185 ki_0 ?_
    exact t_Mo_takesE_186 hS hd hk37 x0 x1 x0 (0 : Int32) (u2) σ h_x0 h_x0
  · refine rf_b2f c_245_178 rfl (decide_eq_false hc178) ?_
    refine rf_iconst c_245_181 ki_1 ?_
    refine rf_goto c_245_182 rfl ?_
    exact t_Mo_takesE_186 hS hd hk37 x0 x1 x0 (1 : Int32) (u2) σ h_x0 h_x0
def f_Mo_takesE_258 (σ : Mm) : Option (Int32 × Mm) := some ((0 : Int32), σ)
set_option maxRecDepth 100000 in
set_option maxHeartbeats 4000000 in
theorem t_Mo_takesE_258 {X : Xt} {S : Sh} (hS : ShOK S) {d : Nat} (hd : 5 ≤ d + 1) (u0 : Value) (u1 : Value) (u2 : Value) (σ : Mm) : Rf X S emM (f_Mo_takesE_258 σ) (d + 1) 245 258 [u0, u1, u2] [] σ := by
  unfold f_Mo_takesE_258
  refine rf_iconst c_245_258 ki_0 ?_
  exact rf_ret c_245_259 rfl (by decide) rfl rfl
def f_Mo_takesE_49 (k37 : Nat → Int32 → Int32 → Mm → Option (Int32 × Mm)) (x0 : Nat) (x1 : Int32) (x2 : Int32) (σ : Mm) : Option (Int32 × Mm) := (if x2 = 0 then ((f_Mo_isWord σ x0 (8 : Int32)).bind fun v156 => (if ¬ v156 = 0 then (f_Mo_takesE_171 k37 x0 x1 σ) else ((f_Mo_isWord σ x0 (9 : Int32)).bind fun v165 => (if v165 = 0 then ((f_Mo_isSign σ x0 (41 : Int32)).bind fun v209 => (if v209 = 0 then (f_Mo_takesE_258  σ) else (if (σ x0 32) ≤ 0 then (f_Mo_takesE_258  σ) else ((f_Mo_doAll x0 (1 : Int32) σ).bind fun v224 => nmM (up2 v224 x0 31 ((v224 x0 31) - (1 : Int32))) fun σ234 => nmM (up2 σ234 x0 32 ((σ234 x0 32) - (1 : Int32))) fun σ244 => (f_Mo_endNots x0 σ244).bind fun v248 => (f_Mo_go x0 v248).bind fun v252 => k37 x0 x1 x2 v252)))) else (f_Mo_takesE_171 k37 x0 x1 σ))))) else ((f_Mo_isWord σ x0 (10 : Int32)).bind fun v56 => (if v56 = 0 then (f_Mo_takesE_94 k37 x0 x1 x2 σ) else (if (8 : Int32) ≤ (σ x0 33) then (f_Mo_takesE_94 k37 x0 x1 x2 σ) else ((f_Mo_await x0 (10 : Int32) σ).bind fun v74 => nmM (up2 v74 x0 33 ((v74 x0 33) + (1 : Int32))) fun σ84 => (f_Mo_go x0 σ84).bind fun v88 => k37 x0 x1 x2 v88)))))
set_option maxRecDepth 100000 in
set_option maxHeartbeats 4000000 in
theorem t_Mo_takesE_49 {X : Xt} {S : Sh} (hS : ShOK S) {d : Nat} (hd : 5 ≤ d + 1) {k37 : Nat → Int32 → Int32 → Mm → Option (Int32 × Mm)} (hk37 : ∀ (x0 : Nat) (x1 : Int32) (x2 : Int32) (σ : Mm) (h_x0 : tgT x0 = 12), Rf X S emM (k37 x0 x1 x2 σ) (d + 1) 245 37 [.ref x0, .int x1, .int x2] [] σ) (x0 : Nat) (x1 : Int32) (x2 : Int32) (σ : Mm) (h_x0 : tgT x0 = 12) : Rf X S emM (f_Mo_takesE_49 k37 x0 x1 x2 σ) (d + 1) 245 49 [.ref x0, .int x1, .int x2] [] σ := by
  unfold f_Mo_takesE_49
  refine rf_ild (i := 2) (Or.inr ⟨2, rfl, rfl, rfl⟩) c_245_49 rfl ?_
  refine rf_ite (fun hc50 => ?_) (fun hc50 => ?_)
  · refine rf_b1t c_245_50 rfl (decide_eq_true hc50) ?_
    refine rf_ald (i := 0) (Or.inr ⟨0, rfl, rfl, rfl⟩) c_245_153 rfl ?_
    refine rf_bipush c_245_154 kb_8 ?_
    refine rf_callI (as := [.ref x0, .int (8 : Int32)]) (kd := 1) c_245_156 rfl (by decide) rfl ml_12_230 (by decide) rfl (rcv_1 hS rfl rfl h_x0 (by decide)) (Nat.zero_le _) rfl rfl (t_Mo_isWord hS (by omega) σ x0 (8 : Int32) h_x0) (fun v156 => ?_)
    refine rf_ite (fun hc159 => ?_) (fun hc159 => ?_)
    · refine rf_b1t c_245_159 rfl (decide_eq_true hc159) ?_
      exact t_Mo_takesE_171 hS hd hk37 x0 x1 (.int x2) σ h_x0
    · refine rf_b1f c_245_159 rfl (decide_eq_false hc159) ?_
      refine rf_ald (i := 0) (Or.inr ⟨0, rfl, rfl, rfl⟩) c_245_162 rfl ?_
      refine rf_bipush c_245_163 kb_9 ?_
      refine rf_callI (as := [.ref x0, .int (9 : Int32)]) (kd := 1) c_245_165 rfl (by decide) rfl ml_12_230 (by decide) rfl (rcv_1 hS rfl rfl h_x0 (by decide)) (Nat.zero_le _) rfl rfl (t_Mo_isWord hS (by omega) σ x0 (9 : Int32) h_x0) (fun v165 => ?_)
      refine rf_ite (fun hc168 => ?_) (fun hc168 => ?_)
      · refine rf_b1t c_245_168 rfl (decide_eq_true hc168) ?_
        refine rf_ald (i := 0) (Or.inr ⟨0, rfl, rfl, rfl⟩) c_245_206 rfl ?_
        refine rf_bipush c_245_207 kb_41 ?_
        refine rf_callI (as := [.ref x0, .int (41 : Int32)]) (kd := 1) c_245_209 rfl (by decide) rfl ml_12_204 (by decide) rfl (rcv_1 hS rfl rfl h_x0 (by decide)) (Nat.zero_le _) rfl rfl (t_Mo_isSign hS (by omega) σ x0 (41 : Int32) h_x0) (fun v209 => ?_)
        refine rf_ite (fun hc212 => ?_) (fun hc212 => ?_)
        · refine rf_b1t c_245_212 rfl (decide_eq_true hc212) ?_
          exact t_Mo_takesE_258 hS hd  (.ref x0) (.int x1) (.int x2) σ
        · refine rf_b1f c_245_212 rfl (decide_eq_false hc212) ?_
          refine rf_ald (i := 0) (Or.inr ⟨0, rfl, rfl, rfl⟩) c_245_215 rfl ?_
          refine rf_geti hS c_245_216 rfl fl_12_227 rfl h_x0 ?_
          refine rf_ite (fun hc219 => ?_) (fun hc219 => ?_)
          · refine rf_b1t c_245_219 rfl (decide_eq_true hc219) ?_
            exact t_Mo_takesE_258 hS hd  (.ref x0) (.int x1) (.int x2) σ
          · refine rf_b1f c_245_219 rfl (decide_eq_false hc219) ?_
            refine rf_ald (i := 0) (Or.inr ⟨0, rfl, rfl, rfl⟩) c_245_222 rfl ?_
            refine rf_iconst c_245_223 ki_1 ?_
            refine rf_callV (as := [.ref x0, .int (1 : Int32)]) (kd := 1) c_245_224 rfl (by decide) rfl ml_12_246 (by decide) rfl (rcv_1 hS rfl rfl h_x0 (by decide)) (Nat.zero_le _) rfl rfl (t_Mo_doAll hS (by omega) x0 (1 : Int32) σ h_x0) (fun v224 => ?_)
            refine rf_ald (i := 0) (Or.inr ⟨0, rfl, rfl, rfl⟩) c_245_227 rfl ?_
            refine rf_dup c_245_228 rfl ?_
            refine rf_geti hS c_245_229 rfl fl_12_221 rfl h_x0 ?_
            refine rf_iconst c_245_232 ki_1 ?_
            refine rf_isub c_245_233 ?_
            refine rf_puti hS c_245_234 rfl fl_12_221 rfl rfl rfl rfl h_x0 ?_
            refine rf_nm (fun σ234 => ?_)
            refine rf_ald (i := 0) (Or.inr ⟨0, rfl, rfl, rfl⟩) c_245_237 rfl ?_
            refine rf_dup c_245_238 rfl ?_
            refine rf_geti hS c_245_239 rfl fl_12_227 rfl h_x0 ?_
            refine rf_iconst c_245_242 ki_1 ?_
            refine rf_isub c_245_243 ?_
            refine rf_puti hS c_245_244 rfl fl_12_227 rfl rfl rfl rfl h_x0 ?_
            refine rf_nm (fun σ244 => ?_)
            refine rf_ald (i := 0) (Or.inr ⟨0, rfl, rfl, rfl⟩) c_245_247 rfl ?_
            refine rf_callV (as := [.ref x0]) (kd := 1) c_245_248 rfl (by decide) rfl ml_12_243 (by decide) rfl (rcv_1 hS rfl rfl h_x0 (by decide)) (Nat.zero_le _) rfl rfl (t_Mo_endNots hS (by omega) x0 σ244 h_x0) (fun v248 => ?_)
            refine rf_ald (i := 0) (Or.inr ⟨0, rfl, rfl, rfl⟩) c_245_251 rfl ?_
            refine rf_callV (as := [.ref x0]) (kd := 1) c_245_252 rfl (by decide) rfl ml_12_195 (by decide) rfl (rcv_1 hS rfl rfl h_x0 (by decide)) (Nat.zero_le _) rfl rfl (t_Mo_go hS (by omega) x0 v248 h_x0) (fun v252 => ?_)
            refine rf_goto c_245_255 rfl ?_
            exact hk37 x0 x1 x2 v252 h_x0
      · refine rf_b1f c_245_168 rfl (decide_eq_false hc168) ?_
        exact t_Mo_takesE_171 hS hd hk37 x0 x1 (.int x2) σ h_x0
  · refine rf_b1f c_245_50 rfl (decide_eq_false hc50) ?_
    refine rf_ald (i := 0) (Or.inr ⟨0, rfl, rfl, rfl⟩) c_245_53 rfl ?_
    refine rf_bipush c_245_54 kb_10 ?_
    refine rf_callI (as := [.ref x0, .int (10 : Int32)]) (kd := 1) c_245_56 rfl (by decide) rfl ml_12_230 (by decide) rfl (rcv_1 hS rfl rfl h_x0 (by decide)) (Nat.zero_le _) rfl rfl (t_Mo_isWord hS (by omega) σ x0 (10 : Int32) h_x0) (fun v56 => ?_)
    refine rf_ite (fun hc59 => ?_) (fun hc59 => ?_)
    · refine rf_b1t c_245_59 rfl (decide_eq_true hc59) ?_
      exact t_Mo_takesE_94 hS hd hk37 x0 x1 x2 σ h_x0
    · refine rf_b1f c_245_59 rfl (decide_eq_false hc59) ?_
      refine rf_ald (i := 0) (Or.inr ⟨0, rfl, rfl, rfl⟩) c_245_62 rfl ?_
      refine rf_geti hS c_245_63 rfl fl_12_224 rfl h_x0 ?_
      refine rf_bipush c_245_66 kb_8 ?_
      refine rf_ite (fun hc68 => ?_) (fun hc68 => ?_)
      · refine rf_b2t c_245_68 rfl (decide_eq_true hc68) ?_
        exact t_Mo_takesE_94 hS hd hk37 x0 x1 x2 σ h_x0
      · refine rf_b2f c_245_68 rfl (decide_eq_false hc68) ?_
        refine rf_ald (i := 0) (Or.inr ⟨0, rfl, rfl, rfl⟩) c_245_71 rfl ?_
        refine rf_bipush c_245_72 kb_10 ?_
        refine rf_callV (as := [.ref x0, .int (10 : Int32)]) (kd := 1) c_245_74 rfl (by decide) rfl ml_12_237 (by decide) rfl (rcv_1 hS rfl rfl h_x0 (by decide)) (Nat.zero_le _) rfl rfl (t_Mo_await hS (by omega) x0 (10 : Int32) σ h_x0) (fun v74 => ?_)
        refine rf_ald (i := 0) (Or.inr ⟨0, rfl, rfl, rfl⟩) c_245_77 rfl ?_
        refine rf_dup c_245_78 rfl ?_
        refine rf_geti hS c_245_79 rfl fl_12_224 rfl h_x0 ?_
        refine rf_iconst c_245_82 ki_1 ?_
        refine rf_iadd c_245_83 ?_
        refine rf_puti hS c_245_84 rfl fl_12_224 rfl rfl rfl rfl h_x0 ?_
        refine rf_nm (fun σ84 => ?_)
        refine rf_ald (i := 0) (Or.inr ⟨0, rfl, rfl, rfl⟩) c_245_87 rfl ?_
        refine rf_callV (as := [.ref x0]) (kd := 1) c_245_88 rfl (by decide) rfl ml_12_195 (by decide) rfl (rcv_1 hS rfl rfl h_x0 (by decide)) (Nat.zero_le _) rfl rfl (t_Mo_go hS (by omega) x0 σ84 h_x0) (fun v88 => ?_)
        refine rf_goto c_245_91 rfl ?_
        exact hk37 x0 x1 x2 v88 h_x0
def f_Mo_takesE_37 : Nat → Nat → Int32 → Int32 → Mm → Option (Int32 × Mm)
  | 0, _, _, _, _ => none
  | n + 1, x0, x1, x2, σ => (if ¬ x2 = 0 then (f_Mo_takesE_49 (f_Mo_takesE_37  n) x0 x1 x2 σ) else ((f_Mo_isOver σ x0 x1).bind fun v43 => (if ¬ v43 = 0 then ((f_Mo_doAll x0 (1 : Int32) σ).bind fun v262 => some ((1 : Int32), v262)) else (f_Mo_takesE_49 (f_Mo_takesE_37  n) x0 x1 x2 σ))))
set_option maxRecDepth 100000 in
set_option maxHeartbeats 4000000 in
theorem t_Mo_takesE_37 {X : Xt} {S : Sh} (hS : ShOK S) {d : Nat} (hd : 5 ≤ d + 1) : ∀ (n : Nat) (x0 : Nat) (x1 : Int32) (x2 : Int32) (σ : Mm) (h_x0 : tgT x0 = 12), Rf X S emM (f_Mo_takesE_37 n x0 x1 x2 σ) (d + 1) 245 37 [.ref x0, .int x1, .int x2] [] σ := by
  intro n
  induction n with
  | zero => intro x0 x1 x2 σ h_x0; exact rf_none
  | succ n ih =>
    intro x0 x1 x2 σ h_x0
    rw [f_Mo_takesE_37]
    refine rf_ild (i := 2) (Or.inr ⟨2, rfl, rfl, rfl⟩) c_245_37 rfl ?_
    refine rf_ite (fun hc38 => ?_) (fun hc38 => ?_)
    · refine rf_b1t c_245_38 rfl (decide_eq_true hc38) ?_
      exact t_Mo_takesE_49 hS hd ih x0 x1 x2 σ h_x0
    · refine rf_b1f c_245_38 rfl (decide_eq_false hc38) ?_
      refine rf_ald (i := 0) (Or.inr ⟨0, rfl, rfl, rfl⟩) c_245_41 rfl ?_
      refine rf_ild (i := 1) (Or.inr ⟨1, rfl, rfl, rfl⟩) c_245_42 rfl ?_
      refine rf_callI (as := [.ref x0, .int x1]) (kd := 1) c_245_43 rfl (by decide) rfl ml_12_233 (by decide) rfl (rcv_1 hS rfl rfl h_x0 (by decide)) (Nat.zero_le _) rfl rfl (t_Mo_isOver hS (by omega) σ x0 x1 h_x0) (fun v43 => ?_)
      refine rf_ite (fun hc46 => ?_) (fun hc46 => ?_)
      · refine rf_b1t c_245_46 rfl (decide_eq_true hc46) ?_
        refine rf_ald (i := 0) (Or.inr ⟨0, rfl, rfl, rfl⟩) c_245_260 rfl ?_
        refine rf_iconst c_245_261 ki_1 ?_
        refine rf_callV (as := [.ref x0, .int (1 : Int32)]) (kd := 1) c_245_262 rfl (by decide) rfl ml_12_246 (by decide) rfl (rcv_1 hS rfl rfl h_x0 (by decide)) (Nat.zero_le _) rfl rfl (t_Mo_doAll hS (by omega) x0 (1 : Int32) σ h_x0) (fun v262 => ?_)
        refine rf_iconst c_245_265 ki_1 ?_
        exact rf_ret c_245_266 rfl (by decide) rfl rfl
      · refine rf_b1f c_245_46 rfl (decide_eq_false hc46) ?_
        exact t_Mo_takesE_49 hS hd ih x0 x1 x2 σ h_x0
def f_Mo_takesE_12 (x0 : Nat) (x1 : Int32) (y0 : Nat) (y1 : Int32) (σ : Mm) : Option (Int32 × Mm) := nmM (up2 σ y0 23 y1) fun σ12 => nmM (up2 σ12 x0 24 (0 : Int32)) fun σ17 => nmM (up2 σ17 x0 31 (0 : Int32)) fun σ22 => nmM (up2 σ22 x0 32 (0 : Int32)) fun σ27 => nmM (up2 σ27 x0 33 (0 : Int32)) fun σ32 => f_Mo_takesE_37  NN x0 x1 (1 : Int32) σ32
set_option maxRecDepth 100000 in
set_option maxHeartbeats 4000000 in
theorem t_Mo_takesE_12 {X : Xt} {S : Sh} (hS : ShOK S) {d : Nat} (hd : 5 ≤ d + 1) (x0 : Nat) (x1 : Int32) (y0 : Nat) (y1 : Int32) (u2 : Value) (σ : Mm) (h_x0 : tgT x0 = 12) (h_y0 : tgT y0 = 12) : Rf X S emM (f_Mo_takesE_12 x0 x1 y0 y1 σ) (d + 1) 245 12 [.ref x0, .int x1, u2] [.int y1, .ref y0] σ := by
  unfold f_Mo_takesE_12
  refine rf_puti hS c_245_12 rfl fl_12_198 rfl rfl rfl rfl h_y0 ?_
  refine rf_nm (fun σ12 => ?_)
  refine rf_ald (i := 0) (Or.inr ⟨0, rfl, rfl, rfl⟩) c_245_15 rfl ?_
  refine rf_iconst c_245_16 ki_0 ?_
  refine rf_puti hS c_245_17 rfl fl_12_201 rfl rfl rfl rfl h_x0 ?_
  refine rf_nm (fun σ17 => ?_)
  refine rf_ald (i := 0) (Or.inr ⟨0, rfl, rfl, rfl⟩) c_245_20 rfl ?_
  refine rf_iconst c_245_21 ki_0 ?_
  refine rf_puti hS c_245_22 rfl fl_12_221 rfl rfl rfl rfl h_x0 ?_
  refine rf_nm (fun σ22 => ?_)
  refine rf_ald (i := 0) (Or.inr ⟨0, rfl, rfl, rfl⟩) c_245_25 rfl ?_
  refine rf_iconst c_245_26 ki_0 ?_
  refine rf_puti hS c_245_27 rfl fl_12_227 rfl rfl rfl rfl h_x0 ?_
  refine rf_nm (fun σ27 => ?_)
  refine rf_ald (i := 0) (Or.inr ⟨0, rfl, rfl, rfl⟩) c_245_30 rfl ?_
  refine rf_iconst c_245_31 ki_0 ?_
  refine rf_puti hS c_245_32 rfl fl_12_224 rfl rfl rfl rfl h_x0 ?_
  refine rf_nm (fun σ32 => ?_)
  refine rf_iconst c_245_35 ki_1 ?_
  refine rf_ist (i := 2) (Or.inr ⟨2, rfl, rfl, rfl⟩) c_245_36 (Nat.le_of_ble_eq_true rfl) rfl ?_
  exact t_Mo_takesE_37 hS hd  NN x0 x1 (1 : Int32) σ32 h_x0
def f_Mo_takesE (x0 : Nat) (x1 : Int32) (σ : Mm) : Option (Int32 × Mm) := (if x1 = 0 then (f_Mo_takesE_12  x0 x1 x0 (0 : Int32) σ) else (f_Mo_takesE_12  x0 x1 x0 (144 : Int32) σ))
set_option maxRecDepth 100000 in
set_option maxHeartbeats 4000000 in
theorem t_Mo_takesE_e {X : Xt} {S : Sh} (hS : ShOK S) {d : Nat} (hd : 5 ≤ d + 1) (x0 : Nat) (x1 : Int32) (σ : Mm) (h_x0 : tgT x0 = 12) : Rf X S emM (f_Mo_takesE x0 x1 σ) (d + 1) 245 0 [.ref x0, .int x1, unset0] [] σ := by
  unfold f_Mo_takesE
  refine rf_ald (i := 0) (Or.inr ⟨0, rfl, rfl, rfl⟩) c_245_0 rfl ?_
  refine rf_ild (i := 1) (Or.inr ⟨1, rfl, rfl, rfl⟩) c_245_1 rfl ?_
  refine rf_ite (fun hc2 => ?_) (fun hc2 => ?_)
  · refine rf_b1t c_245_2 rfl (decide_eq_true hc2) ?_
    refine rf_iconst c_245_11 ki_0 ?_
    exact t_Mo_takesE_12 hS hd  x0 x1 x0 (0 : Int32) (unset0) σ h_x0 h_x0
  · refine rf_b1f c_245_2 rfl (decide_eq_false hc2) ?_
    refine rf_sipush c_245_5 ks_144 ?_
    refine rf_goto c_245_8 rfl ?_
    exact t_Mo_takesE_12 hS hd  x0 x1 x0 (144 : Int32) (unset0) σ h_x0 h_x0
theorem t_Mo_takesE {X : Xt} {S : Sh} (hS : ShOK S) {d : Nat} (hd : 5 ≤ d) (x0 : Nat) (x1 : Int32) (σ : Mm) (h_x0 : tgT x0 = 12) : Rf X S emM (f_Mo_takesE x0 x1 σ) d 245 0 [.ref x0, .int x1, unset0] [] σ := by
  obtain ⟨d1, rfl⟩ : ∃ d1, d = d1 + 1 := ⟨d - 1, by omega⟩
  exact t_Mo_takesE_e hS hd x0 x1 σ h_x0
