/-! the constructors never look at the script -/
def isAl (i : Instr) : Bool := match i with
  | .arraylength => true
  | _ => false
theorem noAlA : (List.range 325).all (fun i => (cL i).all (fun e => !isAl e.2.1)) = true := by decide +kernel
theorem no_al {mi pc len : Nat} {ins : Instr} (hm : mi < 325) (h : cd mi pc = some (ins, len)) : ins ≠ .arraylength := by
  unfold cd at h
  cases hf : (cL mi).find? (fun e => e.1 == pc) with
  | none => rw [hf] at h; cases h
  | some q =>
    rw [hf] at h
    have h1 : q.2 = (ins, len) := Option.some.inj h
    have h2 := List.all_eq_true.mp (List.all_eq_true.mp noAlA mi (List.mem_range.mpr hm)) q (List.mem_of_find?_eq_some hf)
    intro h3
    subst h3
    rw [h1] at h2
    cases h2
theorem rdI_X {X X' : Xt} (hX : X.1 = 0) {h : Hp} {a : Nat} {i : Int32} {z : Int32} (hr : rdI X h a i = some z) : rdI X' h a i = some z := by
  unfold rdI at hr ⊢
  by_cases h1 : a < 1000000
  · rw [if_pos h1] at hr ⊢; exact hr
  · rw [if_neg h1] at hr ⊢
    by_cases h2 : a = 1000000
    · rw [if_pos h2] at hr ⊢; exact hr
    · rw [if_neg h2] at hr ⊢
      by_cases h3 : a = 1000009
      · rw [if_pos h3] at hr
        have h4 : ¬ inbB i X.1 = true := by
          rw [hX]
          intro h5
          exact inbB_iff.mp h5 (Or.inr (Nat.zero_le _))
        rw [if_neg h4] at hr
        cases hr
      · rw [if_neg h3] at hr; cases hr
set_option maxHeartbeats 4000000 in
theorem stp_X {X X' : Xt} (hX : X.1 = 0) {co pc len : Nat} {ini : Bool} {ins : Instr} {loc st : List Value} {h : Hp} {y : Cf} (hne : ins ≠ .arraylength) (hs : stp X co ini pc ins len loc st h = some y) : stp X' co ini pc ins len loc st h = some y := by
  by_cases hi : ins = .iaload ∧ len = 1
  · obtain ⟨rfl, rfl⟩ := hi
    have hs2 : ldX pc loc st h (fun a i => rdI X h a i) = some y := hs
    show ldX pc loc st h (fun a i => rdI X' h a i) = some y
    unfold ldX at hs2 ⊢
    split at hs2
    · next i a r =>
      dsimp only at hs2 ⊢
      split at hs2
      · next z hz => rw [rdI_X hX hz]; exact hs2
      · cases hs2
    · cases hs2
  · unfold stp at hs
    split at hs <;> first | exact hs | (exact absurd rfl hne) | (exact absurd ⟨rfl, rfl⟩ hi) | cases hs
theorem run_X {X X' : Xt} (hX : X.1 = 0) : ∀ (n d mi pc : Nat) (loc st : List Value) (h : Hp) (o : Option Value × Hp), mi < 325 → run X n d mi pc loc st h = some o → run X' n d mi pc loc st h = some o := by
  intro n
  induction n with
  | zero => intro d mi pc loc st h o _ hr; rw [run] at hr; cases hr
  | succ n ih =>
    intro d mi pc loc st h o hm hr
    rw [run] at hr ⊢
    split at hr
    · cases hr
    · next ins len hcd =>
      have hna := no_al hm hcd
      split at hr
      · next kd idx hk =>
        split at hr
        · cases hr
        · next j na ne hml =>
          split at hr
          · next hg =>
            rw [if_pos hg]
            split at hr
            · next hj =>
              rw [if_pos hj]
              split at hr
              · next hb =>
                rw [if_pos hb]
                split at hr
                · cases hr
                · exact ih _ _ _ _ _ _ _ hm hr
              · cases hr
            · next hj =>
              rw [if_neg hj]
              split at hr
              · next hb =>
                rw [if_pos hb]
                split at hr
                · cases hr
                · split at hr
                  · cases hr
                  · next r h' hrr =>
                    have hj2 : j < 325 := by have := (ml_ok hml).2.1 (by omega); omega
                    rw [ih _ _ _ _ _ _ _ hj2 hrr]
                    exact ih _ _ _ _ _ _ _ hm hr
              · cases hr
          · cases hr
      · next hk =>
        split at hr
        · exact hr
        · exact hr
        · split at hr
          · cases hr
          · next hs =>
            rw [stp_X hX hna hs]
            exact ih _ _ _ _ _ _ _ hm hr
