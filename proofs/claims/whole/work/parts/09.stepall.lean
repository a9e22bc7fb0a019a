/-! all instructions that neither call nor return -/
section StepB
variable {p : Program} {l : Launch} {e : Env} {R : Room} {s : State} {m : MethodId} {args : Array Value} {below : List Frame} {meth : Method} {c : Code} {Q : State → Prop}
variable {D : va_G} {cA : Nat → ClassId} {sz : Nat} {ex : Nat → Nat} {X : Xt} {mi c0 s0 pc pc' : Nat} {loc loc' st st' : List Value} {h h' : Hp}
theorem iinc_ok (F : Fx D cA sz ex X p s m args meth c mi) {k : Nat} {n : Int} {x : Int32} (hd : decode (bt mi) pc = .ok (.iinc k n, 3)) (hx : loc[k]? = some (.int x)) (kk : Wc p l e R s m args below meth c Q D cA sz ex mi c0 s0 (pc + 3) (loc.set k (.int (x + Int32.ofInt n))) st h) : Wc p l e R s m args below meth c Q D cA sz ex mi c0 s0 pc loc st h := by
  intro H locs ls hR hS hL
  have hk : k < mMax mi := by rw [← hL.1]; exact (List.getElem?_eq_some_iff.mp hx).1
  obtain ⟨q, hq⟩ := List.getElem?_of_mem (lcl_mem (sz := sz) (ex := ex) hx rfl)
  exact lv_iinc F.1 F.2.1 hd hL.has hq rfl hk rfl (fun ls' hl' => kk H locs ls' hR hS (hL.store (x := .int (x + Int32.ofInt n)) rfl hk hl'))
theorem rdI_ok (F : Fx D cA sz ex X p s m args meth c mi) (hd : decode (bt mi) pc = .ok (.iaload, 1)) {H : Heap} {locs : List Loc} {ls : Array Slot} {cells slots : Nat} {rest : List Value} {a : Nat} {i z : Int32} (hR : Rp D cA sz ex h H) (hS : va_S (fun q => sz ≤ q) s.heap H locs) (hz : rdI X h a i = some z) (k : W p l e R s m args below meth c H locs cells slots Q (F0 m (pc + 1) ls (.int z :: rest))) : W p l e R s m args below meth c H locs cells slots Q (F0 m pc ls (.int i :: .ref (adr sz ex a) :: rest)) := by
  have hE := F.2.2.2.2.2.2.2.1
  unfold rdI at hz
  by_cases h1 : a < 1000000
  · rw [if_pos h1] at hz
    split at hz
    · next hq =>
      cases hz
      exact wald F hR hq.1 (inbB_iff.mp hq.2) (Or.inl ⟨rfl, rfl⟩) hd k
    · cases hz
  · rw [if_neg h1] at hz
    by_cases h2 : a = 1000000
    · rw [if_pos h2] at hz
      subst h2
      split at hz
      · next hq =>
        cases hz
        have ea : adr sz ex 1000000 = ex 0 := rfl
        rw [ea]
        exact va_ti F.1 F.2.1 hE.2.1 hS (inbB_iff.mp hq) rfl hd k
      · cases hz
    · rw [if_neg h2] at hz
      by_cases h3 : a = 1000009
      · rw [if_pos h3] at hz
        subst h3
        split at hz
        · next hq =>
          cases hz
          have ea : adr sz ex 1000009 = ex 9 := rfl
          rw [ea]
          exact va_sld F.1 F.2.1 hE.2.2.2.2.2.1 (Nat.lt_of_lt_of_le hE.2.2.2.2.2.2.1 hE.2.2.2.2.2.2.2.2) (Nat.not_le.mpr hE.2.2.2.2.2.2.1) hS (inbB_iff.mp hq) hd k
        · cases hz
      · rw [if_neg h3] at hz; cases hz
theorem rdT_ok {a t : Nat} {i z : Int32} (hz : rdT h a i t = some z) : (hC h.1 a).1 = t ∧ vp_in i (hC h.1 a).2.1 ∧ h.2 a i.toNatClampNeg = z := by
  unfold rdT at hz
  split at hz
  · next hq =>
    exact ⟨hq.1, inbB_iff.mp hq.2, Option.some.inj hz⟩
  · cases hz
set_option maxHeartbeats 4000000 in
theorem stp_ok (F : Fx D cA sz ex X p s m args meth c mi) {ins : Instr} {len : Nat} (hd : decode (bt mi) pc = .ok (ins, len)) (hc0 : c0 ≤ h.1.1) (hs0 : s0 ≤ slt h.1) (hcel : h'.1.1 - c0 ≤ R.cells) (hslo : slt h'.1 - s0 ≤ R.slots)
    (hs : stp X (mCo mi) (mKind mi == 2) pc ins len loc st h = some (pc', loc', st', h')) (kk : Wc p l e R s m args below meth c Q D cA sz ex mi c0 s0 pc' loc' st' h') : Wc p l e R s m args below meth c Q D cA sz ex mi c0 s0 pc loc st h := by
  unfold stp at hs
  split at hs
  · cases hs
    exact fun H locs ls hR hS hL => lv_iconst F.1 F.2.1 hd rfl (kk H locs ls hR hS hL)
  · cases hs
    exact fun H locs ls hR hS hL => lv_bipush F.1 F.2.1 hd rfl (kk H locs ls hR hS hL)
  · cases hs
    exact fun H locs ls hR hS hL => lv_sipush F.1 F.2.1 hd rfl (kk H locs ls hR hS hL)
  · exact ldcX_ok F (Or.inl ⟨rfl, hd⟩) hs kk
  · exact ldcX_ok F (Or.inr ⟨rfl, hd⟩) hs kk
  · exact ldI_ok F (fun H locs ls cells slots rest x hx k => lv_iload F.1 F.2.1 hd hx k) hs kk
  · exact ldI_ok F (fun H locs ls cells slots rest x hx k => lv_iload_n F.1 F.2.1 hd rfl hx k) hs kk
  · exact ldA_ok F (fun H locs ls cells slots rest x hx k => lv_aload F.1 F.2.1 hd hx k) hs kk
  · exact ldA_ok F (fun H locs ls cells slots rest x hx k => lv_aload_n F.1 F.2.1 hd rfl hx k) hs kk
  · exact stI_ok F (fun H locs ls cells slots rest x lv hv hk k => lv_istore F.1 F.2.1 hd hv hk rfl k) hs kk
  · exact stI_ok F (fun H locs ls cells slots rest x lv hv hk k => lv_istore_n F.1 F.2.1 hd rfl hv hk rfl k) hs kk
  · exact stA_ok F (fun H locs ls cells slots rest x lv hv hk k => lv_astore F.1 F.2.1 hd hv hk rfl k) hs kk
  · exact stA_ok F (fun H locs ls cells slots rest x lv hv hk k => lv_astore_n F.1 F.2.1 hd rfl hv hk rfl k) hs kk
  · split at hs
    · next x hx =>
      cases hs
      exact iinc_ok F hd hx kk
    · cases hs
  · exact opI_ok F (fun H locs ls cells slots rest x y z hz k => by cases hz; exact lv_iadd F.1 F.2.1 hd k) hs kk
  · exact opI_ok F (fun H locs ls cells slots rest x y z hz k => by cases hz; exact lv_isub F.1 F.2.1 hd k) hs kk
  · exact opI_ok F (fun H locs ls cells slots rest x y z hz k => by cases hz; exact lv_imul F.1 F.2.1 hd k) hs kk
  · exact opI_ok F (fun H locs ls cells slots rest x y z hz k => by cases hz; exact lv_iand F.1 F.2.1 hd k) hs kk
  · exact opI_ok F (fun H locs ls cells slots rest x y z hz k => by cases hz; exact lv_ior F.1 F.2.1 hd k) hs kk
  · exact opI_ok F (fun H locs ls cells slots rest x y z hz k => by cases hz; exact lv_ixor F.1 F.2.1 hd k) hs kk
  · exact opI_ok F (fun H locs ls cells slots rest x y z hz k => by cases hz; exact lv_ishl F.1 F.2.1 hd k) hs kk
  · exact opI_ok F (fun H locs ls cells slots rest x y z hz k => by cases hz; exact lv_ishr F.1 F.2.1 hd k) hs kk
  · exact opI_ok F (fun H locs ls cells slots rest x y z hz k => by cases hz; exact lv_iushr F.1 F.2.1 hd rfl k) hs kk
  · refine opI_ok F (fun H locs ls cells slots rest x y z hz k => ?_) hs kk
    by_cases hy : y = 0
    · rw [if_pos hy] at hz; cases hz
    · rw [if_neg hy] at hz; cases hz; exact lv_idiv F.1 F.2.1 hd hy k
  · refine opI_ok F (fun H locs ls cells slots rest x y z hz k => ?_) hs kk
    by_cases hy : y = 0
    · rw [if_pos hy] at hz; cases hz
    · rw [if_neg hy] at hz; cases hz; exact lv_irem F.1 F.2.1 hd hy k
  · exact un1_ok F (fun H locs ls cells slots rest x k => lv_i2b F.1 F.2.1 hd rfl k) hs kk
  · exact un1_ok F (fun H locs ls cells slots rest x k => lv_i2s F.1 F.2.1 hd rfl k) hs kk
  · split at hs
    · next v r =>
      split at hs
      · next hv =>
        cases hs
        exact fun H locs ls hR hS hL => lv_dup F.1 F.2.1 hd (by rw [cv_cat]; exact hv) (kk H locs ls hR hS hL)
      · cases hs
    · cases hs
  · split at hs
    · next v w r =>
      split at hs
      · next hv =>
        cases hs
        exact fun H locs ls hR hS hL => lv_dup2_11 F.1 F.2.1 hd (by rw [cv_cat]; exact hv.1) (by rw [cv_cat]; exact hv.2) (kk H locs ls hR hS hL)
      · cases hs
    · cases hs
  · split at hs
    · next v r =>
      split at hs
      · next hv =>
        cases hs
        exact fun H locs ls hR hS hL => lv_pop F.1 F.2.1 hd (by rw [cv_cat]; exact hv) (kk H locs ls hR hS hL)
      · cases hs
    · cases hs
  · split at hs
    · next q hq =>
      cases hs
      exact fun H locs ls hR hS hL => lv_goto F.1 F.2.1 hd (jmp_ok hq) (kk H locs ls hR hS hL)
    · cases hs
  · exact br1_ok F hd hs kk
  · exact br2_ok F hd hs kk
  · exact tsw_ok F hd hs kk
  · exact lsw_ok F hd hs kk
  · exact ldX_ok F (fun H locs ls cells slots rest a i z hR hS hz k => rdI_ok F hd hR hS hz k) hs kk
  · refine ldX_ok F (fun H locs ls cells slots rest a i z hR hS hz k => ?_) hs kk
    obtain ⟨h1, h2, h3⟩ := rdT_ok hz
    subst h3
    exact wald F hR h1 h2 (Or.inr (Or.inr (Or.inr ⟨rfl, rfl⟩))) hd k
  · refine ldX_ok F (fun H locs ls cells slots rest a i z hR hS hz k => ?_) hs kk
    split at hz
    · next y hy =>
      cases hz
      obtain ⟨h1, h2, h3⟩ := rdT_ok hy
      subst h3
      exact wald F hR h1 h2 (Or.inr (Or.inl ⟨rfl, rfl⟩)) hd k
    · obtain ⟨h1, h2, h3⟩ := rdT_ok hz
      subst h3
      exact wald F hR h1 h2 (Or.inr (Or.inr (Or.inl ⟨rfl, rfl⟩))) hd k
  · exact stX_ok F (Or.inl ⟨rfl, rfl, rfl⟩) hd hs kk
  · exact stX_ok F (Or.inr (Or.inr (Or.inr ⟨rfl, rfl, rfl⟩))) hd hs kk
  · split at hs
    · next z hz =>
      cases hs
      exact stX_ok F (Or.inr (Or.inl ⟨rfl, rfl, rfl⟩)) hd hz kk
    · exact stX_ok F (Or.inr (Or.inr (Or.inl ⟨rfl, rfl, rfl⟩))) hd hs kk
  · exact aald0_ok F hd hs kk
  · exact aast0_ok F hd hs kk
  · split at hs
    · next a r =>
      split at hs
      · next ha =>
        cases hs
        intro H locs ls hR hS hL
        have hE := F.2.2.2.2.2.2.2.1
        subst ha
        exact va_slen F.1 F.2.1 hE.2.2.2.2.2.1 (Nat.lt_of_lt_of_le hE.2.2.2.2.2.2.1 hE.2.2.2.2.2.2.2.2) (Nat.not_le.mpr hE.2.2.2.2.2.2.1) hS hd (kk H locs ls hR hS hL)
      · cases hs
    · cases hs
  · split at hs
    · next hq =>
      cases hs
      intro H locs ls hR hS hL
      have hown := F.2.2.2.1
      rw [hq.1] at hown
      rw [hq.2] at hd
      exact va_gets F.1 F.2.1 F.2.2.2.2.2.2.2.1.1 hS hown (F.2.2.2.2.1 _ w_kaL) (fun _ z => z) hd (kk H locs ls hR hS hL)
    · cases hs
  · exact getF_ok F hd hs kk
  · exact putF_ok F hd hs kk
  · exact newO_ok F hd hc0 hs0 hcel hslo hs kk
  · split at hs
    · next t ht =>
      exact newA_ok F (fun H locs ls cells slots rest n hR hS h1 h2 h3 h4 h5 k => wnewa F hR hS ht h1 h2 h3 h4 h5 hd (w_arr ht) k) hc0 hs0 hcel hslo hs kk
    · cases hs
  · split at hs
    · next ci hcl =>
      split at hs
      · next hq =>
        exact newA_ok F (fun H locs ls cells slots rest n hR hS h1 h2 h3 h4 h5 k => wnewq F hR hS hcl hq.1 hq.2 h1 h2 h3 h4 h5 hd k) hc0 hs0 hcel hslo hs kk
      · cases hs
    · cases hs
  · cases hs
end StepB
