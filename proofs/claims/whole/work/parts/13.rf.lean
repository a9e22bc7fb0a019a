/-! rows over the pure interpreter, for a heap whose shape stays -/
theorem run_up (X : Xt) : ∀ (n n' d d' mi pc : Nat) (loc st : List Value) (h : Hp) (o : Option Value × Hp), n ≤ n' → d ≤ d' → run X n d mi pc loc st h = some o → run X n' d' mi pc loc st h = some o := by
  intro n
  induction n with
  | zero => intro n' d d' mi pc loc st h o _ _ hr; rw [run] at hr; cases hr
  | succ n ih =>
    intro n' d d' mi pc loc st h o hn hd hr
    cases n' with
    | zero => omega
    | succ n' =>
      rw [run] at hr ⊢
      split at hr
      · cases hr
      · next ins len hcd =>
        split at hr
        · next kd idx hk =>
          split at hr
          · cases hr
          · next j na ne hml =>
            split at hr
            · next hg =>
              rw [if_pos hg]
              split at hr
              · next hj =>
                rw [if_pos hj]
                split at hr
                · next hb =>
                  rw [if_pos ⟨hb.1, by omega⟩]
                  split at hr
                  · cases hr
                  · exact ih _ _ _ _ _ _ _ _ _ (by omega) hd hr
                · cases hr
              · next hj =>
                rw [if_neg hj]
                split at hr
                · next hb =>
                  rw [if_pos hb]
                  split at hr
                  · cases hr
                  · next d1 =>
                    cases d' with
                    | zero => omega
                    | succ d2 =>
                      dsimp only
                      split at hr
                      · cases hr
                      · next r h1 hc =>
                        rw [ih n' d1 d2 _ _ _ _ _ _ (by omega) (by omega) hc]
                        exact ih _ _ _ _ _ _ _ _ _ (by omega) hd hr
                · cases hr
            · cases hr
        · split at hr
          · exact hr
          · exact hr
          · split at hr
            · cases hr
            · exact ih _ _ _ _ _ _ _ _ _ (by omega) hd hr
abbrev ix (i : Int32) : Nat := i.toNatClampNeg
abbrev ush (x y : Int32) : Int32 := (x.toUInt32 >>> (y.toUInt32 &&& Int32.toUInt32 31)).toInt32
abbrev irm (x y : Int32) : Int32 := x - x / y * y
/-- from here the method comes to its end, with Q -/
def Ok (X : Xt) (S : Sh) (d mi pc : Nat) (loc st : List Value) (σ : Mm) (Q : Option Value → Mm → Prop) : Prop := ∃ (n : Nat) (r : Option Value) (σ' : Mm), run X n d mi pc loc st (S, σ) = some (r, (S, σ')) ∧ Q r σ'
/-- what the function says is what the code does -/
def Rf {α : Type} (X : Xt) (S : Sh) (em : α → Option Value × Mm) (x : Option α) (d mi pc : Nat) (loc st : List Value) (σ : Mm) : Prop := ∀ a, x = some a → Ok X S d mi pc loc st σ (fun r σ' => r = (em a).1 ∧ σ' = (em a).2)
def emI (σ : Mm) (v : Int32) : Option Value × Mm := (some (.int v), σ)
def emM (v : Int32 × Mm) : Option Value × Mm := (some (.int v.1), v.2)
def emV (σ : Mm) : Option Value × Mm := (none, σ)
def shT0 : List (Nat × Nat × List Nat) := [(11, 10, [1, 85, 169, 253, 256, 263, 264, 265, 0, 0]), (7, 13, [2, 6, 11, 12, 13, 22, 27, 28, 0, 0, 0, 0, 0]), (2, 5, [3, 4, 5, 0, 0]), (20, 40, []), (20, 40, []), (20, 40, []), (8, 5, [7, 8, 9, 10, 0]), (20, 6, []), (20, 6, []), (20, 6, []), (20, 6, []), (33, 24, [29, 30, 31, 32, 33, 34, 35, 36, 37, 38, 39, 40, 41, 42, 43, 44, 45, 46, 47, 48, 49, 50, 51, 52]), (35, 16, [53, 55, 57, 59, 61, 63, 65, 67, 69, 71, 73, 75, 77, 79, 81, 83]), (1, 9, [14, 15, 16, 17, 18, 19, 20, 21, 0]), (20, 24, []), (20, 24, []), (20, 24, []), (20, 24, []), (20, 24, []), (20, 24, [])]
def shT1 : List (Nat × Nat × List Nat) := [(20, 24, []), (20, 24, []), (0, 6, [23, 24, 25, 26, 0, 0]), (20, 20, []), (20, 20, []), (20, 20, []), (20, 20, []), (20, 8, []), (20, 10, []), (3, 14, []), (3, 14, []), (3, 14, []), (3, 14, []), (3, 14, []), (3, 14, []), (3, 14, []), (3, 14, []), (3, 14, []), (3, 14, []), (3, 14, [])]
def shT2 : List (Nat × Nat × List Nat) := [(3, 14, []), (3, 14, []), (3, 14, []), (3, 14, []), (3, 14, []), (3, 14, []), (3, 14, []), (3, 14, []), (3, 14, []), (3, 14, []), (3, 14, []), (3, 14, []), (3, 14, []), (5, 8, [0, 0, 0, 0, 0, 0, 0, 54]), (20, 96, []), (5, 8, [0, 0, 0, 0, 0, 0, 0, 56]), (20, 96, []), (5, 8, [0, 0, 0, 0, 0, 0, 0, 58]), (20, 96, []), (5, 8, [0, 0, 0, 0, 0, 0, 0, 60])]
def shT3 : List (Nat × Nat × List Nat) := [(20, 96, []), (5, 8, [0, 0, 0, 0, 0, 0, 0, 62]), (20, 96, []), (5, 8, [0, 0, 0, 0, 0, 0, 0, 64]), (20, 96, []), (5, 8, [0, 0, 0, 0, 0, 0, 0, 66]), (20, 96, []), (5, 8, [0, 0, 0, 0, 0, 0, 0, 68]), (20, 96, []), (5, 8, [0, 0, 0, 0, 0, 0, 0, 70]), (20, 96, []), (5, 8, [0, 0, 0, 0, 0, 0, 0, 72]), (20, 96, []), (5, 8, [0, 0, 0, 0, 0, 0, 0, 74]), (20, 96, []), (5, 8, [0, 0, 0, 0, 0, 0, 0, 76]), (20, 96, []), (5, 8, [0, 0, 0, 0, 0, 0, 0, 78]), (20, 96, []), (5, 8, [0, 0, 0, 0, 0, 0, 0, 80])]
def shT4 : List (Nat × Nat × List Nat) := [(20, 96, []), (5, 8, [0, 0, 0, 0, 0, 0, 0, 82]), (20, 96, []), (5, 8, [0, 0, 0, 0, 0, 0, 0, 84]), (20, 96, []), (7, 13, [86, 90, 95, 96, 97, 106, 111, 112, 0, 0, 0, 0, 0]), (2, 5, [87, 88, 89, 0, 0]), (20, 40, []), (20, 40, []), (20, 40, []), (8, 5, [91, 92, 93, 94, 0]), (20, 6, []), (20, 6, []), (20, 6, []), (20, 6, []), (33, 24, [113, 114, 115, 116, 117, 118, 119, 120, 121, 122, 123, 124, 125, 126, 127, 128, 129, 130, 131, 132, 133, 134, 135, 136]), (35, 16, [137, 139, 141, 143, 145, 147, 149, 151, 153, 155, 157, 159, 161, 163, 165, 167]), (1, 9, [98, 99, 100, 101, 102, 103, 104, 105, 0]), (20, 24, []), (20, 24, [])]
def shT5 : List (Nat × Nat × List Nat) := [(20, 24, []), (20, 24, []), (20, 24, []), (20, 24, []), (20, 24, []), (20, 24, []), (0, 6, [107, 108, 109, 110, 0, 0]), (20, 20, []), (20, 20, []), (20, 20, []), (20, 20, []), (20, 8, []), (20, 10, []), (3, 14, []), (3, 14, []), (3, 14, []), (3, 14, []), (3, 14, []), (3, 14, []), (3, 14, [])]
def shT6 : List (Nat × Nat × List Nat) := [(3, 14, []), (3, 14, []), (3, 14, []), (3, 14, []), (3, 14, []), (3, 14, []), (3, 14, []), (3, 14, []), (3, 14, []), (3, 14, []), (3, 14, []), (3, 14, []), (3, 14, []), (3, 14, []), (3, 14, []), (3, 14, []), (3, 14, []), (5, 8, [0, 0, 0, 0, 0, 0, 0, 138]), (20, 96, []), (5, 8, [0, 0, 0, 0, 0, 0, 0, 140])]
def shT7 : List (Nat × Nat × List Nat) := [(20, 96, []), (5, 8, [0, 0, 0, 0, 0, 0, 0, 142]), (20, 96, []), (5, 8, [0, 0, 0, 0, 0, 0, 0, 144]), (20, 96, []), (5, 8, [0, 0, 0, 0, 0, 0, 0, 146]), (20, 96, []), (5, 8, [0, 0, 0, 0, 0, 0, 0, 148]), (20, 96, []), (5, 8, [0, 0, 0, 0, 0, 0, 0, 150]), (20, 96, []), (5, 8, [0, 0, 0, 0, 0, 0, 0, 152]), (20, 96, []), (5, 8, [0, 0, 0, 0, 0, 0, 0, 154]), (20, 96, []), (5, 8, [0, 0, 0, 0, 0, 0, 0, 156]), (20, 96, []), (5, 8, [0, 0, 0, 0, 0, 0, 0, 158]), (20, 96, []), (5, 8, [0, 0, 0, 0, 0, 0, 0, 160])]
def shT8 : List (Nat × Nat × List Nat) := [(20, 96, []), (5, 8, [0, 0, 0, 0, 0, 0, 0, 162]), (20, 96, []), (5, 8, [0, 0, 0, 0, 0, 0, 0, 164]), (20, 96, []), (5, 8, [0, 0, 0, 0, 0, 0, 0, 166]), (20, 96, []), (5, 8, [0, 0, 0, 0, 0, 0, 0, 168]), (20, 96, []), (7, 13, [170, 174, 179, 180, 181, 190, 195, 196, 0, 0, 0, 0, 0]), (2, 5, [171, 172, 173, 0, 0]), (20, 40, []), (20, 40, []), (20, 40, []), (8, 5, [175, 176, 177, 178, 0]), (20, 6, []), (20, 6, []), (20, 6, []), (20, 6, []), (33, 24, [197, 198, 199, 200, 201, 202, 203, 204, 205, 206, 207, 208, 209, 210, 211, 212, 213, 214, 215, 216, 217, 218, 219, 220])]
def shT9 : List (Nat × Nat × List Nat) := [(35, 16, [221, 223, 225, 227, 229, 231, 233, 235, 237, 239, 241, 243, 245, 247, 249, 251]), (1, 9, [182, 183, 184, 185, 186, 187, 188, 189, 0]), (20, 24, []), (20, 24, []), (20, 24, []), (20, 24, []), (20, 24, []), (20, 24, []), (20, 24, []), (20, 24, []), (0, 6, [191, 192, 193, 194, 0, 0]), (20, 20, []), (20, 20, []), (20, 20, []), (20, 20, []), (20, 8, []), (20, 10, []), (3, 14, []), (3, 14, []), (3, 14, [])]
def shT10 : List (Nat × Nat × List Nat) := [(3, 14, []), (3, 14, []), (3, 14, []), (3, 14, []), (3, 14, []), (3, 14, []), (3, 14, []), (3, 14, []), (3, 14, []), (3, 14, []), (3, 14, []), (3, 14, []), (3, 14, []), (3, 14, []), (3, 14, []), (3, 14, []), (3, 14, []), (3, 14, []), (3, 14, []), (3, 14, [])]
def shT11 : List (Nat × Nat × List Nat) := [(3, 14, []), (5, 8, [0, 0, 0, 0, 0, 0, 0, 222]), (20, 96, []), (5, 8, [0, 0, 0, 0, 0, 0, 0, 224]), (20, 96, []), (5, 8, [0, 0, 0, 0, 0, 0, 0, 226]), (20, 96, []), (5, 8, [0, 0, 0, 0, 0, 0, 0, 228]), (20, 96, []), (5, 8, [0, 0, 0, 0, 0, 0, 0, 230]), (20, 96, []), (5, 8, [0, 0, 0, 0, 0, 0, 0, 232]), (20, 96, []), (5, 8, [0, 0, 0, 0, 0, 0, 0, 234]), (20, 96, []), (5, 8, [0, 0, 0, 0, 0, 0, 0, 236]), (20, 96, []), (5, 8, [0, 0, 0, 0, 0, 0, 0, 238]), (20, 96, []), (5, 8, [0, 0, 0, 0, 0, 0, 0, 240])]
def shT12 : List (Nat × Nat × List Nat) := [(20, 96, []), (5, 8, [0, 0, 0, 0, 0, 0, 0, 242]), (20, 96, []), (5, 8, [0, 0, 0, 0, 0, 0, 0, 244]), (20, 96, []), (5, 8, [0, 0, 0, 0, 0, 0, 0, 246]), (20, 96, []), (5, 8, [0, 0, 0, 0, 0, 0, 0, 248]), (20, 96, []), (5, 8, [0, 0, 0, 0, 0, 0, 0, 250]), (20, 96, []), (5, 8, [0, 0, 0, 0, 0, 0, 0, 252]), (20, 96, []), (10, 6, [254, 255, 0, 0, 0, 0]), (20, 6, []), (20, 6, []), (9, 9, [257, 258, 259, 260, 261, 0, 0, 0, 0]), (21, 96, []), (20, 97, []), (20, 97, [])]
def shT13 : List (Nat × Nat × List Nat) := [(20, 97, []), (5, 8, [0, 0, 0, 0, 0, 0, 0, 262]), (20, 96, []), (20, 60, []), (34, 4, [266, 268, 270, 272]), (36, 6, [274, 278, 282, 286, 290, 294]), (4, 3, [267, 0, 0]), (20, 24, []), (4, 3, [269, 0, 0]), (20, 24, []), (4, 3, [271, 0, 0]), (20, 24, []), (4, 3, [273, 0, 0]), (20, 24, []), (6, 4, [275, 276, 0, 0]), (3, 14, []), (4, 3, [277, 0, 0]), (20, 24, []), (6, 4, [279, 280, 0, 0]), (3, 14, [])]
def shT14 : List (Nat × Nat × List Nat) := [(4, 3, [281, 0, 0]), (20, 24, []), (6, 4, [283, 284, 0, 0]), (3, 14, []), (4, 3, [285, 0, 0]), (20, 24, []), (6, 4, [287, 288, 0, 0]), (3, 14, []), (4, 3, [289, 0, 0]), (20, 24, []), (6, 4, [291, 292, 0, 0]), (3, 14, []), (4, 3, [293, 0, 0]), (20, 24, []), (6, 4, [295, 296, 0, 0]), (3, 14, []), (4, 3, [297, 0, 0]), (20, 24, []), (12, 47, [299, 300, 301, 0, 302, 303, 304, 0, 0, 305, 0, 306, 307, 0, 0, 0, 0, 0, 0, 0, 0, 0, 308, 0, 0, 0, 0, 0, 0, 0, 309, 0, 0, 0, 310, 311, 312, 313, 314, 315, 316, 317, 318, 319, 0, 320, 321]), (20, 5528, [])]
def shT15 : List (Nat × Nat × List Nat) := [(20, 5528, []), (20, 5528, []), (20, 7, []), (20, 7, []), (20, 6, []), (20, 96, []), (23, 68, []), (20, 18, []), (20, 288, []), (20, 100, []), (22, 48, []), (22, 16, []), (20, 10, []), (20, 10, []), (20, 240, []), (20, 24, []), (20, 6, []), (20, 6, []), (20, 6, []), (20, 6, [])]
def shT16 : List (Nat × Nat × List Nat) := [(20, 60, []), (20, 60, [])]
def shTT : List (List (Nat × Nat × List Nat)) := [shT0, shT1, shT2, shT3, shT4, shT5, shT6, shT7, shT8, shT9, shT10, shT11, shT12, shT13, shT14, shT15, shT16]
def shE (k : Nat) : Nat × Nat × List Nat := (shTT.getD (k / 20) []).getD (k % 20) (99, 0, [])
def tgT (k : Nat) : Nat := (shE k).1
def lnT (k : Nat) : Nat := (shE k).2.1
def rfT (k i : Nat) : Nat := (shE k).2.2.getD i 0
/-- which places of a kind of object hold references -/
def isR (t i : Nat) : Bool := if t < 20 then decide (i < nF t) && isRf (fty t i) else decide (30 ≤ t)
/-- the shape that the constructors leave -/
def ShOK (S : Sh) : Prop := S.1 = 322 ∧ ∀ k, k < 322 → (S.2 k).1 = tgT k ∧ (S.2 k).2.1 = lnT k ∧ ∀ i, i < lnT k → isR (tgT k) i = true → (S.2 k).2.2 i = some (rfT k i)
theorem tg_lt {k : Nat} (h : tgT k ≠ 99) : k < 322 := by
  by_cases q : k < 322
  · exact q
  · exfalso
    apply h
    unfold tgT shE
    by_cases h2 : k / 20 < 17
    · have : k / 20 = 16 := by omega
      rw [this]
      have h3 : 2 ≤ k % 20 := by omega
      show (shT16.getD (k % 20) (99, 0, [])).1 = 99
      rw [List.getD_eq_getElem?_getD, List.getElem?_eq_none (by show 2 ≤ k % 20; exact h3)]
      rfl
    · rw [List.getD_eq_getElem?_getD (l := shTT), List.getElem?_eq_none (by show 17 ≤ k / 20; omega)]
      rfl
theorem ShOK.at {S : Sh} (h : ShOK S) {k : Nat} (hk : tgT k ≠ 99) : hC S k = S.2 k ∧ (S.2 k).1 = tgT k ∧ (S.2 k).2.1 = lnT k ∧ ∀ i, i < lnT k → isR (tgT k) i = true → (S.2 k).2.2 i = some (rfT k i) := by
  have h1 := tg_lt hk
  exact ⟨hC_eq (by rw [h.1]; exact h1), h.2 k h1⟩
set_option maxRecDepth 100000 in
theorem ln_obj_all : (List.range 322).all (fun k => decide (tgT k < 20 → lnT k = nF (tgT k))) = true := by decide +kernel
theorem ln_obj {k : Nat} (h : tgT k < 20) : lnT k = nF (tgT k) := by
  have h1 : k < 322 := tg_lt (by omega)
  exact of_decide_eq_true (List.all_eq_true.mp ln_obj_all k (List.mem_range.mpr h1)) h
section RfA
variable {α : Type} {X : Xt} {S : Sh} {em : α → Option Value × Mm} {x y : Option α} {d mi pc : Nat} {loc st : List Value} {σ : Mm}
theorem rf_none : Rf X S em none d mi pc loc st σ := fun _ h => by cases h
theorem rf_ite {c : Prop} [Decidable c] (h1 : c → Rf X S em x d mi pc loc st σ) (h2 : ¬ c → Rf X S em y d mi pc loc st σ) : Rf X S em (if c then x else y) d mi pc loc st σ := by
  by_cases hc : c
  · rw [if_pos hc]; exact h1 hc
  · rw [if_neg hc]; exact h2 hc
/-- one step -/
theorem rf_stp {ins : Instr} {len co pc' : Nat} {loc' st' : List Value} {σ' : Mm} (hcd : cd mi pc = some (ins, len)) (hco : mCo mi = co) (hk : cko ins = none) (hni : ins ≠ .ireturn) (hnr : ins ≠ .return_) (hs : stp X co (mKind mi == 2) pc ins len loc st (S, σ) = some (pc', loc', st', (S, σ'))) (k : Rf X S em x d mi pc' loc' st' σ') : Rf X S em x d mi pc loc st σ := by
  intro a ha
  obtain ⟨n, r, σ2, hr, hq⟩ := k a ha
  refine ⟨n + 1, r, σ2, ?_, hq⟩
  rw [run, hcd]
  dsimp only
  rw [hk]
  dsimp only
  subst hco
  split
  · exact absurd rfl hni
  · exact absurd rfl hnr
  · rw [hs]; exact hr
theorem rf_iconst {i : Int} {v : Int32} (hcd : cd mi pc = some (.iconst i, 1)) (hv : Int32.ofInt i = v) (k : Rf X S em x d mi (pc + 1) loc (.int v :: st) σ) : Rf X S em x d mi pc loc st σ := by
  subst hv
  exact rf_stp hcd rfl rfl (fun h => by cases h) (fun h => by cases h) rfl k
theorem rf_bipush {i : Int} {v : Int32} (hcd : cd mi pc = some (.bipush i, 2)) (hv : (Int8.ofInt i).toInt32 = v) (k : Rf X S em x d mi (pc + 2) loc (.int v :: st) σ) : Rf X S em x d mi pc loc st σ := by
  subst hv
  exact rf_stp hcd rfl rfl (fun h => by cases h) (fun h => by cases h) rfl k
theorem rf_sipush {i : Int} {v : Int32} (hcd : cd mi pc = some (.sipush i, 3)) (hv : (Int16.ofInt i).toInt32 = v) (k : Rf X S em x d mi (pc + 3) loc (.int v :: st) σ) : Rf X S em x d mi pc loc st σ := by
  subst hv
  exact rf_stp hcd rfl rfl (fun h => by cases h) (fun h => by cases h) rfl k
theorem rf_ldc {idx co len : Nat} {v : Int32} {ins : Instr} (hi : (ins = .ldc idx ∧ len = 2) ∨ (ins = .ldc_w idx ∧ len = 3)) (hcd : cd mi pc = some (ins, len)) (hco : mCo mi = co) (hv : kl co idx = some v) (k : Rf X S em x d mi (pc + len) loc (.int v :: st) σ) : Rf X S em x d mi pc loc st σ := by
  rcases hi with ⟨rfl, rfl⟩ | ⟨rfl, rfl⟩
  · exact rf_stp hcd hco rfl (fun h => by cases h) (fun h => by cases h) (by show ldcX co pc idx 2 loc st (S, σ) = _; unfold ldcX; rw [hv]) k
  · exact rf_stp hcd hco rfl (fun h => by cases h) (fun h => by cases h) (by show ldcX co pc idx 3 loc st (S, σ) = _; unfold ldcX; rw [hv]) k
theorem rf_ldcS {idx co j : Nat} (hcd : cd mi pc = some (.ldc idx, 2)) (hco : mCo mi = co) (hv : kl co idx = none) (hj : sll co idx = some j) (k : Rf X S em x d mi (pc + 2) loc (.ref (1000001 + j) :: st) σ) : Rf X S em x d mi pc loc st σ :=
  rf_stp hcd hco rfl (fun h => by cases h) (fun h => by cases h) (by show ldcX co pc idx 2 loc st (S, σ) = _; unfold ldcX; rw [hv, if_pos rfl, hj]) k
theorem rf_ild {i : Nat} {len : Nat} {v : Int32} {ins : Instr} (hi : (ins = .iload i ∧ len = 2) ∨ ∃ n : Fin 4, ins = .iload_n n ∧ (n : Nat) = i ∧ len = 1) (hcd : cd mi pc = some (ins, len)) (hl : loc[i]? = some (.int v)) (k : Rf X S em x d mi (pc + len) loc (.int v :: st) σ) : Rf X S em x d mi pc loc st σ := by
  rcases hi with ⟨rfl, rfl⟩ | ⟨n, rfl, rfl, rfl⟩
  · exact rf_stp hcd rfl rfl (fun h => by cases h) (fun h => by cases h) (by show ldI pc loc st (S, σ) i 2 = _; unfold ldI; rw [hl]) k
  · exact rf_stp hcd rfl rfl (fun h => by cases h) (fun h => by cases h) (by show ldI pc loc st (S, σ) n 1 = _; unfold ldI; rw [hl]) k
theorem rf_ald {i : Nat} {len : Nat} {v : Nat} {ins : Instr} (hi : (ins = .aload i ∧ len = 2) ∨ ∃ n : Fin 4, ins = .aload_n n ∧ (n : Nat) = i ∧ len = 1) (hcd : cd mi pc = some (ins, len)) (hl : loc[i]? = some (.ref v)) (k : Rf X S em x d mi (pc + len) loc (.ref v :: st) σ) : Rf X S em x d mi pc loc st σ := by
  rcases hi with ⟨rfl, rfl⟩ | ⟨n, rfl, rfl, rfl⟩
  · exact rf_stp hcd rfl rfl (fun h => by cases h) (fun h => by cases h) (by show ldA pc loc st (S, σ) i 2 = _; unfold ldA; rw [hl]) k
  · exact rf_stp hcd rfl rfl (fun h => by cases h) (fun h => by cases h) (by show ldA pc loc st (S, σ) n 1 = _; unfold ldA; rw [hl]) k
theorem rf_ist {i : Nat} {len : Nat} {v : Int32} {ins : Instr} {loc' : List Value} (hi : (ins = .istore i ∧ len = 2) ∨ ∃ n : Fin 4, ins = .istore_n n ∧ (n : Nat) = i ∧ len = 1) (hcd : cd mi pc = some (ins, len)) (hl : i < loc.length) (he : loc.set i (.int v) = loc') (k : Rf X S em x d mi (pc + len) loc' st σ) : Rf X S em x d mi pc loc (.int v :: st) σ := by
  subst he
  rcases hi with ⟨rfl, rfl⟩ | ⟨n, rfl, rfl, rfl⟩
  · exact rf_stp hcd rfl rfl (fun h => by cases h) (fun h => by cases h) (by show stI pc loc (.int v :: st) (S, σ) i 2 = _; unfold stI; dsimp only; rw [if_pos hl]) k
  · exact rf_stp hcd rfl rfl (fun h => by cases h) (fun h => by cases h) (by show stI pc loc (.int v :: st) (S, σ) n 1 = _; unfold stI; dsimp only; rw [if_pos hl]) k
theorem rf_ast {i : Nat} {len : Nat} {v : Nat} {ins : Instr} {loc' : List Value} (hi : (ins = .astore i ∧ len = 2) ∨ ∃ n : Fin 4, ins = .astore_n n ∧ (n : Nat) = i ∧ len = 1) (hcd : cd mi pc = some (ins, len)) (hl : i < loc.length) (he : loc.set i (.ref v) = loc') (k : Rf X S em x d mi (pc + len) loc' st σ) : Rf X S em x d mi pc loc (.ref v :: st) σ := by
  subst he
  rcases hi with ⟨rfl, rfl⟩ | ⟨n, rfl, rfl, rfl⟩
  · exact rf_stp hcd rfl rfl (fun h => by cases h) (fun h => by cases h) (by show stA pc loc (.ref v :: st) (S, σ) i 2 = _; unfold stA; dsimp only; rw [if_pos hl]) k
  · exact rf_stp hcd rfl rfl (fun h => by cases h) (fun h => by cases h) (by show stA pc loc (.ref v :: st) (S, σ) n 1 = _; unfold stA; dsimp only; rw [if_pos hl]) k
theorem rf_iinc {i : Nat} {n : Int} {v w : Int32} {loc' : List Value} (hcd : cd mi pc = some (.iinc i n, 3)) (hl : loc[i]? = some (.int v)) (hw : Int32.ofInt n = w) (he : loc.set i (.int (v + w)) = loc') (k : Rf X S em x d mi (pc + 3) loc' st σ) : Rf X S em x d mi pc loc st σ := by
  subst he; subst hw
  exact rf_stp hcd rfl rfl (fun h => by cases h) (fun h => by cases h) (by
    have e0 : stp X (mCo mi) (mKind mi == 2) pc (.iinc i n) 3 loc st (S, σ) = (match loc[i]? with
      | some (.int x) => some (pc + 3, loc.set i (.int (x + Int32.ofInt n)), st, (S, σ))
      | _ => none) := rfl
    rw [e0, hl]) k
theorem rf_iadd {a b : Int32} (hcd : cd mi pc = some (.iadd, 1)) (k : Rf X S em x d mi (pc + 1) loc (.int (a + b) :: st) σ) : Rf X S em x d mi pc loc (.int b :: .int a :: st) σ := rf_stp hcd rfl rfl (fun h => by cases h) (fun h => by cases h) rfl k
theorem rf_isub {a b : Int32} (hcd : cd mi pc = some (.isub, 1)) (k : Rf X S em x d mi (pc + 1) loc (.int (a - b) :: st) σ) : Rf X S em x d mi pc loc (.int b :: .int a :: st) σ := rf_stp hcd rfl rfl (fun h => by cases h) (fun h => by cases h) rfl k
theorem rf_imul {a b : Int32} (hcd : cd mi pc = some (.imul, 1)) (k : Rf X S em x d mi (pc + 1) loc (.int (a * b) :: st) σ) : Rf X S em x d mi pc loc (.int b :: .int a :: st) σ := rf_stp hcd rfl rfl (fun h => by cases h) (fun h => by cases h) rfl k
theorem rf_iand {a b : Int32} (hcd : cd mi pc = some (.iand, 1)) (k : Rf X S em x d mi (pc + 1) loc (.int (a &&& b) :: st) σ) : Rf X S em x d mi pc loc (.int b :: .int a :: st) σ := rf_stp hcd rfl rfl (fun h => by cases h) (fun h => by cases h) rfl k
theorem rf_ior {a b : Int32} (hcd : cd mi pc = some (.ior, 1)) (k : Rf X S em x d mi (pc + 1) loc (.int (a ||| b) :: st) σ) : Rf X S em x d mi pc loc (.int b :: .int a :: st) σ := rf_stp hcd rfl rfl (fun h => by cases h) (fun h => by cases h) rfl k
theorem rf_ixor {a b : Int32} (hcd : cd mi pc = some (.ixor, 1)) (k : Rf X S em x d mi (pc + 1) loc (.int (a ^^^ b) :: st) σ) : Rf X S em x d mi pc loc (.int b :: .int a :: st) σ := rf_stp hcd rfl rfl (fun h => by cases h) (fun h => by cases h) rfl k
theorem rf_ishl {a b : Int32} (hcd : cd mi pc = some (.ishl, 1)) (k : Rf X S em x d mi (pc + 1) loc (.int (a <<< (b &&& 31)) :: st) σ) : Rf X S em x d mi pc loc (.int b :: .int a :: st) σ := rf_stp hcd rfl rfl (fun h => by cases h) (fun h => by cases h) rfl k
theorem rf_ishr {a b : Int32} (hcd : cd mi pc = some (.ishr, 1)) (k : Rf X S em x d mi (pc + 1) loc (.int (a >>> (b &&& 31)) :: st) σ) : Rf X S em x d mi pc loc (.int b :: .int a :: st) σ := rf_stp hcd rfl rfl (fun h => by cases h) (fun h => by cases h) rfl k
theorem rf_iushr {a b : Int32} (hcd : cd mi pc = some (.iushr, 1)) (k : Rf X S em x d mi (pc + 1) loc (.int (ush a b) :: st) σ) : Rf X S em x d mi pc loc (.int b :: .int a :: st) σ := rf_stp hcd rfl rfl (fun h => by cases h) (fun h => by cases h) rfl k
theorem rf_idiv {a b : Int32} (hcd : cd mi pc = some (.idiv, 1)) (hb : ¬ b = 0) (k : Rf X S em x d mi (pc + 1) loc (.int (a / b) :: st) σ) : Rf X S em x d mi pc loc (.int b :: .int a :: st) σ := rf_stp hcd rfl rfl (fun h => by cases h) (fun h => by cases h) (by show opI pc loc (.int b :: .int a :: st) (S, σ) (fun x y => if y = 0 then none else some (x / y)) = _; unfold opI; dsimp only; rw [if_neg hb]) k
theorem rf_irem {a b : Int32} (hcd : cd mi pc = some (.irem, 1)) (hb : ¬ b = 0) (k : Rf X S em x d mi (pc + 1) loc (.int (irm a b) :: st) σ) : Rf X S em x d mi pc loc (.int b :: .int a :: st) σ := rf_stp hcd rfl rfl (fun h => by cases h) (fun h => by cases h) (by show opI pc loc (.int b :: .int a :: st) (S, σ) (fun x y => if y = 0 then none else some (x - x / y * y)) = _; unfold opI; dsimp only; rw [if_neg hb]) k
theorem rf_i2b {a : Int32} (hcd : cd mi pc = some (.i2b, 1)) (k : Rf X S em x d mi (pc + 1) loc (.int a.toInt8.toInt32 :: st) σ) : Rf X S em x d mi pc loc (.int a :: st) σ := rf_stp hcd rfl rfl (fun h => by cases h) (fun h => by cases h) rfl k
theorem rf_i2s {a : Int32} (hcd : cd mi pc = some (.i2s, 1)) (k : Rf X S em x d mi (pc + 1) loc (.int a.toInt16.toInt32 :: st) σ) : Rf X S em x d mi pc loc (.int a :: st) σ := rf_stp hcd rfl rfl (fun h => by cases h) (fun h => by cases h) rfl k
theorem rf_dup {v : Value} (hcd : cd mi pc = some (.dup, 1)) (hv : v.category = 1) (k : Rf X S em x d mi (pc + 1) loc (v :: v :: st) σ) : Rf X S em x d mi pc loc (v :: st) σ := rf_stp hcd rfl rfl (fun h => by cases h) (fun h => by cases h) (by show (if v.category = 1 then some (pc + 1, loc, v :: v :: st, (S, σ)) else none) = _; rw [if_pos hv]) k
theorem rf_dup2 {v w : Value} (hcd : cd mi pc = some (.dup2, 1)) (hv : v.category = 1) (hw : w.category = 1) (k : Rf X S em x d mi (pc + 1) loc (v :: w :: v :: w :: st) σ) : Rf X S em x d mi pc loc (v :: w :: st) σ := rf_stp hcd rfl rfl (fun h => by cases h) (fun h => by cases h) (by show (if v.category = 1 ∧ w.category = 1 then some (pc + 1, loc, v :: w :: v :: w :: st, (S, σ)) else none) = _; rw [if_pos ⟨hv, hw⟩]) k
theorem rf_pop {v : Value} (hcd : cd mi pc = some (.pop, 1)) (hv : v.category = 1) (k : Rf X S em x d mi (pc + 1) loc st σ) : Rf X S em x d mi pc loc (v :: st) σ := rf_stp hcd rfl rfl (fun h => by cases h) (fun h => by cases h) (by show (if v.category = 1 then some (pc + 1, loc, st, (S, σ)) else none) = _; rw [if_pos hv]) k
theorem rf_goto {off : Int} {q : Nat} (hcd : cd mi pc = some (.goto off, 3)) (hj : jmp pc off = some q) (k : Rf X S em x d mi q loc st σ) : Rf X S em x d mi pc loc st σ := rf_stp hcd rfl rfl (fun h => by cases h) (fun h => by cases h) (by
    have e0 : stp X (mCo mi) (mKind mi == 2) pc (.goto off) 3 loc st (S, σ) = (match jmp pc off with
      | some q => some (q, loc, st, (S, σ))
      | none => none) := rfl
    rw [e0, hj]) k
theorem rf_b1t {c : ClassFile.Cond} {off : Int} {q : Nat} {a : Int32} (hcd : cd mi pc = some (.ifCond c off, 3)) (hj : jmp pc off = some q) (hc : cndB c a 0 = true) (k : Rf X S em x d mi q loc st σ) : Rf X S em x d mi pc loc (.int a :: st) σ := rf_stp hcd rfl rfl (fun h => by cases h) (fun h => by cases h) (by show br1 pc loc (.int a :: st) (S, σ) c off = _; unfold br1; dsimp only; rw [hj, hc]; rfl) k
theorem rf_b1f {c : ClassFile.Cond} {off : Int} {q : Nat} {a : Int32} (hcd : cd mi pc = some (.ifCond c off, 3)) (hj : jmp pc off = some q) (hc : cndB c a 0 = false) (k : Rf X S em x d mi (pc + 3) loc st σ) : Rf X S em x d mi pc loc (.int a :: st) σ := rf_stp hcd rfl rfl (fun h => by cases h) (fun h => by cases h) (by show br1 pc loc (.int a :: st) (S, σ) c off = _; unfold br1; dsimp only; rw [hj, hc]; rfl) k
theorem rf_b2t {c : ClassFile.Cond} {off : Int} {q : Nat} {a b : Int32} (hcd : cd mi pc = some (.if_icmp c off, 3)) (hj : jmp pc off = some q) (hc : cndB c a b = true) (k : Rf X S em x d mi q loc st σ) : Rf X S em x d mi pc loc (.int b :: .int a :: st) σ := rf_stp hcd rfl rfl (fun h => by cases h) (fun h => by cases h) (by show br2 pc loc (.int b :: .int a :: st) (S, σ) c off = _; unfold br2; dsimp only; rw [hj, hc]; rfl) k
theorem rf_b2f {c : ClassFile.Cond} {off : Int} {q : Nat} {a b : Int32} (hcd : cd mi pc = some (.if_icmp c off, 3)) (hj : jmp pc off = some q) (hc : cndB c a b = false) (k : Rf X S em x d mi (pc + 3) loc st σ) : Rf X S em x d mi pc loc (.int b :: .int a :: st) σ := rf_stp hcd rfl rfl (fun h => by cases h) (fun h => by cases h) (by show br2 pc loc (.int b :: .int a :: st) (S, σ) c off = _; unfold br2; dsimp only; rw [hj, hc]; rfl) k
theorem rf_tsw {dd lo hi : Int} {offs : Array Int} {len q : Nat} {a : Int32} {o : Int} (hcd : cd mi pc = some (.tableswitch dd lo hi offs, len)) (ho : (if a.toInt < lo ∨ hi < a.toInt then some dd else offs[(a.toInt - lo).toNat]?) = some o) (hj : jmp pc o = some q) (k : Rf X S em x d mi q loc st σ) : Rf X S em x d mi pc loc (.int a :: st) σ :=
  rf_stp hcd rfl rfl (fun h => by cases h) (fun h => by cases h) (by show tsw pc loc (.int a :: st) (S, σ) dd lo hi offs = _; unfold tsw; dsimp only; rw [ho]; dsimp only; rw [hj]) k
theorem rf_lsw {dd : Int} {ps : Array (Int × Int)} {len q : Nat} {a : Int32} {o : Int} (hcd : cd mi pc = some (.lookupswitch dd ps, len)) (hp : (ps.toList.zip (ps.toList.drop 1)).all (fun (a, next) => a.1 < next.1) = true) (ho : Op.lookupswitch.offset ps.toList dd a.toInt = o) (hj : jmp pc o = some q) (k : Rf X S em x d mi q loc st σ) : Rf X S em x d mi pc loc (.int a :: st) σ :=
  rf_stp hcd rfl rfl (fun h => by cases h) (fun h => by cases h) (by show lsw pc loc (.int a :: st) (S, σ) dd ps = _; unfold lsw; dsimp only; rw [if_pos hp, ho, hj]) k
theorem rf_geti (hS : ShOK S) {idx co ci k a : Nat} (hcd : cd mi pc = some (.getfield idx, 3)) (hco : mCo mi = co) (hf : fl co idx = some (ci, k)) (hr : isRf (fty ci k) = false) (ht : tgT a = ci) (kk : Rf X S em x d mi (pc + 3) loc (.int (σ a k) :: st) σ) : Rf X S em x d mi pc loc (.ref a :: st) σ := by
  have f3 := (fl_ok hf).2.2
  obtain ⟨e1, e2, e3, e4⟩ := hS.at (k := a) (by omega)
  refine rf_stp hcd hco rfl (fun h => by cases h) (fun h => by cases h) ?_ kk
  show getF co pc idx loc (.ref a :: st) (S, σ) = _
  unfold getF
  dsimp only
  rw [hf]
  dsimp only
  rw [if_pos (by rw [e1, e2, ht]), if_neg (by rw [hr]; decide)]
theorem rf_getr (hS : ShOK S) {idx co ci k a : Nat} (hcd : cd mi pc = some (.getfield idx, 3)) (hco : mCo mi = co) (hf : fl co idx = some (ci, k)) (hr : isRf (fty ci k) = true) (ht : tgT a = ci) (kk : Rf X S em x d mi (pc + 3) loc (.ref (rfT a k) :: st) σ) : Rf X S em x d mi pc loc (.ref a :: st) σ := by
  obtain ⟨f1, f2, f3⟩ := fl_ok hf
  obtain ⟨e1, e2, e3, e4⟩ := hS.at (k := a) (by omega)
  refine rf_stp hcd hco rfl (fun h => by cases h) (fun h => by cases h) ?_ kk
  show getF co pc idx loc (.ref a :: st) (S, σ) = _
  unfold getF
  dsimp only
  rw [hf]
  dsimp only
  rw [if_pos (by rw [e1, e2, ht]), if_pos hr, e1, e4 k (by rw [ln_obj (by omega), ht]; exact f2) (by unfold isR; rw [if_pos (by omega), ht]; simp [f2, hr])]
  rfl
theorem rf_puti (hS : ShOK S) {idx co ci k a : Nat} {v : Int32} (hcd : cd mi pc = some (.putfield idx, 3)) (hco : mCo mi = co) (hf : fl co idx = some (ci, k)) (hm : mayF co ci k (mKind mi == 2) = true) (hr : isRf (fty ci k) = false) (hn : narrow (fty ci k) (.int v) = .int v) (hfi : fits (fty ci k) (.int v) = true) (ht : tgT a = ci) (kk : Rf X S em x d mi (pc + 3) loc st (up2 σ a k v)) : Rf X S em x d mi pc loc (.int v :: .ref a :: st) σ := by
  have f3 := (fl_ok hf).2.2
  obtain ⟨e1, e2, e3, e4⟩ := hS.at (k := a) (by omega)
  refine rf_stp hcd hco rfl (fun h => by cases h) (fun h => by cases h) ?_ kk
  show putF co pc idx (mKind mi == 2) loc (.int v :: .ref a :: st) (S, σ) = _
  unfold putF
  dsimp only
  rw [hf]
  dsimp only
  rw [if_pos ⟨by rw [e1, e2, ht], hm⟩, if_pos ⟨hr, hn, hfi⟩]
theorem rf_iald (hS : ShOK S) {a n : Nat} {i : Int32} (hcd : cd mi pc = some (.iaload, 1)) (ht : tgT a = 20) (hn : lnT a = n) (hb : inbB i n = true) (kk : Rf X S em x d mi (pc + 1) loc (.int (σ a (ix i)) :: st) σ) : Rf X S em x d mi pc loc (.int i :: .ref a :: st) σ := by
  obtain ⟨e1, e2, e3, e4⟩ := hS.at (k := a) (by omega)
  have hlt := tg_lt (k := a) (by omega)
  refine rf_stp hcd rfl rfl (fun h => by cases h) (fun h => by cases h) ?_ kk
  show ldX pc loc (.int i :: .ref a :: st) (S, σ) (fun a i => rdI X (S, σ) a i) = _
  unfold ldX rdI
  dsimp only
  rw [if_pos (by omega), if_pos ⟨by rw [e1, e2, ht], by rw [e1, e3, hn]; exact hb⟩]
theorem rf_kald {i : Int32} (hcd : cd mi pc = some (.iaload, 1)) (hb : inbB i 5 = true) (kk : Rf X S em x d mi (pc + 1) loc (.int (kAbove.getD (ix i) 0) :: st) σ) : Rf X S em x d mi pc loc (.int i :: .ref 1000000 :: st) σ := by
  refine rf_stp hcd rfl rfl (fun h => by cases h) (fun h => by cases h) ?_ kk
  show ldX pc loc (.int i :: .ref 1000000 :: st) (S, σ) (fun a i => rdI X (S, σ) a i) = _
  unfold ldX rdI
  dsimp only
  rw [if_neg (by omega), if_pos rfl, if_pos hb]
theorem rf_xald {i : Int32} (hcd : cd mi pc = some (.iaload, 1)) (hb : inbB i X.1 = true) (kk : Rf X S em x d mi (pc + 1) loc (.int (X.2 (ix i)) :: st) σ) : Rf X S em x d mi pc loc (.int i :: .ref 1000009 :: st) σ := by
  refine rf_stp hcd rfl rfl (fun h => by cases h) (fun h => by cases h) ?_ kk
  show ldX pc loc (.int i :: .ref 1000009 :: st) (S, σ) (fun a i => rdI X (S, σ) a i) = _
  unfold ldX rdI
  dsimp only
  rw [if_neg (by omega), if_neg (by omega), if_pos rfl, if_pos hb]
theorem rf_alen (hcd : cd mi pc = some (.arraylength, 1)) (kk : Rf X S em x d mi (pc + 1) loc (.int (Int32.ofNat X.1) :: st) σ) : Rf X S em x d mi pc loc (.ref 1000009 :: st) σ :=
  rf_stp hcd rfl rfl (fun h => by cases h) (fun h => by cases h) rfl kk
theorem rf_cald (hS : ShOK S) {a n : Nat} {i : Int32} (hcd : cd mi pc = some (.caload, 1)) (ht : tgT a = 23) (hn : lnT a = n) (hb : inbB i n = true) (kk : Rf X S em x d mi (pc + 1) loc (.int (σ a (ix i)) :: st) σ) : Rf X S em x d mi pc loc (.int i :: .ref a :: st) σ := by
  obtain ⟨e1, e2, e3, e4⟩ := hS.at (k := a) (by omega)
  refine rf_stp hcd rfl rfl (fun h => by cases h) (fun h => by cases h) ?_ kk
  show ldX pc loc (.int i :: .ref a :: st) (S, σ) (fun a i => rdT (S, σ) a i 23) = _
  unfold ldX rdT
  dsimp only
  rw [if_pos ⟨by rw [e1, e2, ht], by rw [e1, e3, hn]; exact hb⟩]
theorem rf_bald (hS : ShOK S) {a n : Nat} {i : Int32} (hcd : cd mi pc = some (.baload, 1)) (ht : tgT a = 21 ∨ tgT a = 22) (hn : lnT a = n) (hb : inbB i n = true) (kk : Rf X S em x d mi (pc + 1) loc (.int (σ a (ix i)) :: st) σ) : Rf X S em x d mi pc loc (.int i :: .ref a :: st) σ := by
  obtain ⟨e1, e2, e3, e4⟩ := hS.at (k := a) (by omega)
  refine rf_stp hcd rfl rfl (fun h => by cases h) (fun h => by cases h) ?_ kk
  have e0 : stp X (mCo mi) (mKind mi == 2) pc .baload 1 loc (.int i :: .ref a :: st) (S, σ) = ldX pc loc (.int i :: .ref a :: st) (S, σ) (fun a i => match rdT (S, σ) a i 21 with
    | some z => some z
    | none => rdT (S, σ) a i 22) := rfl
  rw [e0]
  unfold ldX
  dsimp only
  rcases ht with ht | ht
  · unfold rdT
    rw [if_pos ⟨by rw [e1, e2, ht], by rw [e1, e3, hn]; exact hb⟩]
  · unfold rdT
    rw [if_neg (by rw [e1, e2, ht]; exact fun z => absurd z.1 (by decide)), if_pos ⟨by rw [e1, e2, ht], by rw [e1, e3, hn]; exact hb⟩]
theorem rf_aald (hS : ShOK S) {a n : Nat} {i : Int32} (hcd : cd mi pc = some (.aaload, 1)) (ht : 33 ≤ tgT a) (ht2 : tgT a < 37) (hn : lnT a = n) (hb : inbB i n = true) (kk : Rf X S em x d mi (pc + 1) loc (.ref (rfT a (ix i)) :: st) σ) : Rf X S em x d mi pc loc (.int i :: .ref a :: st) σ := by
  obtain ⟨e1, e2, e3, e4⟩ := hS.at (k := a) (by omega)
  have hlt : ix i < n := Nat.not_le.mp fun q => (inbB_iff.mp hb) (Or.inr q)
  refine rf_stp hcd rfl rfl (fun h => by cases h) (fun h => by cases h) ?_ kk
  show aald0 pc loc (.int i :: .ref a :: st) (S, σ) = _
  unfold aald0
  dsimp only
  rw [e1, e2, e3, if_pos ⟨ht, ht2, by rw [hn]; exact hb⟩, e4 _ (by rw [hn]; exact hlt) (by unfold isR; rw [if_neg (by omega)]; simp; omega)]
  rfl
theorem rf_iast (hS : ShOK S) {a n : Nat} {i v : Int32} (hcd : cd mi pc = some (.iastore, 1)) (ht : tgT a = 20) (hn : lnT a = n) (hb : inbB i n = true) (kk : Rf X S em x d mi (pc + 1) loc st (up2 σ a (ix i) v)) : Rf X S em x d mi pc loc (.int v :: .int i :: .ref a :: st) σ := by
  obtain ⟨e1, e2, e3, e4⟩ := hS.at (k := a) (by omega)
  refine rf_stp hcd rfl rfl (fun h => by cases h) (fun h => by cases h) ?_ kk
  show stX pc loc (.int v :: .int i :: .ref a :: st) (S, σ) 20 (fun x => x) = _
  unfold stX
  dsimp only
  rw [if_pos ⟨by rw [e1, e2, ht], by rw [e1, e3, hn]; exact hb⟩]
theorem rf_bast (hS : ShOK S) {a n : Nat} {i v w : Int32} (hcd : cd mi pc = some (.bastore, 1)) (ht : (tgT a = 21 ∧ vp_nar .byte v = w) ∨ (tgT a = 22 ∧ vp_nar .boolean v = w)) (hn : lnT a = n) (hb : inbB i n = true) (kk : Rf X S em x d mi (pc + 1) loc st (up2 σ a (ix i) w)) : Rf X S em x d mi pc loc (.int v :: .int i :: .ref a :: st) σ := by
  obtain ⟨e1, e2, e3, e4⟩ := hS.at (k := a) (by omega)
  refine rf_stp hcd rfl rfl (fun h => by cases h) (fun h => by cases h) ?_ kk
  have e0 : stp X (mCo mi) (mKind mi == 2) pc .bastore 1 loc (.int v :: .int i :: .ref a :: st) (S, σ) = (match stX pc loc (.int v :: .int i :: .ref a :: st) (S, σ) 21 (vp_nar .byte) with
    | some z => some z
    | none => stX pc loc (.int v :: .int i :: .ref a :: st) (S, σ) 22 (vp_nar .boolean)) := rfl
  rw [e0]
  unfold stX
  dsimp only
  rcases ht with ⟨ht, rfl⟩ | ⟨ht, rfl⟩
  · rw [if_pos ⟨by rw [e1, e2, ht], by rw [e1, e3, hn]; exact hb⟩]
  · rw [if_neg (by rw [e1, e2, ht]; exact fun z => absurd z.1 (by decide)), if_pos ⟨by rw [e1, e2, ht], by rw [e1, e3, hn]; exact hb⟩]
theorem rf_gets (hcd : cd mi pc = some (.getstatic 63, 3)) (hco : mCo mi = 3) (kk : Rf X S em x d mi (pc + 3) loc (.ref 1000000 :: st) σ) : Rf X S em x d mi pc loc st σ :=
  rf_stp hcd hco rfl (fun h => by cases h) (fun h => by cases h) rfl kk
theorem rf_ret {a : α} {v : Int32} {ty : FieldType} (hcd : cd mi pc = some (.ireturn, 1)) (hr : mRet mi = some ty) (hn : narrow ty (.int v) = .int v) (hf : isRf ty = false) (he : em a = (some (.int v), σ)) : Rf X S em (some a) d mi pc loc [.int v] σ := by
  intro b hb
  cases hb
  refine ⟨1, some (.int v), σ, ?_, by rw [he], by rw [he]⟩
  rw [run, hcd]
  show (match mRet mi with
    | some ty => if 1 = 1 ∧ narrow ty (Value.int v) = Value.int v ∧ isRf ty = false then some (some (Value.int v), (S, σ)) else none
    | none => none) = _
  rw [hr]
  dsimp only
  rw [if_pos ⟨rfl, hn, hf⟩]
theorem rf_vret {a : α} (hcd : cd mi pc = some (.return_, 1)) (hr : mRet mi = none) (he : em a = (none, σ)) : Rf X S em (some a) d mi pc loc [] σ := by
  intro b hb
  cases hb
  refine ⟨1, none, σ, ?_, by rw [he], by rw [he]⟩
  rw [run, hcd]
  show (match mRet mi with
    | none => if 1 = 1 then some (none, (S, σ)) else none
    | some _ => none) = _
  rw [hr]
  rfl
theorem cko_of {kd idx : Nat} (h : kd ≤ 2) : cko (cin kd idx) = some (kd, idx) := by
  match kd, h with
  | 0, _ => rfl
  | 1, _ => rfl
  | 2, _ => rfl
theorem rf_call {β : Type} {emc : β → Option Value × Mm} {xc : Option β} {f : β → Option α} {idx co j na ne kd d1 : Nat} {as rest loc0 : List Value} (hcd : cd mi pc = some (cin kd idx, 3)) (hkd : mKind j = kd) (hk2 : kd ≤ 2) (hco : mCo mi = co) (hml : ml co idx = some (j, na, ne)) (hj : j < 1000) (hn : as.length = na) (hrc : rcv (S, σ) j as = true) (hrest : (rest.map (fun v => v.category)).sum ≤ 8) (hcat : as.all (fun v => v.category == 1) = true) (hl0 : as ++ List.replicate (mMax j - na) unset0 = loc0)
    (hc : Rf X S emc xc d1 j 0 loc0 [] σ) (kk : ∀ b, Rf X S em (f b) (d1 + 1) mi (pc + 3) loc ((emc b).1.toList ++ rest) (emc b).2) : Rf X S em (xc.bind f) (d1 + 1) mi pc loc (as.reverse ++ rest) σ := by
  intro a ha
  cases hxc : xc with
  | none => rw [hxc] at ha; cases ha
  | some b =>
    rw [hxc] at ha
    obtain ⟨n1, r1, σ1, h1, e1, e2⟩ := hc b hxc
    obtain ⟨n2, r2, σ2, h2, hq⟩ := kk b a ha
    refine ⟨max n1 n2 + 1, r2, σ2, ?_, hq⟩
    have ht : (as.reverse ++ rest).take na = as.reverse := by rw [← hn, ← List.length_reverse, List.take_left']; rfl
    have hdr : (as.reverse ++ rest).drop na = rest := by rw [← hn, ← List.length_reverse, List.drop_left']; rfl
    rw [run, hcd]
    dsimp only
    rw [cko_of hk2]
    dsimp only
    rw [hco, hml]
    dsimp only
    rw [hdr, ht, List.reverse_reverse, if_pos ⟨rfl, by rw [List.length_append, List.length_reverse]; omega, hrest, by rw [List.all_reverse]; exact hcat⟩, if_neg (by omega), if_pos ⟨hkd.symm, hrc⟩, hl0]
    rw [run_up X n1 (max n1 n2) d1 d1 _ _ _ _ _ _ (Nat.le_max_left _ _) (Nat.le_refl _) h1]
    dsimp only
    rw [e1, e2]
    exact run_up X n2 (max n1 n2) _ _ _ _ _ _ _ _ (Nat.le_max_right _ _) (Nat.le_refl _) h2
theorem rcv_0 {j : Nat} {as : List Value} (h : mKind j = 0) : rcv (S, σ) j as = true := by
  unfold rcv
  rw [h]
  cases as <;> rfl
theorem rcv_1 (hS : ShOK S) {j b ci : Nat} {as : List Value} (h : mKind j = 1) (hc : mCo j = ci) (ht : tgT b = ci) (h13 : ci < 13) : rcv (S, σ) j (.ref b :: as) = true := by
  obtain ⟨e1, e2, -, -⟩ := hS.at (k := b) (by omega)
  unfold rcv
  rw [h]
  show decide ((hC S b).1 = mCo j) = true
  rw [e1, e2, ht, hc]
  simp
theorem rf_jdk {idx co j na ne kd : Nat} {st' : List Value} {σ' : Mm} (hcd : cd mi pc = some (cin kd idx, 3)) (hk2 : kd ≤ 2) (hkd : kd = bko j) (hco : mCo mi = co) (hml : ml co idx = some (j, na, ne)) (hj : 1000 ≤ j) (h6 : 6 ≤ d) (hn : na ≤ st.length) (hrest : ((st.drop na).map (fun v => v.category)).sum ≤ 8) (hcat : (st.take na).all (fun v => v.category == 1) = true) (hs : jdk j st (S, σ) = some (st', (S, σ'))) (kk : Rf X S em x d mi (pc + 3) loc st' σ') : Rf X S em x d mi pc loc st σ := by
  intro a ha
  obtain ⟨n2, r2, σ2, h2, hq⟩ := kk a ha
  refine ⟨n2 + 1, r2, σ2, ?_, hq⟩
  rw [run, hcd]
  dsimp only
  rw [cko_of hk2]
  dsimp only
  rw [hco, hml]
  dsimp only
  rw [if_pos ⟨rfl, hn, hrest, hcat⟩, if_pos hj, if_pos ⟨hkd, h6⟩, hs]
  exact h2
/-- what a copy needs -/
def cpB (sp dp n : Int32) (la lb : Nat) : Bool := decide (¬ sp < 0 ∧ ¬ dp < 0 ∧ ¬ n < 0 ∧ ix sp + ix n ≤ la ∧ ix dp + ix n ≤ lb)
theorem rf_copy (hS : ShOK S) {idx co ne a b la lb : Nat} {n dp sp : Int32} (hcd : cd mi pc = some (.invokestatic idx, 3)) (hco : mCo mi = co) (hml : ml co idx = some (1001, 5, ne)) (h6 : 6 ≤ d) (hrest : (st.map (fun v => v.category)).sum ≤ 8) (ta : tgT a = 20) (tb : tgT b = 20) (hla : lnT a = la) (hlb : lnT b = lb) (hc : cpB sp dp n la lb = true) (kk : Rf X S em x d mi (pc + 3) loc st (cp2 σ a (ix sp) b (ix dp) (ix n))) : Rf X S em x d mi pc loc (.int n :: .int dp :: .ref b :: .int sp :: .ref a :: st) σ := by
  obtain ⟨a1, a2, a3, -⟩ := hS.at (k := a) (by omega)
  obtain ⟨b1, b2, b3, -⟩ := hS.at (k := b) (by omega)
  have hc' := of_decide_eq_true hc
  refine rf_jdk (kd := 0) hcd (by decide) rfl hco hml (by omega) h6 (by simp) hrest rfl ?_ kk
  show (if (hC S a).1 = 20 ∧ (hC S b).1 = 20 ∧ ¬ sp < 0 ∧ ¬ dp < 0 ∧ ¬ n < 0 ∧ sp.toNatClampNeg + n.toNatClampNeg ≤ (hC S a).2.1 ∧ dp.toNatClampNeg + n.toNatClampNeg ≤ (hC S b).2.1
    then some (st, (S, cp2 σ a sp.toNatClampNeg b dp.toNatClampNeg n.toNatClampNeg)) else none) = _
  rw [if_pos ⟨by rw [a1, a2, ta], by rw [b1, b2, tb], hc'.1, hc'.2.1, hc'.2.2.1, by rw [a1, a3, hla]; exact hc'.2.2.2.1, by rw [b1, b3, hlb]; exact hc'.2.2.2.2⟩]
theorem rf_max {idx co ne : Nat} {a b : Int32} (hcd : cd mi pc = some (.invokestatic idx, 3)) (hco : mCo mi = co) (hml : ml co idx = some (1004, 2, ne)) (h6 : 6 ≤ d) (hrest : (st.map (fun v => v.category)).sum ≤ 8) (kk : Rf X S em x d mi (pc + 3) loc (.int (if a < b then b else a) :: st) σ) : Rf X S em x d mi pc loc (.int b :: .int a :: st) σ :=
  rf_jdk (kd := 0) hcd (by decide) rfl hco hml (by omega) h6 (by simp) hrest rfl rfl kk
theorem rf_slen {idx co ne j : Nat} {v : Int32} (hcd : cd mi pc = some (.invokevirtual idx, 3)) (hco : mCo mi = co) (hml : ml co idx = some (1002, 1, ne)) (h6 : 6 ≤ d) (hrest : (st.map (fun v => v.category)).sum ≤ 8) (hj : j < 3) (hv : Int32.ofNat (strs.getD j []).length = v) (kk : Rf X S em x d mi (pc + 3) loc (.int v :: st) σ) : Rf X S em x d mi pc loc (.ref (1000001 + j) :: st) σ := by
  subst hv
  refine rf_jdk (kd := 1) hcd (by decide) rfl hco hml (by omega) h6 (by simp) hrest rfl ?_ kk
  show (if 1000001 ≤ 1000001 + j ∧ 1000001 + j < 1000004 then some (.int (Int32.ofNat (strs.getD (1000001 + j - 1000001) []).length) :: st, (S, σ)) else none) = _
  rw [if_pos ⟨by omega, by omega⟩, show 1000001 + j - 1000001 = j by omega]
theorem rf_sat {idx co ne j : Nat} {i : Int32} (hcd : cd mi pc = some (.invokevirtual idx, 3)) (hco : mCo mi = co) (hml : ml co idx = some (1003, 2, ne)) (h6 : 6 ≤ d) (hrest : (st.map (fun v => v.category)).sum ≤ 8) (hj : j < 3) (hb : inbB i (strs.getD j []).length = true) (kk : Rf X S em x d mi (pc + 3) loc (.int ((strs.getD j []).getD (ix i) 0) :: st) σ) : Rf X S em x d mi pc loc (.int i :: .ref (1000001 + j) :: st) σ := by
  refine rf_jdk (kd := 1) hcd (by decide) rfl hco hml (by omega) h6 (by simp) hrest rfl ?_ kk
  show (if 1000001 ≤ 1000001 + j ∧ 1000001 + j < 1000004 ∧ inbB i (strs.getD (1000001 + j - 1000001) []).length = true then some (.int ((strs.getD (1000001 + j - 1000001) []).getD i.toNatClampNeg 0) :: st, (S, σ)) else none) = _
  rw [show 1000001 + j - 1000001 = j by omega, if_pos ⟨by omega, by omega, hb⟩]
end RfA
