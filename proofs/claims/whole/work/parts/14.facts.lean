/-! facts of the tables that the methods use -/
def NN : Nat := 10000
/-- a memory gets a name -/
def nmM {α : Type} (v : Mm) (f : Mm → Option α) : Option α := f v
theorem rf_nm {α : Type} {X : Xt} {S : Sh} {em : α → Option Value × Mm} {v : Mm} {f : Mm → Option α} {d mi pc : Nat} {loc st : List Value} (h : ∀ s, Rf X S em (f s) d mi pc loc st s) : Rf X S em (nmM v f) d mi pc loc st v := h v
def zB (v : Int32) : Bool := decide (vp_nar .boolean v = v)
theorem rf_callI {α : Type} {X : Xt} {S : Sh} {em : α → Option Value × Mm} {mi pc : Nat} {loc : List Value} {σ : Mm} {xc : Option Int32} {f : Int32 → Option α} {idx co j na ne kd d1 : Nat} {as rest loc0 : List Value} (hcd : cd mi pc = some (cin kd idx, 3)) (hkd : mKind j = kd) (hk2 : kd ≤ 2) (hco : mCo mi = co) (hml : ml co idx = some (j, na, ne)) (hj : j < 1000) (hn : as.length = na) (hrc : rcv (S, σ) j as = true) (hrest : (rest.map (fun v => v.category)).sum ≤ 8) (hcat : as.all (fun v => v.category == 1) = true) (hl0 : as ++ List.replicate (mMax j - na) unset0 = loc0) (hc : Rf X S (emI σ) xc d1 j 0 loc0 [] σ) (kk : ∀ b, Rf X S em (f b) (d1 + 1) mi (pc + 3) loc (.int b :: rest) σ) : Rf X S em (xc.bind f) (d1 + 1) mi pc loc (as.reverse ++ rest) σ := rf_call hcd hkd hk2 hco hml hj hn hrc hrest hcat hl0 hc kk
theorem rf_callM {α : Type} {X : Xt} {S : Sh} {em : α → Option Value × Mm} {mi pc : Nat} {loc : List Value} {σ : Mm} {xc : Option (Int32 × Mm)} {f : Int32 × Mm → Option α} {idx co j na ne kd d1 : Nat} {as rest loc0 : List Value} (hcd : cd mi pc = some (cin kd idx, 3)) (hkd : mKind j = kd) (hk2 : kd ≤ 2) (hco : mCo mi = co) (hml : ml co idx = some (j, na, ne)) (hj : j < 1000) (hn : as.length = na) (hrc : rcv (S, σ) j as = true) (hrest : (rest.map (fun v => v.category)).sum ≤ 8) (hcat : as.all (fun v => v.category == 1) = true) (hl0 : as ++ List.replicate (mMax j - na) unset0 = loc0) (hc : Rf X S emM xc d1 j 0 loc0 [] σ) (kk : ∀ b, Rf X S em (f b) (d1 + 1) mi (pc + 3) loc (.int b.1 :: rest) b.2) : Rf X S em (xc.bind f) (d1 + 1) mi pc loc (as.reverse ++ rest) σ := rf_call hcd hkd hk2 hco hml hj hn hrc hrest hcat hl0 hc kk
theorem rf_callV {α : Type} {X : Xt} {S : Sh} {em : α → Option Value × Mm} {mi pc : Nat} {loc : List Value} {σ : Mm} {xc : Option Mm} {f : Mm → Option α} {idx co j na ne kd d1 : Nat} {as rest loc0 : List Value} (hcd : cd mi pc = some (cin kd idx, 3)) (hkd : mKind j = kd) (hk2 : kd ≤ 2) (hco : mCo mi = co) (hml : ml co idx = some (j, na, ne)) (hj : j < 1000) (hn : as.length = na) (hrc : rcv (S, σ) j as = true) (hrest : (rest.map (fun v => v.category)).sum ≤ 8) (hcat : as.all (fun v => v.category == 1) = true) (hl0 : as ++ List.replicate (mMax j - na) unset0 = loc0) (hc : Rf X S emV xc d1 j 0 loc0 [] σ) (kk : ∀ b, Rf X S em (f b) (d1 + 1) mi (pc + 3) loc rest b) : Rf X S em (xc.bind f) (d1 + 1) mi pc loc (as.reverse ++ rest) σ := rf_call hcd hkd hk2 hco hml hj hn hrc hrest hcat hl0 hc kk
theorem zB_n {v : Int32} (h : zB v = true) : narrow .boolean (.int v) = .int v := by
  have e : vp_nar .boolean v = v := of_decide_eq_true h
  rw [nar_z, e]
theorem fits_nar_z (v : Int32) : fits .boolean (narrow .boolean (.int v)) = true := by
  rw [nar_z]
  have e : vp_nar .boolean v = v &&& 1 := rfl
  rw [e]
  have h : ∀ b : BitVec 32, b &&& 1#32 = 0#32 ∨ b &&& 1#32 = 1#32 := by
    intro b
    rcases Nat.mod_two_eq_zero_or_one b.toNat with q | q
    · left; apply BitVec.eq_of_toNat_eq; simpa [BitVec.toNat_and, Nat.and_one_is_mod] using q
    · right; apply BitVec.eq_of_toNat_eq; simpa [BitVec.toNat_and, Nat.and_one_is_mod] using q
  have h2 : v &&& 1 = 0 ∨ v &&& 1 = 1 := by
    rcases h v.toBitVec with q | q
    · left; exact Int32.toBitVec_inj.mp q
    · right; exact Int32.toBitVec_inj.mp q
  rcases h2 with q | q <;> rw [q] <;> decide
theorem zB_f {v : Int32} (h : zB v = true) : fits .boolean (.int v) = true := by
  have e : vp_nar .boolean v = v := of_decide_eq_true h
  rw [← e, ← nar_z]
  exact fits_nar_z v
theorem kb_m100 : (Int8.ofInt (-100)).toInt32 = (-100 : Int32) := by decide
theorem kb_m2 : (Int8.ofInt (-2)).toInt32 = (-2 : Int32) := by decide
theorem kb_6 : (Int8.ofInt (6)).toInt32 = (6 : Int32) := by decide
theorem kb_7 : (Int8.ofInt (7)).toInt32 = (7 : Int32) := by decide
theorem kb_8 : (Int8.ofInt (8)).toInt32 = (8 : Int32) := by decide
theorem kb_9 : (Int8.ofInt (9)).toInt32 = (9 : Int32) := by decide
theorem kb_10 : (Int8.ofInt (10)).toInt32 = (10 : Int32) := by decide
theorem kb_11 : (Int8.ofInt (11)).toInt32 = (11 : Int32) := by decide
theorem kb_12 : (Int8.ofInt (12)).toInt32 = (12 : Int32) := by decide
theorem kb_13 : (Int8.ofInt (13)).toInt32 = (13 : Int32) := by decide
theorem kb_14 : (Int8.ofInt (14)).toInt32 = (14 : Int32) := by decide
theorem kb_15 : (Int8.ofInt (15)).toInt32 = (15 : Int32) := by decide
theorem kb_16 : (Int8.ofInt (16)).toInt32 = (16 : Int32) := by decide
theorem kb_17 : (Int8.ofInt (17)).toInt32 = (17 : Int32) := by decide
theorem kb_20 : (Int8.ofInt (20)).toInt32 = (20 : Int32) := by decide
theorem kb_21 : (Int8.ofInt (21)).toInt32 = (21 : Int32) := by decide
theorem kb_22 : (Int8.ofInt (22)).toInt32 = (22 : Int32) := by decide
theorem kb_23 : (Int8.ofInt (23)).toInt32 = (23 : Int32) := by decide
theorem kb_24 : (Int8.ofInt (24)).toInt32 = (24 : Int32) := by decide
theorem kb_28 : (Int8.ofInt (28)).toInt32 = (28 : Int32) := by decide
theorem kb_29 : (Int8.ofInt (29)).toInt32 = (29 : Int32) := by decide
theorem kb_30 : (Int8.ofInt (30)).toInt32 = (30 : Int32) := by decide
theorem kb_31 : (Int8.ofInt (31)).toInt32 = (31 : Int32) := by decide
theorem kb_32 : (Int8.ofInt (32)).toInt32 = (32 : Int32) := by decide
theorem kb_40 : (Int8.ofInt (40)).toInt32 = (40 : Int32) := by decide
theorem kb_41 : (Int8.ofInt (41)).toInt32 = (41 : Int32) := by decide
theorem kb_48 : (Int8.ofInt (48)).toInt32 = (48 : Int32) := by decide
theorem kb_57 : (Int8.ofInt (57)).toInt32 = (57 : Int32) := by decide
theorem kb_60 : (Int8.ofInt (60)).toInt32 = (60 : Int32) := by decide
theorem kb_62 : (Int8.ofInt (62)).toInt32 = (62 : Int32) := by decide
theorem kb_63 : (Int8.ofInt (63)).toInt32 = (63 : Int32) := by decide
theorem kb_84 : (Int8.ofInt (84)).toInt32 = (84 : Int32) := by decide
theorem kb_96 : (Int8.ofInt (96)).toInt32 = (96 : Int32) := by decide
theorem kb_97 : (Int8.ofInt (97)).toInt32 = (97 : Int32) := by decide
theorem kb_99 : (Int8.ofInt (99)).toInt32 = (99 : Int32) := by decide
theorem kb_100 : (Int8.ofInt (100)).toInt32 = (100 : Int32) := by decide
theorem kb_122 : (Int8.ofInt (122)).toInt32 = (122 : Int32) := by decide
theorem ki_m8 : Int32.ofInt (-8) = (-8 : Int32) := by decide
theorem ki_m1 : Int32.ofInt (-1) = (-1 : Int32) := by decide
theorem ki_0 : Int32.ofInt (0) = (0 : Int32) := by decide
theorem ki_1 : Int32.ofInt (1) = (1 : Int32) := by decide
theorem ki_2 : Int32.ofInt (2) = (2 : Int32) := by decide
theorem ki_3 : Int32.ofInt (3) = (3 : Int32) := by decide
theorem ki_4 : Int32.ofInt (4) = (4 : Int32) := by decide
theorem ki_5 : Int32.ofInt (5) = (5 : Int32) := by decide
theorem ki_8 : Int32.ofInt (8) = (8 : Int32) := by decide
theorem ki_16 : Int32.ofInt (16) = (16 : Int32) := by decide
theorem ks_132 : (Int16.ofInt (132)).toInt32 = (132 : Int32) := by decide
theorem ks_144 : (Int16.ofInt (144)).toInt32 = (144 : Int32) := by decide
theorem ks_150 : (Int16.ofInt (150)).toInt32 = (150 : Int32) := by decide
theorem ks_186 : (Int16.ofInt (186)).toInt32 = (186 : Int32) := by decide
theorem ks_255 : (Int16.ofInt (255)).toInt32 = (255 : Int32) := by decide
theorem ks_256 : (Int16.ofInt (256)).toInt32 = (256 : Int32) := by decide
theorem ks_288 : (Int16.ofInt (288)).toInt32 = (288 : Int32) := by decide
theorem ks_300 : (Int16.ofInt (300)).toInt32 = (300 : Int32) := by decide
theorem ks_522 : (Int16.ofInt (522)).toInt32 = (522 : Int32) := by decide
theorem ks_634 : (Int16.ofInt (634)).toInt32 = (634 : Int32) := by decide
theorem ks_999 : (Int16.ofInt (999)).toInt32 = (999 : Int32) := by decide
theorem ks_5242 : (Int16.ofInt (5242)).toInt32 = (5242 : Int32) := by decide
theorem ks_5410 : (Int16.ofInt (5410)).toInt32 = (5410 : Int32) := by decide
theorem ks_5420 : (Int16.ofInt (5420)).toInt32 = (5420 : Int32) := by decide
theorem ks_5520 : (Int16.ofInt (5520)).toInt32 = (5520 : Int32) := by decide
theorem ks_5528 : (Int16.ofInt (5528)).toInt32 = (5528 : Int32) := by decide
theorem ks_9999 : (Int16.ofInt (9999)).toInt32 = (9999 : Int32) := by decide
theorem fl_0_9 : fl 0 9 = some (0, 0) := by decide +kernel
theorem fl_0_15 : fl 0 15 = some (0, 1) := by decide +kernel
theorem fl_0_18 : fl 0 18 = some (0, 2) := by decide +kernel
theorem fl_0_21 : fl 0 21 = some (0, 3) := by decide +kernel
theorem fl_0_30 : fl 0 30 = some (0, 4) := by decide +kernel
theorem fl_0_34 : fl 0 34 = some (0, 5) := by decide +kernel
theorem fl_1_9 : fl 1 9 = some (1, 0) := by decide +kernel
theorem fl_1_15 : fl 1 15 = some (1, 1) := by decide +kernel
theorem fl_1_18 : fl 1 18 = some (1, 2) := by decide +kernel
theorem fl_1_21 : fl 1 21 = some (1, 3) := by decide +kernel
theorem fl_1_24 : fl 1 24 = some (1, 4) := by decide +kernel
theorem fl_1_27 : fl 1 27 = some (1, 5) := by decide +kernel
theorem fl_1_30 : fl 1 30 = some (1, 6) := by decide +kernel
theorem fl_1_33 : fl 1 33 = some (1, 7) := by decide +kernel
theorem fl_1_42 : fl 1 42 = some (1, 8) := by decide +kernel
theorem fl_2_9 : fl 2 9 = some (2, 0) := by decide +kernel
theorem fl_2_15 : fl 2 15 = some (2, 1) := by decide +kernel
theorem fl_2_18 : fl 2 18 = some (2, 2) := by decide +kernel
theorem fl_2_27 : fl 2 27 = some (2, 3) := by decide +kernel
theorem fl_2_31 : fl 2 31 = some (2, 4) := by decide +kernel
theorem fl_3_10 : fl 3 10 = some (3, 5) := by decide +kernel
theorem fl_3_16 : fl 3 16 = some (3, 9) := by decide +kernel
theorem fl_3_19 : fl 3 19 = some (3, 10) := by decide +kernel
theorem fl_3_22 : fl 3 22 = some (3, 11) := by decide +kernel
theorem fl_3_25 : fl 3 25 = some (3, 0) := by decide +kernel
theorem fl_3_28 : fl 3 28 = some (3, 1) := by decide +kernel
theorem fl_3_31 : fl 3 31 = some (3, 2) := by decide +kernel
theorem fl_3_34 : fl 3 34 = some (3, 3) := by decide +kernel
theorem fl_3_37 : fl 3 37 = some (3, 4) := by decide +kernel
theorem fl_3_40 : fl 3 40 = some (3, 6) := by decide +kernel
theorem fl_3_44 : fl 3 44 = some (3, 7) := by decide +kernel
theorem fl_3_47 : fl 3 47 = some (3, 8) := by decide +kernel
theorem fl_3_50 : fl 3 50 = some (3, 12) := by decide +kernel
theorem fl_3_53 : fl 3 53 = some (3, 13) := by decide +kernel
theorem fl_4_9 : fl 4 9 = some (4, 0) := by decide +kernel
theorem fl_4_15 : fl 4 15 = some (4, 1) := by decide +kernel
theorem fl_4_19 : fl 4 19 = some (4, 2) := by decide +kernel
theorem fl_5_9 : fl 5 9 = some (5, 7) := by decide +kernel
theorem fl_5_15 : fl 5 15 = some (5, 0) := by decide +kernel
theorem fl_5_19 : fl 5 19 = some (5, 1) := by decide +kernel
theorem fl_5_22 : fl 5 22 = some (5, 2) := by decide +kernel
theorem fl_5_25 : fl 5 25 = some (5, 3) := by decide +kernel
theorem fl_5_28 : fl 5 28 = some (5, 4) := by decide +kernel
theorem fl_5_31 : fl 5 31 = some (5, 5) := by decide +kernel
theorem fl_5_34 : fl 5 34 = some (5, 6) := by decide +kernel
theorem fl_5_59 : fl 5 59 = some (3, 3) := by decide +kernel
theorem fl_5_62 : fl 5 62 = some (3, 1) := by decide +kernel
theorem fl_5_65 : fl 5 65 = some (3, 2) := by decide +kernel
theorem fl_5_68 : fl 5 68 = some (3, 7) := by decide +kernel
theorem fl_7_12 : fl 7 12 = some (7, 0) := by decide +kernel
theorem fl_7_21 : fl 7 21 = some (7, 1) := by decide +kernel
theorem fl_7_27 : fl 7 27 = some (7, 2) := by decide +kernel
theorem fl_7_33 : fl 7 33 = some (7, 3) := by decide +kernel
theorem fl_7_40 : fl 7 40 = some (7, 4) := by decide +kernel
theorem fl_7_47 : fl 7 47 = some (7, 5) := by decide +kernel
theorem fl_7_51 : fl 7 51 = some (7, 6) := by decide +kernel
theorem fl_7_55 : fl 7 55 = some (7, 7) := by decide +kernel
theorem fl_7_86 : fl 7 86 = some (7, 8) := by decide +kernel
theorem fl_7_90 : fl 7 90 = some (7, 9) := by decide +kernel
theorem fl_7_93 : fl 7 93 = some (7, 10) := by decide +kernel
theorem fl_7_96 : fl 7 96 = some (7, 11) := by decide +kernel
theorem fl_7_99 : fl 7 99 = some (7, 12) := by decide +kernel
theorem fl_7_106 : fl 7 106 = some (5, 0) := by decide +kernel
theorem fl_7_109 : fl 7 109 = some (5, 1) := by decide +kernel
theorem fl_7_128 : fl 7 128 = some (5, 2) := by decide +kernel
theorem fl_7_146 : fl 7 146 = some (3, 5) := by decide +kernel
theorem fl_7_149 : fl 7 149 = some (3, 7) := by decide +kernel
theorem fl_7_157 : fl 7 157 = some (3, 2) := by decide +kernel
theorem fl_7_164 : fl 7 164 = some (3, 9) := by decide +kernel
theorem fl_7_182 : fl 7 182 = some (3, 8) := by decide +kernel
theorem fl_7_188 : fl 7 188 = some (8, 4) := by decide +kernel
theorem fl_7_191 : fl 7 191 = some (3, 12) := by decide +kernel
theorem fl_7_199 : fl 7 199 = some (3, 4) := by decide +kernel
theorem fl_7_209 : fl 7 209 = some (3, 11) := by decide +kernel
theorem fl_7_212 : fl 7 212 = some (3, 13) := by decide +kernel
theorem fl_7_218 : fl 7 218 = some (3, 10) := by decide +kernel
theorem fl_7_224 : fl 7 224 = some (3, 1) := by decide +kernel
theorem fl_8_9 : fl 8 9 = some (8, 0) := by decide +kernel
theorem fl_8_15 : fl 8 15 = some (8, 1) := by decide +kernel
theorem fl_8_18 : fl 8 18 = some (8, 2) := by decide +kernel
theorem fl_8_21 : fl 8 21 = some (8, 3) := by decide +kernel
theorem fl_8_30 : fl 8 30 = some (8, 4) := by decide +kernel
theorem fl_9_9 : fl 9 9 = some (9, 0) := by decide +kernel
theorem fl_9_15 : fl 9 15 = some (9, 1) := by decide +kernel
theorem fl_9_19 : fl 9 19 = some (9, 2) := by decide +kernel
theorem fl_9_22 : fl 9 22 = some (9, 3) := by decide +kernel
theorem fl_9_28 : fl 9 28 = some (9, 4) := by decide +kernel
theorem fl_9_32 : fl 9 32 = some (9, 5) := by decide +kernel
theorem fl_9_52 : fl 9 52 = some (9, 7) := by decide +kernel
theorem fl_9_55 : fl 9 55 = some (9, 8) := by decide +kernel
theorem fl_9_69 : fl 9 69 = some (5, 6) := by decide +kernel
theorem fl_9_72 : fl 9 72 = some (5, 5) := by decide +kernel
theorem fl_9_75 : fl 9 75 = some (9, 6) := by decide +kernel
theorem fl_9_78 : fl 9 78 = some (5, 0) := by decide +kernel
theorem fl_9_81 : fl 9 81 = some (5, 1) := by decide +kernel
theorem fl_9_84 : fl 9 84 = some (5, 2) := by decide +kernel
theorem fl_10_9 : fl 10 9 = some (10, 0) := by decide +kernel
theorem fl_10_15 : fl 10 15 = some (10, 1) := by decide +kernel
theorem fl_10_18 : fl 10 18 = some (10, 2) := by decide +kernel
theorem fl_10_22 : fl 10 22 = some (10, 4) := by decide +kernel
theorem fl_10_25 : fl 10 25 = some (10, 5) := by decide +kernel
theorem fl_10_33 : fl 10 33 = some (10, 3) := by decide +kernel
theorem fl_10_40 : fl 10 40 = some (8, 4) := by decide +kernel
theorem fl_11_10 : fl 11 10 = some (11, 0) := by decide +kernel
theorem fl_11_16 : fl 11 16 = some (11, 1) := by decide +kernel
theorem fl_11_19 : fl 11 19 = some (11, 2) := by decide +kernel
theorem fl_11_25 : fl 11 25 = some (11, 3) := by decide +kernel
theorem fl_11_32 : fl 11 32 = some (11, 4) := by decide +kernel
theorem fl_11_36 : fl 11 36 = some (11, 5) := by decide +kernel
theorem fl_11_42 : fl 11 42 = some (11, 6) := by decide +kernel
theorem fl_11_48 : fl 11 48 = some (11, 7) := by decide +kernel
theorem fl_11_54 : fl 11 54 = some (7, 0) := by decide +kernel
theorem fl_11_73 : fl 11 73 = some (7, 8) := by decide +kernel
theorem fl_11_88 : fl 11 88 = some (7, 9) := by decide +kernel
theorem fl_11_96 : fl 11 96 = some (7, 1) := by decide +kernel
theorem fl_11_136 : fl 11 136 = some (7, 10) := by decide +kernel
theorem fl_11_139 : fl 11 139 = some (7, 2) := by decide +kernel
theorem fl_11_161 : fl 11 161 = some (3, 3) := by decide +kernel
theorem fl_11_170 : fl 11 170 = some (3, 5) := by decide +kernel
theorem fl_11_176 : fl 11 176 = some (3, 6) := by decide +kernel
theorem fl_11_196 : fl 11 196 = some (9, 4) := by decide +kernel
theorem fl_11_200 : fl 11 200 = some (2, 3) := by decide +kernel
theorem fl_11_203 : fl 11 203 = some (8, 4) := by decide +kernel
theorem fl_11_206 : fl 11 206 = some (7, 11) := by decide +kernel
theorem fl_11_214 : fl 11 214 = some (7, 3) := by decide +kernel
theorem fl_11_222 : fl 11 222 = some (5, 3) := by decide +kernel
theorem fl_11_242 : fl 11 242 = some (5, 0) := by decide +kernel
theorem fl_11_245 : fl 11 245 = some (5, 2) := by decide +kernel
theorem fl_11_259 : fl 11 259 = some (3, 13) := by decide +kernel
theorem fl_11_262 : fl 11 262 = some (3, 11) := by decide +kernel
theorem fl_11_269 : fl 11 269 = some (7, 4) := by decide +kernel
theorem fl_11_284 : fl 11 284 = some (3, 10) := by decide +kernel
theorem fl_11_322 : fl 11 322 = some (7, 7) := by decide +kernel
theorem fl_11_325 : fl 11 325 = some (1, 2) := by decide +kernel
theorem fl_11_335 : fl 11 335 = some (7, 5) := by decide +kernel
theorem fl_11_344 : fl 11 344 = some (0, 5) := by decide +kernel
theorem fl_11_364 : fl 11 364 = some (7, 12) := by decide +kernel
theorem fl_11_367 : fl 11 367 = some (7, 6) := by decide +kernel
theorem fl_11_387 : fl 11 387 = some (4, 1) := by decide +kernel
theorem fl_11_393 : fl 11 393 = some (4, 0) := by decide +kernel
theorem fl_11_403 : fl 11 403 = some (6, 2) := by decide +kernel
theorem fl_11_410 : fl 11 410 = some (6, 0) := by decide +kernel
theorem fl_11_417 : fl 11 417 = some (6, 1) := by decide +kernel
theorem fl_11_421 : fl 11 421 = some (6, 3) := by decide +kernel
theorem fl_11_422 : fl 11 422 = some (11, 9) := by decide +kernel
theorem fl_11_425 : fl 11 425 = some (11, 8) := by decide +kernel
theorem fl_11_445 : fl 11 445 = some (1, 8) := by decide +kernel
theorem fl_11_449 : fl 11 449 = some (2, 4) := by decide +kernel
theorem fl_11_452 : fl 11 452 = some (9, 5) := by decide +kernel
theorem fl_12_9 : fl 12 9 = some (12, 0) := by decide +kernel
theorem fl_12_13 : fl 12 13 = some (12, 1) := by decide +kernel
theorem fl_12_16 : fl 12 16 = some (12, 2) := by decide +kernel
theorem fl_12_19 : fl 12 19 = some (12, 4) := by decide +kernel
theorem fl_12_22 : fl 12 22 = some (12, 5) := by decide +kernel
theorem fl_12_25 : fl 12 25 = some (12, 6) := by decide +kernel
theorem fl_12_28 : fl 12 28 = some (12, 9) := by decide +kernel
theorem fl_12_31 : fl 12 31 = some (12, 11) := by decide +kernel
theorem fl_12_35 : fl 12 35 = some (12, 12) := by decide +kernel
theorem fl_12_38 : fl 12 38 = some (12, 22) := by decide +kernel
theorem fl_12_41 : fl 12 41 = some (12, 30) := by decide +kernel
theorem fl_12_44 : fl 12 44 = some (12, 34) := by decide +kernel
theorem fl_12_48 : fl 12 48 = some (12, 35) := by decide +kernel
theorem fl_12_51 : fl 12 51 = some (12, 36) := by decide +kernel
theorem fl_12_54 : fl 12 54 = some (12, 37) := by decide +kernel
theorem fl_12_57 : fl 12 57 = some (12, 38) := by decide +kernel
theorem fl_12_60 : fl 12 60 = some (12, 39) := by decide +kernel
theorem fl_12_63 : fl 12 63 = some (12, 40) := by decide +kernel
theorem fl_12_66 : fl 12 66 = some (12, 41) := by decide +kernel
theorem fl_12_69 : fl 12 69 = some (12, 42) := by decide +kernel
theorem fl_12_72 : fl 12 72 = some (12, 43) := by decide +kernel
theorem fl_12_75 : fl 12 75 = some (12, 45) := by decide +kernel
theorem fl_12_78 : fl 12 78 = some (12, 46) := by decide +kernel
theorem fl_12_110 : fl 12 110 = some (12, 7) := by decide +kernel
theorem fl_12_114 : fl 12 114 = some (12, 8) := by decide +kernel
theorem fl_12_159 : fl 12 159 = some (12, 10) := by decide +kernel
theorem fl_12_162 : fl 12 162 = some (12, 13) := by decide +kernel
theorem fl_12_165 : fl 12 165 = some (12, 14) := by decide +kernel
theorem fl_12_171 : fl 12 171 = some (12, 16) := by decide +kernel
theorem fl_12_174 : fl 12 174 = some (12, 15) := by decide +kernel
theorem fl_12_177 : fl 12 177 = some (12, 17) := by decide +kernel
theorem fl_12_183 : fl 12 183 = some (12, 18) := by decide +kernel
theorem fl_12_192 : fl 12 192 = some (12, 29) := by decide +kernel
theorem fl_12_198 : fl 12 198 = some (12, 23) := by decide +kernel
theorem fl_12_201 : fl 12 201 = some (12, 24) := by decide +kernel
theorem fl_12_211 : fl 12 211 = some (12, 28) := by decide +kernel
theorem fl_12_218 : fl 12 218 = some (12, 27) := by decide +kernel
theorem fl_12_221 : fl 12 221 = some (12, 31) := by decide +kernel
theorem fl_12_224 : fl 12 224 = some (12, 33) := by decide +kernel
theorem fl_12_227 : fl 12 227 = some (12, 32) := by decide +kernel
theorem fl_12_250 : fl 12 250 = some (12, 19) := by decide +kernel
theorem fl_12_253 : fl 12 253 = some (12, 20) := by decide +kernel
theorem fl_12_259 : fl 12 259 = some (12, 21) := by decide +kernel
theorem fl_12_265 : fl 12 265 = some (12, 25) := by decide +kernel
theorem fl_12_268 : fl 12 268 = some (12, 26) := by decide +kernel
theorem fl_12_391 : fl 12 391 = some (12, 44) := by decide +kernel
theorem fl_12_394 : fl 12 394 = some (12, 3) := by decide +kernel
theorem ml_0_24 : ml 0 24 = some (1001, 5, 0) := by decide +kernel
theorem ml_0_38 : ml 0 38 = some (323, 1, 0) := by decide +kernel
theorem ml_0_45 : ml 0 45 = some (9, 3, 0) := by decide +kernel
theorem ml_0_49 : ml 0 49 = some (1004, 2, 0) := by decide +kernel
theorem ml_1_36 : ml 1 36 = some (1001, 5, 0) := by decide +kernel
theorem ml_1_46 : ml 1 46 = some (12, 1, 0) := by decide +kernel
theorem ml_1_52 : ml 1 52 = some (175, 3, 1) := by decide +kernel
theorem ml_1_56 : ml 1 56 = some (20, 3, 0) := by decide +kernel
theorem ml_1_60 : ml 1 60 = some (19, 2, 0) := by decide +kernel
theorem ml_1_64 : ml 1 64 = some (26, 3, 0) := by decide +kernel
theorem ml_2_21 : ml 2 21 = some (1001, 5, 0) := by decide +kernel
theorem ml_2_35 : ml 2 35 = some (31, 3, 0) := by decide +kernel
theorem ml_3_56 : ml 3 56 = some (35, 1, 0) := by decide +kernel
theorem ml_3_60 : ml 3 60 = some (36, 1, 0) := by decide +kernel
theorem ml_3_67 : ml 3 67 = some (181, 1, 1) := by decide +kernel
theorem ml_3_71 : ml 3 71 = some (43, 1, 0) := by decide +kernel
theorem ml_3_75 : ml 3 75 = some (44, 1, 0) := by decide +kernel
theorem ml_3_78 : ml 3 78 = some (45, 1, 0) := by decide +kernel
theorem ml_3_81 : ml 3 81 = some (46, 1, 0) := by decide +kernel
theorem ml_3_84 : ml 3 84 = some (1004, 2, 0) := by decide +kernel
theorem ml_4_22 : ml 4 22 = some (1001, 5, 0) := by decide +kernel
theorem ml_5_37 : ml 5 37 = some (1001, 5, 0) := by decide +kernel
theorem ml_5_45 : ml 5 45 = some (38, 2, 0) := by decide +kernel
theorem ml_5_51 : ml 5 51 = some (61, 6, 0) := by decide +kernel
theorem ml_5_55 : ml 5 55 = some (62, 4, 0) := by decide +kernel
theorem ml_7_61 : ml 7 61 = some (28, 2, 0) := by decide +kernel
theorem ml_7_65 : ml 7 65 = some (83, 2, 0) := by decide +kernel
theorem ml_7_68 : ml 7 68 = some (34, 2, 0) := by decide +kernel
theorem ml_7_71 : ml 7 71 = some (55, 2, 0) := by decide +kernel
theorem ml_7_74 : ml 7 74 = some (11, 2, 0) := by decide +kernel
theorem ml_7_77 : ml 7 77 = some (1, 2, 0) := by decide +kernel
theorem ml_7_80 : ml 7 80 = some (1001, 5, 0) := by decide +kernel
theorem ml_7_102 : ml 7 102 = some (60, 4, 0) := by decide +kernel
theorem ml_7_112 : ml 7 112 = some (66, 2, 0) := by decide +kernel
theorem ml_7_116 : ml 7 116 = some (69, 4, 0) := by decide +kernel
theorem ml_7_120 : ml 7 120 = some (70, 2, 0) := by decide +kernel
theorem ml_7_124 : ml 7 124 = some (67, 3, 0) := by decide +kernel
theorem ml_7_131 : ml 7 131 = some (43, 1, 0) := by decide +kernel
theorem ml_7_135 : ml 7 135 = some (44, 1, 0) := by decide +kernel
theorem ml_7_138 : ml 7 138 = some (37, 1, 0) := by decide +kernel
theorem ml_7_142 : ml 7 142 = some (88, 3, 0) := by decide +kernel
theorem ml_7_152 : ml 7 152 = some (322, 1, 0) := by decide +kernel
theorem ml_7_160 : ml 7 160 = some (15, 5, 0) := by decide +kernel
theorem ml_7_167 : ml 7 167 = some (86, 2, 0) := by decide +kernel
theorem ml_7_170 : ml 7 170 = some (16, 5, 0) := by decide +kernel
theorem ml_7_174 : ml 7 174 = some (75, 2, 0) := by decide +kernel
theorem ml_7_178 : ml 7 178 = some (38, 2, 0) := by decide +kernel
theorem ml_7_185 : ml 7 185 = some (12, 1, 0) := by decide +kernel
theorem ml_7_195 : ml 7 195 = some (39, 3, 0) := by decide +kernel
theorem ml_7_202 : ml 7 202 = some (73, 4, 0) := by decide +kernel
theorem ml_7_206 : ml 7 206 = some (36, 1, 0) := by decide +kernel
theorem ml_7_215 : ml 7 215 = some (6, 3, 0) := by decide +kernel
theorem ml_7_221 : ml 7 221 = some (87, 3, 0) := by decide +kernel
theorem ml_7_227 : ml 7 227 = some (35, 1, 0) := by decide +kernel
theorem ml_7_230 : ml 7 230 = some (68, 3, 0) := by decide +kernel
theorem ml_7_234 : ml 7 234 = some (323, 1, 0) := by decide +kernel
theorem ml_7_237 : ml 7 237 = some (181, 1, 1) := by decide +kernel
theorem ml_8_24 : ml 8 24 = some (1001, 5, 0) := by decide +kernel
theorem ml_8_35 : ml 8 35 = some (175, 3, 1) := by decide +kernel
theorem ml_8_39 : ml 8 39 = some (86, 2, 0) := by decide +kernel
theorem ml_8_43 : ml 8 43 = some (89, 3, 0) := by decide +kernel
theorem ml_8_47 : ml 8 47 = some (90, 3, 0) := by decide +kernel
theorem ml_9_37 : ml 9 37 = some (94, 2, 0) := by decide +kernel
theorem ml_9_41 : ml 9 41 = some (175, 3, 1) := by decide +kernel
theorem ml_9_46 : ml 9 46 = some (104, 1, 0) := by decide +kernel
theorem ml_9_49 : ml 9 49 = some (56, 1, 0) := by decide +kernel
theorem ml_9_58 : ml 9 58 = some (99, 1, 0) := by decide +kernel
theorem ml_9_62 : ml 9 62 = some (98, 1, 0) := by decide +kernel
theorem ml_9_65 : ml 9 65 = some (100, 3, 0) := by decide +kernel
theorem ml_9_87 : ml 9 87 = some (101, 3, 0) := by decide +kernel
theorem ml_9_90 : ml 9 90 = some (57, 3, 0) := by decide +kernel
theorem ml_9_94 : ml 9 94 = some (102, 3, 0) := by decide +kernel
theorem ml_9_97 : ml 9 97 = some (103, 1, 0) := by decide +kernel
theorem ml_9_100 : ml 9 100 = some (181, 1, 1) := by decide +kernel
theorem ml_9_104 : ml 9 104 = some (106, 1, 0) := by decide +kernel
theorem ml_9_108 : ml 9 108 = some (107, 3, 0) := by decide +kernel
theorem ml_9_112 : ml 9 112 = some (108, 4, 0) := by decide +kernel
theorem ml_9_116 : ml 9 116 = some (105, 3, 0) := by decide +kernel
theorem ml_9_119 : ml 9 119 = some (110, 3, 0) := by decide +kernel
theorem ml_9_122 : ml 9 122 = some (109, 3, 0) := by decide +kernel
theorem ml_9_127 : ml 9 127 = some (111, 4, 0) := by decide +kernel
theorem ml_9_135 : ml 9 135 = some (1002, 1, 0) := by decide +kernel
theorem ml_9_140 : ml 9 140 = some (1003, 2, 0) := by decide +kernel
theorem ml_10_28 : ml 10 28 = some (115, 6, 0) := by decide +kernel
theorem ml_10_36 : ml 10 36 = some (116, 3, 0) := by decide +kernel
theorem ml_10_45 : ml 10 45 = some (90, 3, 0) := by decide +kernel
theorem ml_10_49 : ml 10 49 = some (89, 3, 0) := by decide +kernel
theorem ml_10_53 : ml 10 53 = some (1001, 5, 0) := by decide +kernel
theorem ml_11_58 : ml 11 58 = some (29, 1, 0) := by decide +kernel
theorem ml_11_64 : ml 11 64 = some (182, 2, 0) := by decide +kernel
theorem ml_11_68 : ml 11 68 = some (176, 2, 0) := by decide +kernel
theorem ml_11_77 : ml 11 77 = some (30, 4, 0) := by decide +kernel
theorem ml_11_81 : ml 11 81 = some (177, 1, 0) := by decide +kernel
theorem ml_11_84 : ml 11 84 = some (31, 3, 0) := by decide +kernel
theorem ml_11_92 : ml 11 92 = some (175, 3, 0) := by decide +kernel
theorem ml_11_100 : ml 11 100 = some (84, 4, 0) := by decide +kernel
theorem ml_11_105 : ml 11 105 = some (183, 2, 0) := by decide +kernel
theorem ml_11_108 : ml 11 108 = some (85, 3, 0) := by decide +kernel
theorem ml_11_111 : ml 11 111 = some (88, 3, 0) := by decide +kernel
theorem ml_11_114 : ml 11 114 = some (181, 1, 0) := by decide +kernel
theorem ml_11_118 : ml 11 118 = some (91, 4, 0) := by decide +kernel
theorem ml_11_122 : ml 11 122 = some (113, 6, 0) := by decide +kernel
theorem ml_11_126 : ml 11 126 = some (114, 2, 0) := by decide +kernel
theorem ml_11_130 : ml 11 130 = some (179, 1, 0) := by decide +kernel
theorem ml_11_133 : ml 11 133 = some (178, 1, 0) := by decide +kernel
theorem ml_11_143 : ml 11 143 = some (33, 6, 0) := by decide +kernel
theorem ml_11_149 : ml 11 149 = some (184, 2, 0) := by decide +kernel
theorem ml_11_152 : ml 11 152 = some (41, 2, 0) := by decide +kernel
theorem ml_11_155 : ml 11 155 = some (42, 2, 0) := by decide +kernel
theorem ml_11_158 : ml 11 158 = some (38, 2, 0) := by decide +kernel
theorem ml_11_165 : ml 11 165 = some (35, 1, 0) := by decide +kernel
theorem ml_11_173 : ml 11 173 = some (37, 1, 0) := by decide +kernel
theorem ml_11_180 : ml 11 180 = some (40, 3, 0) := by decide +kernel
theorem ml_11_184 : ml 11 184 = some (93, 4, 0) := by decide +kernel
theorem ml_11_187 : ml 11 187 = some (95, 2, 0) := by decide +kernel
theorem ml_11_190 : ml 11 190 = some (96, 1, 0) := by decide +kernel
theorem ml_11_193 : ml 11 193 = some (97, 1, 0) := by decide +kernel
theorem ml_11_209 : ml 11 209 = some (59, 4, 0) := by decide +kernel
theorem ml_11_218 : ml 11 218 = some (55, 2, 0) := by decide +kernel
theorem ml_11_225 : ml 11 225 = some (185, 2, 0) := by decide +kernel
theorem ml_11_228 : ml 11 228 = some (58, 2, 0) := by decide +kernel
theorem ml_11_231 : ml 11 231 = some (66, 2, 0) := by decide +kernel
theorem ml_11_235 : ml 11 235 = some (68, 3, 0) := by decide +kernel
theorem ml_11_239 : ml 11 239 = some (67, 3, 0) := by decide +kernel
theorem ml_11_249 : ml 11 249 = some (71, 3, 0) := by decide +kernel
theorem ml_11_253 : ml 11 253 = some (72, 3, 0) := by decide +kernel
theorem ml_11_256 : ml 11 256 = some (87, 3, 0) := by decide +kernel
theorem ml_11_265 : ml 11 265 = some (39, 3, 0) := by decide +kernel
theorem ml_11_273 : ml 11 273 = some (13, 2, 0) := by decide +kernel
theorem ml_11_278 : ml 11 278 = some (45, 1, 0) := by decide +kernel
theorem ml_11_281 : ml 11 281 = some (36, 1, 0) := by decide +kernel
theorem ml_11_287 : ml 11 287 = some (14, 2, 0) := by decide +kernel
theorem ml_11_290 : ml 11 290 = some (12, 1, 0) := by decide +kernel
theorem ml_11_293 : ml 11 293 = some (73, 4, 0) := by decide +kernel
theorem ml_11_296 : ml 11 296 = some (186, 2, 0) := by decide +kernel
theorem ml_11_299 : ml 11 299 = some (21, 3, 0) := by decide +kernel
theorem ml_11_302 : ml 11 302 = some (17, 3, 0) := by decide +kernel
theorem ml_11_304 : ml 11 304 = some (146, 2, 0) := by decide +kernel
theorem ml_11_307 : ml 11 307 = some (18, 3, 0) := by decide +kernel
theorem ml_11_310 : ml 11 310 = some (22, 3, 0) := by decide +kernel
theorem ml_11_313 : ml 11 313 = some (23, 3, 0) := by decide +kernel
theorem ml_11_316 : ml 11 316 = some (24, 4, 0) := by decide +kernel
theorem ml_11_319 : ml 11 319 = some (25, 3, 0) := by decide +kernel
theorem ml_11_328 : ml 11 328 = some (74, 1, 0) := by decide +kernel
theorem ml_11_331 : ml 11 331 = some (76, 2, 0) := by decide +kernel
theorem ml_11_339 : ml 11 339 = some (2, 5, 0) := by decide +kernel
theorem ml_11_345 : ml 11 345 = some (3, 2, 0) := by decide +kernel
theorem ml_11_348 : ml 11 348 = some (5, 2, 0) := by decide +kernel
theorem ml_11_351 : ml 11 351 = some (7, 4, 0) := by decide +kernel
theorem ml_11_354 : ml 11 354 = some (8, 3, 0) := by decide +kernel
theorem ml_11_357 : ml 11 357 = some (77, 3, 0) := by decide +kernel
theorem ml_11_360 : ml 11 360 = some (78, 1, 0) := by decide +kernel
theorem ml_11_370 : ml 11 370 = some (79, 2, 0) := by decide +kernel
theorem ml_11_373 : ml 11 373 = some (48, 3, 0) := by decide +kernel
theorem ml_11_376 : ml 11 376 = some (50, 1, 0) := by decide +kernel
theorem ml_11_380 : ml 11 380 = some (51, 2, 0) := by decide +kernel
theorem ml_11_383 : ml 11 383 = some (53, 3, 0) := by decide +kernel
theorem ml_11_390 : ml 11 390 = some (52, 3, 0) := by decide +kernel
theorem ml_11_394 : ml 11 394 = some (1001, 5, 0) := by decide +kernel
theorem ml_11_400 : ml 11 400 = some (180, 1, 0) := by decide +kernel
theorem ml_11_406 : ml 11 406 = some (187, 4, 0) := by decide +kernel
theorem ml_11_414 : ml 11 414 = some (46, 1, 0) := by decide +kernel
theorem ml_11_428 : ml 11 428 = some (65, 2, 0) := by decide +kernel
theorem ml_11_431 : ml 11 431 = some (19, 2, 0) := by decide +kernel
theorem ml_11_434 : ml 11 434 = some (323, 1, 0) := by decide +kernel
theorem ml_11_439 : ml 11 439 = some (80, 1, 0) := by decide +kernel
theorem ml_11_442 : ml 11 442 = some (81, 1, 0) := by decide +kernel
theorem ml_11_446 : ml 11 446 = some (4, 1, 0) := by decide +kernel
theorem ml_11_455 : ml 11 455 = some (34, 2, 0) := by decide +kernel
theorem ml_11_458 : ml 11 458 = some (49, 2, 0) := by decide +kernel
theorem ml_12_82 : ml 12 82 = some (189, 3, 0) := by decide +kernel
theorem ml_12_87 : ml 12 87 = some (194, 2, 0) := by decide +kernel
theorem ml_12_92 : ml 12 92 = some (203, 3, 0) := by decide +kernel
theorem ml_12_96 : ml 12 96 = some (190, 1, 0) := by decide +kernel
theorem ml_12_100 : ml 12 100 = some (199, 1, 0) := by decide +kernel
theorem ml_12_103 : ml 12 103 = some (195, 2, 0) := by decide +kernel
theorem ml_12_106 : ml 12 106 = some (209, 3, 0) := by decide +kernel
theorem ml_12_117 : ml 12 117 = some (212, 2, 0) := by decide +kernel
theorem ml_12_121 : ml 12 121 = some (213, 3, 0) := by decide +kernel
theorem ml_12_124 : ml 12 124 = some (214, 5, 0) := by decide +kernel
theorem ml_12_128 : ml 12 128 = some (217, 2, 0) := by decide +kernel
theorem ml_12_131 : ml 12 131 = some (218, 2, 0) := by decide +kernel
theorem ml_12_134 : ml 12 134 = some (200, 1, 0) := by decide +kernel
theorem ml_12_137 : ml 12 137 = some (221, 4, 0) := by decide +kernel
theorem ml_12_141 : ml 12 141 = some (196, 2, 0) := by decide +kernel
theorem ml_12_144 : ml 12 144 = some (220, 3, 0) := by decide +kernel
theorem ml_12_147 : ml 12 147 = some (219, 3, 0) := by decide +kernel
theorem ml_12_151 : ml 12 151 = some (216, 2, 0) := by decide +kernel
theorem ml_12_156 : ml 12 156 = some (226, 2, 0) := by decide +kernel
theorem ml_12_168 : ml 12 168 = some (231, 2, 0) := by decide +kernel
theorem ml_12_180 : ml 12 180 = some (232, 2, 0) := by decide +kernel
theorem ml_12_186 : ml 12 186 = some (233, 1, 0) := by decide +kernel
theorem ml_12_189 : ml 12 189 = some (234, 1, 0) := by decide +kernel
theorem ml_12_195 : ml 12 195 = some (235, 1, 0) := by decide +kernel
theorem ml_12_204 : ml 12 204 = some (237, 2, 0) := by decide +kernel
theorem ml_12_207 : ml 12 207 = some (238, 1, 0) := by decide +kernel
theorem ml_12_215 : ml 12 215 = some (239, 4, 0) := by decide +kernel
theorem ml_12_230 : ml 12 230 = some (236, 2, 0) := by decide +kernel
theorem ml_12_233 : ml 12 233 = some (244, 2, 0) := by decide +kernel
theorem ml_12_237 : ml 12 237 = some (241, 2, 0) := by decide +kernel
theorem ml_12_240 : ml 12 240 = some (240, 1, 0) := by decide +kernel
theorem ml_12_243 : ml 12 243 = some (242, 1, 0) := by decide +kernel
theorem ml_12_246 : ml 12 246 = some (243, 2, 0) := by decide +kernel
theorem ml_12_256 : ml 12 256 = some (197, 2, 0) := by decide +kernel
theorem ml_12_262 : ml 12 262 = some (246, 1, 0) := by decide +kernel
theorem ml_12_271 : ml 12 271 = some (247, 1, 0) := by decide +kernel
theorem ml_12_274 : ml 12 274 = some (245, 2, 0) := by decide +kernel
theorem ml_12_277 : ml 12 277 = some (248, 1, 0) := by decide +kernel
theorem ml_12_280 : ml 12 280 = some (250, 3, 0) := by decide +kernel
theorem ml_12_283 : ml 12 283 = some (252, 3, 0) := by decide +kernel
theorem ml_12_286 : ml 12 286 = some (253, 4, 0) := by decide +kernel
theorem ml_12_289 : ml 12 289 = some (254, 3, 0) := by decide +kernel
theorem ml_12_292 : ml 12 292 = some (255, 2, 0) := by decide +kernel
theorem ml_12_295 : ml 12 295 = some (258, 2, 0) := by decide +kernel
theorem ml_12_298 : ml 12 298 = some (257, 3, 0) := by decide +kernel
theorem ml_12_301 : ml 12 301 = some (259, 3, 0) := by decide +kernel
theorem ml_12_304 : ml 12 304 = some (192, 1, 0) := by decide +kernel
theorem ml_12_307 : ml 12 307 = some (263, 3, 0) := by decide +kernel
theorem ml_12_310 : ml 12 310 = some (265, 3, 0) := by decide +kernel
theorem ml_12_313 : ml 12 313 = some (266, 5, 0) := by decide +kernel
theorem ml_12_316 : ml 12 316 = some (268, 3, 0) := by decide +kernel
theorem ml_12_319 : ml 12 319 = some (201, 3, 0) := by decide +kernel
theorem ml_12_322 : ml 12 322 = some (271, 2, 0) := by decide +kernel
theorem ml_12_325 : ml 12 325 = some (270, 4, 0) := by decide +kernel
theorem ml_12_328 : ml 12 328 = some (273, 2, 0) := by decide +kernel
theorem ml_12_331 : ml 12 331 = some (198, 2, 0) := by decide +kernel
theorem ml_12_334 : ml 12 334 = some (269, 2, 0) := by decide +kernel
theorem ml_12_337 : ml 12 337 = some (274, 2, 0) := by decide +kernel
theorem ml_12_340 : ml 12 340 = some (276, 2, 0) := by decide +kernel
theorem ml_12_343 : ml 12 343 = some (279, 3, 0) := by decide +kernel
theorem ml_12_346 : ml 12 346 = some (285, 2, 0) := by decide +kernel
theorem ml_12_349 : ml 12 349 = some (286, 1, 0) := by decide +kernel
theorem ml_12_353 : ml 12 353 = some (289, 3, 0) := by decide +kernel
theorem ml_12_356 : ml 12 356 = some (293, 2, 0) := by decide +kernel
theorem ml_12_359 : ml 12 359 = some (295, 4, 0) := by decide +kernel
theorem ml_12_362 : ml 12 362 = some (294, 4, 0) := by decide +kernel
theorem ml_12_365 : ml 12 365 = some (297, 3, 0) := by decide +kernel
theorem ml_12_368 : ml 12 368 = some (299, 4, 0) := by decide +kernel
theorem ml_12_371 : ml 12 371 = some (301, 1, 0) := by decide +kernel
theorem ml_12_376 : ml 12 376 = some (191, 1, 0) := by decide +kernel
theorem ml_12_379 : ml 12 379 = some (305, 1, 0) := by decide +kernel
theorem ml_12_385 : ml 12 385 = some (309, 1, 0) := by decide +kernel
theorem ml_12_388 : ml 12 388 = some (311, 3, 0) := by decide +kernel
theorem ml_12_397 : ml 12 397 = some (193, 3, 0) := by decide +kernel
theorem ml_12_401 : ml 12 401 = some (319, 2, 0) := by decide +kernel
theorem ml_12_404 : ml 12 404 = some (320, 1, 0) := by decide +kernel
theorem kl_0_37 : kl 0 37 = some (-1000000003) := by decide +kernel
theorem kl_0_44 : kl 0 44 = some (-1000000005) := by decide +kernel
theorem kl_1_50 : kl 1 50 = some (-1000000003) := by decide +kernel
theorem kl_1_51 : kl 1 51 = some (-1000000005) := by decide +kernel
theorem kl_2_34 : kl 2 34 = some (-1000000003) := by decide +kernel
theorem kl_2_39 : kl 2 39 = some (-1000000005) := by decide +kernel
theorem kl_3_9 : kl 3 9 = some (-1000000005) := by decide +kernel
theorem kl_5_43 : kl 5 43 = some (-1000000005) := by decide +kernel
theorem kl_5_44 : kl 5 44 = some (100000) := by decide +kernel
theorem kl_7_60 : kl 7 60 = some (-1000000005) := by decide +kernel
theorem kl_8_34 : kl 8 34 = some (-1000000003) := by decide +kernel
theorem kl_9_36 : kl 9 36 = some (-1000000003) := by decide +kernel
theorem kl_9_45 : kl 9 45 = some (-1000000001) := by decide +kernel
theorem kl_10_32 : kl 10 32 = some (-1000000005) := by decide +kernel
theorem kl_11_72 : kl 11 72 = some (-1000000001) := by decide +kernel
theorem kl_11_91 : kl 11 91 = some (-1000000003) := by decide +kernel
theorem kl_11_164 : kl 11 164 = some (-1000000012) := by decide +kernel
theorem kl_11_169 : kl 11 169 = some (-1000000002) := by decide +kernel
theorem kl_11_248 : kl 11 248 = some (-1000000005) := by decide +kernel
theorem kl_11_334 : kl 11 334 = some (65535) := by decide +kernel
theorem kl_11_363 : kl 11 363 = some (16777215) := by decide +kernel
theorem kl_11_375 : kl 11 375 = some (-1000000014) := by decide +kernel
theorem kl_11_379 : kl 11 379 = some (-1000000011) := by decide +kernel
theorem kl_11_386 : kl 11 386 = some (-1000000013) := by decide +kernel
theorem kl_12_81 : kl 12 81 = some (-1000000005) := by decide +kernel
theorem kl_12_86 : kl 12 86 = some (-1000000003) := by decide +kernel
theorem kl_12_91 : kl 12 91 = some (-1000000001) := by decide +kernel
theorem kl_12_154 : kl 12 154 = some (-1000000012) := by decide +kernel
theorem kl_12_155 : kl 12 155 = some (-1000000002) := by decide +kernel
theorem kl_12_352 : kl 12 352 = some (65535) := by decide +kernel
theorem kl_12_375 : kl 12 375 = some (16777215) := by decide +kernel
theorem kl_12_382 : kl 12 382 = some (-1000000014) := by decide +kernel
theorem kl_12_383 : kl 12 383 = some (-1000000011) := by decide +kernel
theorem kl_12_384 : kl 12 384 = some (-1000000013) := by decide +kernel
theorem kl_14_264 : kl 14 264 = some (65536) := by decide +kernel
theorem kl_14_265 : kl 14 265 = some (1431655765) := by decide +kernel
theorem kl_14_266 : kl 14 266 = some (858993459) := by decide +kernel
theorem kl_14_267 : kl 14 267 = some (252645135) := by decide +kernel
set_option maxRecDepth 100000 in
theorem tfA_0_0 : (List.range 322).all (fun o => decide (tgT o = 0 → tgT (rfT o 0) = 20 ∧ lnT (rfT o 0) = 20)) = true := by decide +kernel
theorem tf_0_0 {o : Nat} (h : tgT o = 0) : tgT (rfT o 0) = 20 := (of_decide_eq_true (List.all_eq_true.mp tfA_0_0 o (List.mem_range.mpr (tg_lt (by omega)))) h).1
theorem lf_0_0 {o : Nat} (h : tgT o = 0) : lnT (rfT o 0) = 20 := (of_decide_eq_true (List.all_eq_true.mp tfA_0_0 o (List.mem_range.mpr (tg_lt (by omega)))) h).2
set_option maxRecDepth 100000 in
theorem tfA_0_1 : (List.range 322).all (fun o => decide (tgT o = 0 → tgT (rfT o 1) = 20 ∧ lnT (rfT o 1) = 20)) = true := by decide +kernel
theorem tf_0_1 {o : Nat} (h : tgT o = 0) : tgT (rfT o 1) = 20 := (of_decide_eq_true (List.all_eq_true.mp tfA_0_1 o (List.mem_range.mpr (tg_lt (by omega)))) h).1
theorem lf_0_1 {o : Nat} (h : tgT o = 0) : lnT (rfT o 1) = 20 := (of_decide_eq_true (List.all_eq_true.mp tfA_0_1 o (List.mem_range.mpr (tg_lt (by omega)))) h).2
set_option maxRecDepth 100000 in
theorem tfA_0_2 : (List.range 322).all (fun o => decide (tgT o = 0 → tgT (rfT o 2) = 20 ∧ lnT (rfT o 2) = 20)) = true := by decide +kernel
theorem tf_0_2 {o : Nat} (h : tgT o = 0) : tgT (rfT o 2) = 20 := (of_decide_eq_true (List.all_eq_true.mp tfA_0_2 o (List.mem_range.mpr (tg_lt (by omega)))) h).1
theorem lf_0_2 {o : Nat} (h : tgT o = 0) : lnT (rfT o 2) = 20 := (of_decide_eq_true (List.all_eq_true.mp tfA_0_2 o (List.mem_range.mpr (tg_lt (by omega)))) h).2
set_option maxRecDepth 100000 in
theorem tfA_0_3 : (List.range 322).all (fun o => decide (tgT o = 0 → tgT (rfT o 3) = 20 ∧ lnT (rfT o 3) = 20)) = true := by decide +kernel
theorem tf_0_3 {o : Nat} (h : tgT o = 0) : tgT (rfT o 3) = 20 := (of_decide_eq_true (List.all_eq_true.mp tfA_0_3 o (List.mem_range.mpr (tg_lt (by omega)))) h).1
theorem lf_0_3 {o : Nat} (h : tgT o = 0) : lnT (rfT o 3) = 20 := (of_decide_eq_true (List.all_eq_true.mp tfA_0_3 o (List.mem_range.mpr (tg_lt (by omega)))) h).2
set_option maxRecDepth 100000 in
theorem tfA_1_0 : (List.range 322).all (fun o => decide (tgT o = 1 → tgT (rfT o 0) = 20 ∧ lnT (rfT o 0) = 24)) = true := by decide +kernel
theorem tf_1_0 {o : Nat} (h : tgT o = 1) : tgT (rfT o 0) = 20 := (of_decide_eq_true (List.all_eq_true.mp tfA_1_0 o (List.mem_range.mpr (tg_lt (by omega)))) h).1
theorem lf_1_0 {o : Nat} (h : tgT o = 1) : lnT (rfT o 0) = 24 := (of_decide_eq_true (List.all_eq_true.mp tfA_1_0 o (List.mem_range.mpr (tg_lt (by omega)))) h).2
set_option maxRecDepth 100000 in
theorem tfA_1_1 : (List.range 322).all (fun o => decide (tgT o = 1 → tgT (rfT o 1) = 20 ∧ lnT (rfT o 1) = 24)) = true := by decide +kernel
theorem tf_1_1 {o : Nat} (h : tgT o = 1) : tgT (rfT o 1) = 20 := (of_decide_eq_true (List.all_eq_true.mp tfA_1_1 o (List.mem_range.mpr (tg_lt (by omega)))) h).1
theorem lf_1_1 {o : Nat} (h : tgT o = 1) : lnT (rfT o 1) = 24 := (of_decide_eq_true (List.all_eq_true.mp tfA_1_1 o (List.mem_range.mpr (tg_lt (by omega)))) h).2
set_option maxRecDepth 100000 in
theorem tfA_1_2 : (List.range 322).all (fun o => decide (tgT o = 1 → tgT (rfT o 2) = 20 ∧ lnT (rfT o 2) = 24)) = true := by decide +kernel
theorem tf_1_2 {o : Nat} (h : tgT o = 1) : tgT (rfT o 2) = 20 := (of_decide_eq_true (List.all_eq_true.mp tfA_1_2 o (List.mem_range.mpr (tg_lt (by omega)))) h).1
theorem lf_1_2 {o : Nat} (h : tgT o = 1) : lnT (rfT o 2) = 24 := (of_decide_eq_true (List.all_eq_true.mp tfA_1_2 o (List.mem_range.mpr (tg_lt (by omega)))) h).2
set_option maxRecDepth 100000 in
theorem tfA_1_3 : (List.range 322).all (fun o => decide (tgT o = 1 → tgT (rfT o 3) = 20 ∧ lnT (rfT o 3) = 24)) = true := by decide +kernel
theorem tf_1_3 {o : Nat} (h : tgT o = 1) : tgT (rfT o 3) = 20 := (of_decide_eq_true (List.all_eq_true.mp tfA_1_3 o (List.mem_range.mpr (tg_lt (by omega)))) h).1
theorem lf_1_3 {o : Nat} (h : tgT o = 1) : lnT (rfT o 3) = 24 := (of_decide_eq_true (List.all_eq_true.mp tfA_1_3 o (List.mem_range.mpr (tg_lt (by omega)))) h).2
set_option maxRecDepth 100000 in
theorem tfA_1_4 : (List.range 322).all (fun o => decide (tgT o = 1 → tgT (rfT o 4) = 20 ∧ lnT (rfT o 4) = 24)) = true := by decide +kernel
theorem tf_1_4 {o : Nat} (h : tgT o = 1) : tgT (rfT o 4) = 20 := (of_decide_eq_true (List.all_eq_true.mp tfA_1_4 o (List.mem_range.mpr (tg_lt (by omega)))) h).1
theorem lf_1_4 {o : Nat} (h : tgT o = 1) : lnT (rfT o 4) = 24 := (of_decide_eq_true (List.all_eq_true.mp tfA_1_4 o (List.mem_range.mpr (tg_lt (by omega)))) h).2
set_option maxRecDepth 100000 in
theorem tfA_1_5 : (List.range 322).all (fun o => decide (tgT o = 1 → tgT (rfT o 5) = 20 ∧ lnT (rfT o 5) = 24)) = true := by decide +kernel
theorem tf_1_5 {o : Nat} (h : tgT o = 1) : tgT (rfT o 5) = 20 := (of_decide_eq_true (List.all_eq_true.mp tfA_1_5 o (List.mem_range.mpr (tg_lt (by omega)))) h).1
theorem lf_1_5 {o : Nat} (h : tgT o = 1) : lnT (rfT o 5) = 24 := (of_decide_eq_true (List.all_eq_true.mp tfA_1_5 o (List.mem_range.mpr (tg_lt (by omega)))) h).2
set_option maxRecDepth 100000 in
theorem tfA_1_6 : (List.range 322).all (fun o => decide (tgT o = 1 → tgT (rfT o 6) = 20 ∧ lnT (rfT o 6) = 24)) = true := by decide +kernel
theorem tf_1_6 {o : Nat} (h : tgT o = 1) : tgT (rfT o 6) = 20 := (of_decide_eq_true (List.all_eq_true.mp tfA_1_6 o (List.mem_range.mpr (tg_lt (by omega)))) h).1
theorem lf_1_6 {o : Nat} (h : tgT o = 1) : lnT (rfT o 6) = 24 := (of_decide_eq_true (List.all_eq_true.mp tfA_1_6 o (List.mem_range.mpr (tg_lt (by omega)))) h).2
set_option maxRecDepth 100000 in
theorem tfA_1_7 : (List.range 322).all (fun o => decide (tgT o = 1 → tgT (rfT o 7) = 20 ∧ lnT (rfT o 7) = 24)) = true := by decide +kernel
theorem tf_1_7 {o : Nat} (h : tgT o = 1) : tgT (rfT o 7) = 20 := (of_decide_eq_true (List.all_eq_true.mp tfA_1_7 o (List.mem_range.mpr (tg_lt (by omega)))) h).1
theorem lf_1_7 {o : Nat} (h : tgT o = 1) : lnT (rfT o 7) = 24 := (of_decide_eq_true (List.all_eq_true.mp tfA_1_7 o (List.mem_range.mpr (tg_lt (by omega)))) h).2
set_option maxRecDepth 100000 in
theorem tfA_2_0 : (List.range 322).all (fun o => decide (tgT o = 2 → tgT (rfT o 0) = 20 ∧ lnT (rfT o 0) = 40)) = true := by decide +kernel
theorem tf_2_0 {o : Nat} (h : tgT o = 2) : tgT (rfT o 0) = 20 := (of_decide_eq_true (List.all_eq_true.mp tfA_2_0 o (List.mem_range.mpr (tg_lt (by omega)))) h).1
theorem lf_2_0 {o : Nat} (h : tgT o = 2) : lnT (rfT o 0) = 40 := (of_decide_eq_true (List.all_eq_true.mp tfA_2_0 o (List.mem_range.mpr (tg_lt (by omega)))) h).2
set_option maxRecDepth 100000 in
theorem tfA_2_1 : (List.range 322).all (fun o => decide (tgT o = 2 → tgT (rfT o 1) = 20 ∧ lnT (rfT o 1) = 40)) = true := by decide +kernel
theorem tf_2_1 {o : Nat} (h : tgT o = 2) : tgT (rfT o 1) = 20 := (of_decide_eq_true (List.all_eq_true.mp tfA_2_1 o (List.mem_range.mpr (tg_lt (by omega)))) h).1
theorem lf_2_1 {o : Nat} (h : tgT o = 2) : lnT (rfT o 1) = 40 := (of_decide_eq_true (List.all_eq_true.mp tfA_2_1 o (List.mem_range.mpr (tg_lt (by omega)))) h).2
set_option maxRecDepth 100000 in
theorem tfA_2_2 : (List.range 322).all (fun o => decide (tgT o = 2 → tgT (rfT o 2) = 20 ∧ lnT (rfT o 2) = 40)) = true := by decide +kernel
theorem tf_2_2 {o : Nat} (h : tgT o = 2) : tgT (rfT o 2) = 20 := (of_decide_eq_true (List.all_eq_true.mp tfA_2_2 o (List.mem_range.mpr (tg_lt (by omega)))) h).1
theorem lf_2_2 {o : Nat} (h : tgT o = 2) : lnT (rfT o 2) = 40 := (of_decide_eq_true (List.all_eq_true.mp tfA_2_2 o (List.mem_range.mpr (tg_lt (by omega)))) h).2
set_option maxRecDepth 100000 in
theorem tfA_4_0 : (List.range 322).all (fun o => decide (tgT o = 4 → tgT (rfT o 0) = 20 ∧ lnT (rfT o 0) = 24)) = true := by decide +kernel
theorem tf_4_0 {o : Nat} (h : tgT o = 4) : tgT (rfT o 0) = 20 := (of_decide_eq_true (List.all_eq_true.mp tfA_4_0 o (List.mem_range.mpr (tg_lt (by omega)))) h).1
theorem lf_4_0 {o : Nat} (h : tgT o = 4) : lnT (rfT o 0) = 24 := (of_decide_eq_true (List.all_eq_true.mp tfA_4_0 o (List.mem_range.mpr (tg_lt (by omega)))) h).2
set_option maxRecDepth 100000 in
theorem tfA_5_7 : (List.range 322).all (fun o => decide (tgT o = 5 → tgT (rfT o 7) = 20 ∧ lnT (rfT o 7) = 96)) = true := by decide +kernel
theorem tf_5_7 {o : Nat} (h : tgT o = 5) : tgT (rfT o 7) = 20 := (of_decide_eq_true (List.all_eq_true.mp tfA_5_7 o (List.mem_range.mpr (tg_lt (by omega)))) h).1
theorem lf_5_7 {o : Nat} (h : tgT o = 5) : lnT (rfT o 7) = 96 := (of_decide_eq_true (List.all_eq_true.mp tfA_5_7 o (List.mem_range.mpr (tg_lt (by omega)))) h).2
set_option maxRecDepth 100000 in
theorem tfA_6_0 : (List.range 322).all (fun o => decide (tgT o = 6 → tgT (rfT o 0) = 3)) = true := by decide +kernel
theorem tf_6_0 {o : Nat} (h : tgT o = 6) : tgT (rfT o 0) = 3 := (of_decide_eq_true (List.all_eq_true.mp tfA_6_0 o (List.mem_range.mpr (tg_lt (by omega)))) h)
set_option maxRecDepth 100000 in
theorem tfA_6_1 : (List.range 322).all (fun o => decide (tgT o = 6 → tgT (rfT o 1) = 4)) = true := by decide +kernel
theorem tf_6_1 {o : Nat} (h : tgT o = 6) : tgT (rfT o 1) = 4 := (of_decide_eq_true (List.all_eq_true.mp tfA_6_1 o (List.mem_range.mpr (tg_lt (by omega)))) h)
set_option maxRecDepth 100000 in
theorem tfA_7_0 : (List.range 322).all (fun o => decide (tgT o = 7 → tgT (rfT o 0) = 2)) = true := by decide +kernel
theorem tf_7_0 {o : Nat} (h : tgT o = 7) : tgT (rfT o 0) = 2 := (of_decide_eq_true (List.all_eq_true.mp tfA_7_0 o (List.mem_range.mpr (tg_lt (by omega)))) h)
set_option maxRecDepth 100000 in
theorem tfA_7_1 : (List.range 322).all (fun o => decide (tgT o = 7 → tgT (rfT o 1) = 8)) = true := by decide +kernel
theorem tf_7_1 {o : Nat} (h : tgT o = 7) : tgT (rfT o 1) = 8 := (of_decide_eq_true (List.all_eq_true.mp tfA_7_1 o (List.mem_range.mpr (tg_lt (by omega)))) h)
set_option maxRecDepth 100000 in
theorem tfA_7_2 : (List.range 322).all (fun o => decide (tgT o = 7 → tgT (rfT o 2) = 33 ∧ lnT (rfT o 2) = 24)) = true := by decide +kernel
theorem tf_7_2 {o : Nat} (h : tgT o = 7) : tgT (rfT o 2) = 33 := (of_decide_eq_true (List.all_eq_true.mp tfA_7_2 o (List.mem_range.mpr (tg_lt (by omega)))) h).1
theorem lf_7_2 {o : Nat} (h : tgT o = 7) : lnT (rfT o 2) = 24 := (of_decide_eq_true (List.all_eq_true.mp tfA_7_2 o (List.mem_range.mpr (tg_lt (by omega)))) h).2
set_option maxRecDepth 100000 in
theorem tfA_7_3 : (List.range 322).all (fun o => decide (tgT o = 7 → tgT (rfT o 3) = 35 ∧ lnT (rfT o 3) = 16)) = true := by decide +kernel
theorem tf_7_3 {o : Nat} (h : tgT o = 7) : tgT (rfT o 3) = 35 := (of_decide_eq_true (List.all_eq_true.mp tfA_7_3 o (List.mem_range.mpr (tg_lt (by omega)))) h).1
theorem lf_7_3 {o : Nat} (h : tgT o = 7) : lnT (rfT o 3) = 16 := (of_decide_eq_true (List.all_eq_true.mp tfA_7_3 o (List.mem_range.mpr (tg_lt (by omega)))) h).2
set_option maxRecDepth 100000 in
theorem tfA_7_4 : (List.range 322).all (fun o => decide (tgT o = 7 → tgT (rfT o 4) = 1)) = true := by decide +kernel
theorem tf_7_4 {o : Nat} (h : tgT o = 7) : tgT (rfT o 4) = 1 := (of_decide_eq_true (List.all_eq_true.mp tfA_7_4 o (List.mem_range.mpr (tg_lt (by omega)))) h)
set_option maxRecDepth 100000 in
theorem tfA_7_5 : (List.range 322).all (fun o => decide (tgT o = 7 → tgT (rfT o 5) = 0)) = true := by decide +kernel
theorem tf_7_5 {o : Nat} (h : tgT o = 7) : tgT (rfT o 5) = 0 := (of_decide_eq_true (List.all_eq_true.mp tfA_7_5 o (List.mem_range.mpr (tg_lt (by omega)))) h)
set_option maxRecDepth 100000 in
theorem tfA_7_6 : (List.range 322).all (fun o => decide (tgT o = 7 → tgT (rfT o 6) = 20 ∧ lnT (rfT o 6) = 8)) = true := by decide +kernel
theorem tf_7_6 {o : Nat} (h : tgT o = 7) : tgT (rfT o 6) = 20 := (of_decide_eq_true (List.all_eq_true.mp tfA_7_6 o (List.mem_range.mpr (tg_lt (by omega)))) h).1
theorem lf_7_6 {o : Nat} (h : tgT o = 7) : lnT (rfT o 6) = 8 := (of_decide_eq_true (List.all_eq_true.mp tfA_7_6 o (List.mem_range.mpr (tg_lt (by omega)))) h).2
set_option maxRecDepth 100000 in
theorem tfA_7_7 : (List.range 322).all (fun o => decide (tgT o = 7 → tgT (rfT o 7) = 20 ∧ lnT (rfT o 7) = 10)) = true := by decide +kernel
theorem tf_7_7 {o : Nat} (h : tgT o = 7) : tgT (rfT o 7) = 20 := (of_decide_eq_true (List.all_eq_true.mp tfA_7_7 o (List.mem_range.mpr (tg_lt (by omega)))) h).1
theorem lf_7_7 {o : Nat} (h : tgT o = 7) : lnT (rfT o 7) = 10 := (of_decide_eq_true (List.all_eq_true.mp tfA_7_7 o (List.mem_range.mpr (tg_lt (by omega)))) h).2
set_option maxRecDepth 100000 in
theorem tfA_8_0 : (List.range 322).all (fun o => decide (tgT o = 8 → tgT (rfT o 0) = 20 ∧ lnT (rfT o 0) = 6)) = true := by decide +kernel
theorem tf_8_0 {o : Nat} (h : tgT o = 8) : tgT (rfT o 0) = 20 := (of_decide_eq_true (List.all_eq_true.mp tfA_8_0 o (List.mem_range.mpr (tg_lt (by omega)))) h).1
theorem lf_8_0 {o : Nat} (h : tgT o = 8) : lnT (rfT o 0) = 6 := (of_decide_eq_true (List.all_eq_true.mp tfA_8_0 o (List.mem_range.mpr (tg_lt (by omega)))) h).2
set_option maxRecDepth 100000 in
theorem tfA_8_1 : (List.range 322).all (fun o => decide (tgT o = 8 → tgT (rfT o 1) = 20 ∧ lnT (rfT o 1) = 6)) = true := by decide +kernel
theorem tf_8_1 {o : Nat} (h : tgT o = 8) : tgT (rfT o 1) = 20 := (of_decide_eq_true (List.all_eq_true.mp tfA_8_1 o (List.mem_range.mpr (tg_lt (by omega)))) h).1
theorem lf_8_1 {o : Nat} (h : tgT o = 8) : lnT (rfT o 1) = 6 := (of_decide_eq_true (List.all_eq_true.mp tfA_8_1 o (List.mem_range.mpr (tg_lt (by omega)))) h).2
set_option maxRecDepth 100000 in
theorem tfA_8_2 : (List.range 322).all (fun o => decide (tgT o = 8 → tgT (rfT o 2) = 20 ∧ lnT (rfT o 2) = 6)) = true := by decide +kernel
theorem tf_8_2 {o : Nat} (h : tgT o = 8) : tgT (rfT o 2) = 20 := (of_decide_eq_true (List.all_eq_true.mp tfA_8_2 o (List.mem_range.mpr (tg_lt (by omega)))) h).1
theorem lf_8_2 {o : Nat} (h : tgT o = 8) : lnT (rfT o 2) = 6 := (of_decide_eq_true (List.all_eq_true.mp tfA_8_2 o (List.mem_range.mpr (tg_lt (by omega)))) h).2
set_option maxRecDepth 100000 in
theorem tfA_8_3 : (List.range 322).all (fun o => decide (tgT o = 8 → tgT (rfT o 3) = 20 ∧ lnT (rfT o 3) = 6)) = true := by decide +kernel
theorem tf_8_3 {o : Nat} (h : tgT o = 8) : tgT (rfT o 3) = 20 := (of_decide_eq_true (List.all_eq_true.mp tfA_8_3 o (List.mem_range.mpr (tg_lt (by omega)))) h).1
theorem lf_8_3 {o : Nat} (h : tgT o = 8) : lnT (rfT o 3) = 6 := (of_decide_eq_true (List.all_eq_true.mp tfA_8_3 o (List.mem_range.mpr (tg_lt (by omega)))) h).2
set_option maxRecDepth 100000 in
theorem tfA_9_0 : (List.range 322).all (fun o => decide (tgT o = 9 → tgT (rfT o 0) = 21 ∧ lnT (rfT o 0) = 96)) = true := by decide +kernel
theorem tf_9_0 {o : Nat} (h : tgT o = 9) : tgT (rfT o 0) = 21 := (of_decide_eq_true (List.all_eq_true.mp tfA_9_0 o (List.mem_range.mpr (tg_lt (by omega)))) h).1
theorem lf_9_0 {o : Nat} (h : tgT o = 9) : lnT (rfT o 0) = 96 := (of_decide_eq_true (List.all_eq_true.mp tfA_9_0 o (List.mem_range.mpr (tg_lt (by omega)))) h).2
set_option maxRecDepth 100000 in
theorem tfA_9_1 : (List.range 322).all (fun o => decide (tgT o = 9 → tgT (rfT o 1) = 20 ∧ lnT (rfT o 1) = 97)) = true := by decide +kernel
theorem tf_9_1 {o : Nat} (h : tgT o = 9) : tgT (rfT o 1) = 20 := (of_decide_eq_true (List.all_eq_true.mp tfA_9_1 o (List.mem_range.mpr (tg_lt (by omega)))) h).1
theorem lf_9_1 {o : Nat} (h : tgT o = 9) : lnT (rfT o 1) = 97 := (of_decide_eq_true (List.all_eq_true.mp tfA_9_1 o (List.mem_range.mpr (tg_lt (by omega)))) h).2
set_option maxRecDepth 100000 in
theorem tfA_9_2 : (List.range 322).all (fun o => decide (tgT o = 9 → tgT (rfT o 2) = 20 ∧ lnT (rfT o 2) = 97)) = true := by decide +kernel
theorem tf_9_2 {o : Nat} (h : tgT o = 9) : tgT (rfT o 2) = 20 := (of_decide_eq_true (List.all_eq_true.mp tfA_9_2 o (List.mem_range.mpr (tg_lt (by omega)))) h).1
theorem lf_9_2 {o : Nat} (h : tgT o = 9) : lnT (rfT o 2) = 97 := (of_decide_eq_true (List.all_eq_true.mp tfA_9_2 o (List.mem_range.mpr (tg_lt (by omega)))) h).2
set_option maxRecDepth 100000 in
theorem tfA_9_3 : (List.range 322).all (fun o => decide (tgT o = 9 → tgT (rfT o 3) = 20 ∧ lnT (rfT o 3) = 97)) = true := by decide +kernel
theorem tf_9_3 {o : Nat} (h : tgT o = 9) : tgT (rfT o 3) = 20 := (of_decide_eq_true (List.all_eq_true.mp tfA_9_3 o (List.mem_range.mpr (tg_lt (by omega)))) h).1
theorem lf_9_3 {o : Nat} (h : tgT o = 9) : lnT (rfT o 3) = 97 := (of_decide_eq_true (List.all_eq_true.mp tfA_9_3 o (List.mem_range.mpr (tg_lt (by omega)))) h).2
set_option maxRecDepth 100000 in
theorem tfA_9_4 : (List.range 322).all (fun o => decide (tgT o = 9 → tgT (rfT o 4) = 5)) = true := by decide +kernel
theorem tf_9_4 {o : Nat} (h : tgT o = 9) : tgT (rfT o 4) = 5 := (of_decide_eq_true (List.all_eq_true.mp tfA_9_4 o (List.mem_range.mpr (tg_lt (by omega)))) h)
set_option maxRecDepth 100000 in
theorem tfA_10_0 : (List.range 322).all (fun o => decide (tgT o = 10 → tgT (rfT o 0) = 20 ∧ lnT (rfT o 0) = 6)) = true := by decide +kernel
theorem tf_10_0 {o : Nat} (h : tgT o = 10) : tgT (rfT o 0) = 20 := (of_decide_eq_true (List.all_eq_true.mp tfA_10_0 o (List.mem_range.mpr (tg_lt (by omega)))) h).1
theorem lf_10_0 {o : Nat} (h : tgT o = 10) : lnT (rfT o 0) = 6 := (of_decide_eq_true (List.all_eq_true.mp tfA_10_0 o (List.mem_range.mpr (tg_lt (by omega)))) h).2
set_option maxRecDepth 100000 in
theorem tfA_10_1 : (List.range 322).all (fun o => decide (tgT o = 10 → tgT (rfT o 1) = 20 ∧ lnT (rfT o 1) = 6)) = true := by decide +kernel
theorem tf_10_1 {o : Nat} (h : tgT o = 10) : tgT (rfT o 1) = 20 := (of_decide_eq_true (List.all_eq_true.mp tfA_10_1 o (List.mem_range.mpr (tg_lt (by omega)))) h).1
theorem lf_10_1 {o : Nat} (h : tgT o = 10) : lnT (rfT o 1) = 6 := (of_decide_eq_true (List.all_eq_true.mp tfA_10_1 o (List.mem_range.mpr (tg_lt (by omega)))) h).2
set_option maxRecDepth 100000 in
theorem tfA_11_0 : (List.range 322).all (fun o => decide (tgT o = 11 → tgT (rfT o 0) = 7)) = true := by decide +kernel
theorem tf_11_0 {o : Nat} (h : tgT o = 11) : tgT (rfT o 0) = 7 := (of_decide_eq_true (List.all_eq_true.mp tfA_11_0 o (List.mem_range.mpr (tg_lt (by omega)))) h)
set_option maxRecDepth 100000 in
theorem tfA_11_1 : (List.range 322).all (fun o => decide (tgT o = 11 → tgT (rfT o 1) = 7)) = true := by decide +kernel
theorem tf_11_1 {o : Nat} (h : tgT o = 11) : tgT (rfT o 1) = 7 := (of_decide_eq_true (List.all_eq_true.mp tfA_11_1 o (List.mem_range.mpr (tg_lt (by omega)))) h)
set_option maxRecDepth 100000 in
theorem tfA_11_2 : (List.range 322).all (fun o => decide (tgT o = 11 → tgT (rfT o 2) = 7)) = true := by decide +kernel
theorem tf_11_2 {o : Nat} (h : tgT o = 11) : tgT (rfT o 2) = 7 := (of_decide_eq_true (List.all_eq_true.mp tfA_11_2 o (List.mem_range.mpr (tg_lt (by omega)))) h)
set_option maxRecDepth 100000 in
theorem tfA_11_3 : (List.range 322).all (fun o => decide (tgT o = 11 → tgT (rfT o 3) = 10)) = true := by decide +kernel
theorem tf_11_3 {o : Nat} (h : tgT o = 11) : tgT (rfT o 3) = 10 := (of_decide_eq_true (List.all_eq_true.mp tfA_11_3 o (List.mem_range.mpr (tg_lt (by omega)))) h)
set_option maxRecDepth 100000 in
theorem tfA_11_4 : (List.range 322).all (fun o => decide (tgT o = 11 → tgT (rfT o 4) = 9)) = true := by decide +kernel
theorem tf_11_4 {o : Nat} (h : tgT o = 11) : tgT (rfT o 4) = 9 := (of_decide_eq_true (List.all_eq_true.mp tfA_11_4 o (List.mem_range.mpr (tg_lt (by omega)))) h)
set_option maxRecDepth 100000 in
theorem tfA_11_5 : (List.range 322).all (fun o => decide (tgT o = 11 → tgT (rfT o 5) = 20 ∧ lnT (rfT o 5) = 60)) = true := by decide +kernel
theorem tf_11_5 {o : Nat} (h : tgT o = 11) : tgT (rfT o 5) = 20 := (of_decide_eq_true (List.all_eq_true.mp tfA_11_5 o (List.mem_range.mpr (tg_lt (by omega)))) h).1
theorem lf_11_5 {o : Nat} (h : tgT o = 11) : lnT (rfT o 5) = 60 := (of_decide_eq_true (List.all_eq_true.mp tfA_11_5 o (List.mem_range.mpr (tg_lt (by omega)))) h).2
set_option maxRecDepth 100000 in
theorem tfA_11_6 : (List.range 322).all (fun o => decide (tgT o = 11 → tgT (rfT o 6) = 34 ∧ lnT (rfT o 6) = 4)) = true := by decide +kernel
theorem tf_11_6 {o : Nat} (h : tgT o = 11) : tgT (rfT o 6) = 34 := (of_decide_eq_true (List.all_eq_true.mp tfA_11_6 o (List.mem_range.mpr (tg_lt (by omega)))) h).1
theorem lf_11_6 {o : Nat} (h : tgT o = 11) : lnT (rfT o 6) = 4 := (of_decide_eq_true (List.all_eq_true.mp tfA_11_6 o (List.mem_range.mpr (tg_lt (by omega)))) h).2
set_option maxRecDepth 100000 in
theorem tfA_11_7 : (List.range 322).all (fun o => decide (tgT o = 11 → tgT (rfT o 7) = 36 ∧ lnT (rfT o 7) = 6)) = true := by decide +kernel
theorem tf_11_7 {o : Nat} (h : tgT o = 11) : tgT (rfT o 7) = 36 := (of_decide_eq_true (List.all_eq_true.mp tfA_11_7 o (List.mem_range.mpr (tg_lt (by omega)))) h).1
theorem lf_11_7 {o : Nat} (h : tgT o = 11) : lnT (rfT o 7) = 6 := (of_decide_eq_true (List.all_eq_true.mp tfA_11_7 o (List.mem_range.mpr (tg_lt (by omega)))) h).2
set_option maxRecDepth 100000 in
theorem tfA_12_0 : (List.range 322).all (fun o => decide (tgT o = 12 → tgT (rfT o 0) = 20 ∧ lnT (rfT o 0) = 5528)) = true := by decide +kernel
theorem tf_12_0 {o : Nat} (h : tgT o = 12) : tgT (rfT o 0) = 20 := (of_decide_eq_true (List.all_eq_true.mp tfA_12_0 o (List.mem_range.mpr (tg_lt (by omega)))) h).1
theorem lf_12_0 {o : Nat} (h : tgT o = 12) : lnT (rfT o 0) = 5528 := (of_decide_eq_true (List.all_eq_true.mp tfA_12_0 o (List.mem_range.mpr (tg_lt (by omega)))) h).2
set_option maxRecDepth 100000 in
theorem tfA_12_1 : (List.range 322).all (fun o => decide (tgT o = 12 → tgT (rfT o 1) = 20 ∧ lnT (rfT o 1) = 5528)) = true := by decide +kernel
theorem tf_12_1 {o : Nat} (h : tgT o = 12) : tgT (rfT o 1) = 20 := (of_decide_eq_true (List.all_eq_true.mp tfA_12_1 o (List.mem_range.mpr (tg_lt (by omega)))) h).1
theorem lf_12_1 {o : Nat} (h : tgT o = 12) : lnT (rfT o 1) = 5528 := (of_decide_eq_true (List.all_eq_true.mp tfA_12_1 o (List.mem_range.mpr (tg_lt (by omega)))) h).2
set_option maxRecDepth 100000 in
theorem tfA_12_2 : (List.range 322).all (fun o => decide (tgT o = 12 → tgT (rfT o 2) = 20 ∧ lnT (rfT o 2) = 5528)) = true := by decide +kernel
theorem tf_12_2 {o : Nat} (h : tgT o = 12) : tgT (rfT o 2) = 20 := (of_decide_eq_true (List.all_eq_true.mp tfA_12_2 o (List.mem_range.mpr (tg_lt (by omega)))) h).1
theorem lf_12_2 {o : Nat} (h : tgT o = 12) : lnT (rfT o 2) = 5528 := (of_decide_eq_true (List.all_eq_true.mp tfA_12_2 o (List.mem_range.mpr (tg_lt (by omega)))) h).2
set_option maxRecDepth 100000 in
theorem tfA_12_4 : (List.range 322).all (fun o => decide (tgT o = 12 → tgT (rfT o 4) = 20 ∧ lnT (rfT o 4) = 7)) = true := by decide +kernel
theorem tf_12_4 {o : Nat} (h : tgT o = 12) : tgT (rfT o 4) = 20 := (of_decide_eq_true (List.all_eq_true.mp tfA_12_4 o (List.mem_range.mpr (tg_lt (by omega)))) h).1
theorem lf_12_4 {o : Nat} (h : tgT o = 12) : lnT (rfT o 4) = 7 := (of_decide_eq_true (List.all_eq_true.mp tfA_12_4 o (List.mem_range.mpr (tg_lt (by omega)))) h).2
set_option maxRecDepth 100000 in
theorem tfA_12_5 : (List.range 322).all (fun o => decide (tgT o = 12 → tgT (rfT o 5) = 20 ∧ lnT (rfT o 5) = 7)) = true := by decide +kernel
theorem tf_12_5 {o : Nat} (h : tgT o = 12) : tgT (rfT o 5) = 20 := (of_decide_eq_true (List.all_eq_true.mp tfA_12_5 o (List.mem_range.mpr (tg_lt (by omega)))) h).1
theorem lf_12_5 {o : Nat} (h : tgT o = 12) : lnT (rfT o 5) = 7 := (of_decide_eq_true (List.all_eq_true.mp tfA_12_5 o (List.mem_range.mpr (tg_lt (by omega)))) h).2
set_option maxRecDepth 100000 in
theorem tfA_12_6 : (List.range 322).all (fun o => decide (tgT o = 12 → tgT (rfT o 6) = 20 ∧ lnT (rfT o 6) = 6)) = true := by decide +kernel
theorem tf_12_6 {o : Nat} (h : tgT o = 12) : tgT (rfT o 6) = 20 := (of_decide_eq_true (List.all_eq_true.mp tfA_12_6 o (List.mem_range.mpr (tg_lt (by omega)))) h).1
theorem lf_12_6 {o : Nat} (h : tgT o = 12) : lnT (rfT o 6) = 6 := (of_decide_eq_true (List.all_eq_true.mp tfA_12_6 o (List.mem_range.mpr (tg_lt (by omega)))) h).2
set_option maxRecDepth 100000 in
theorem tfA_12_9 : (List.range 322).all (fun o => decide (tgT o = 12 → tgT (rfT o 9) = 20 ∧ lnT (rfT o 9) = 96)) = true := by decide +kernel
theorem tf_12_9 {o : Nat} (h : tgT o = 12) : tgT (rfT o 9) = 20 := (of_decide_eq_true (List.all_eq_true.mp tfA_12_9 o (List.mem_range.mpr (tg_lt (by omega)))) h).1
theorem lf_12_9 {o : Nat} (h : tgT o = 12) : lnT (rfT o 9) = 96 := (of_decide_eq_true (List.all_eq_true.mp tfA_12_9 o (List.mem_range.mpr (tg_lt (by omega)))) h).2
set_option maxRecDepth 100000 in
theorem tfA_12_11 : (List.range 322).all (fun o => decide (tgT o = 12 → tgT (rfT o 11) = 23 ∧ lnT (rfT o 11) = 68)) = true := by decide +kernel
theorem tf_12_11 {o : Nat} (h : tgT o = 12) : tgT (rfT o 11) = 23 := (of_decide_eq_true (List.all_eq_true.mp tfA_12_11 o (List.mem_range.mpr (tg_lt (by omega)))) h).1
theorem lf_12_11 {o : Nat} (h : tgT o = 12) : lnT (rfT o 11) = 68 := (of_decide_eq_true (List.all_eq_true.mp tfA_12_11 o (List.mem_range.mpr (tg_lt (by omega)))) h).2
set_option maxRecDepth 100000 in
theorem tfA_12_12 : (List.range 322).all (fun o => decide (tgT o = 12 → tgT (rfT o 12) = 20 ∧ lnT (rfT o 12) = 18)) = true := by decide +kernel
theorem tf_12_12 {o : Nat} (h : tgT o = 12) : tgT (rfT o 12) = 20 := (of_decide_eq_true (List.all_eq_true.mp tfA_12_12 o (List.mem_range.mpr (tg_lt (by omega)))) h).1
theorem lf_12_12 {o : Nat} (h : tgT o = 12) : lnT (rfT o 12) = 18 := (of_decide_eq_true (List.all_eq_true.mp tfA_12_12 o (List.mem_range.mpr (tg_lt (by omega)))) h).2
set_option maxRecDepth 100000 in
theorem tfA_12_22 : (List.range 322).all (fun o => decide (tgT o = 12 → tgT (rfT o 22) = 20 ∧ lnT (rfT o 22) = 288)) = true := by decide +kernel
theorem tf_12_22 {o : Nat} (h : tgT o = 12) : tgT (rfT o 22) = 20 := (of_decide_eq_true (List.all_eq_true.mp tfA_12_22 o (List.mem_range.mpr (tg_lt (by omega)))) h).1
theorem lf_12_22 {o : Nat} (h : tgT o = 12) : lnT (rfT o 22) = 288 := (of_decide_eq_true (List.all_eq_true.mp tfA_12_22 o (List.mem_range.mpr (tg_lt (by omega)))) h).2
set_option maxRecDepth 100000 in
theorem tfA_12_30 : (List.range 322).all (fun o => decide (tgT o = 12 → tgT (rfT o 30) = 20 ∧ lnT (rfT o 30) = 100)) = true := by decide +kernel
theorem tf_12_30 {o : Nat} (h : tgT o = 12) : tgT (rfT o 30) = 20 := (of_decide_eq_true (List.all_eq_true.mp tfA_12_30 o (List.mem_range.mpr (tg_lt (by omega)))) h).1
theorem lf_12_30 {o : Nat} (h : tgT o = 12) : lnT (rfT o 30) = 100 := (of_decide_eq_true (List.all_eq_true.mp tfA_12_30 o (List.mem_range.mpr (tg_lt (by omega)))) h).2
set_option maxRecDepth 100000 in
theorem tfA_12_34 : (List.range 322).all (fun o => decide (tgT o = 12 → tgT (rfT o 34) = 22 ∧ lnT (rfT o 34) = 48)) = true := by decide +kernel
theorem tf_12_34 {o : Nat} (h : tgT o = 12) : tgT (rfT o 34) = 22 := (of_decide_eq_true (List.all_eq_true.mp tfA_12_34 o (List.mem_range.mpr (tg_lt (by omega)))) h).1
theorem lf_12_34 {o : Nat} (h : tgT o = 12) : lnT (rfT o 34) = 48 := (of_decide_eq_true (List.all_eq_true.mp tfA_12_34 o (List.mem_range.mpr (tg_lt (by omega)))) h).2
set_option maxRecDepth 100000 in
theorem tfA_12_35 : (List.range 322).all (fun o => decide (tgT o = 12 → tgT (rfT o 35) = 22 ∧ lnT (rfT o 35) = 16)) = true := by decide +kernel
theorem tf_12_35 {o : Nat} (h : tgT o = 12) : tgT (rfT o 35) = 22 := (of_decide_eq_true (List.all_eq_true.mp tfA_12_35 o (List.mem_range.mpr (tg_lt (by omega)))) h).1
theorem lf_12_35 {o : Nat} (h : tgT o = 12) : lnT (rfT o 35) = 16 := (of_decide_eq_true (List.all_eq_true.mp tfA_12_35 o (List.mem_range.mpr (tg_lt (by omega)))) h).2
set_option maxRecDepth 100000 in
theorem tfA_12_36 : (List.range 322).all (fun o => decide (tgT o = 12 → tgT (rfT o 36) = 20 ∧ lnT (rfT o 36) = 10)) = true := by decide +kernel
theorem tf_12_36 {o : Nat} (h : tgT o = 12) : tgT (rfT o 36) = 20 := (of_decide_eq_true (List.all_eq_true.mp tfA_12_36 o (List.mem_range.mpr (tg_lt (by omega)))) h).1
theorem lf_12_36 {o : Nat} (h : tgT o = 12) : lnT (rfT o 36) = 10 := (of_decide_eq_true (List.all_eq_true.mp tfA_12_36 o (List.mem_range.mpr (tg_lt (by omega)))) h).2
set_option maxRecDepth 100000 in
theorem tfA_12_37 : (List.range 322).all (fun o => decide (tgT o = 12 → tgT (rfT o 37) = 20 ∧ lnT (rfT o 37) = 10)) = true := by decide +kernel
theorem tf_12_37 {o : Nat} (h : tgT o = 12) : tgT (rfT o 37) = 20 := (of_decide_eq_true (List.all_eq_true.mp tfA_12_37 o (List.mem_range.mpr (tg_lt (by omega)))) h).1
theorem lf_12_37 {o : Nat} (h : tgT o = 12) : lnT (rfT o 37) = 10 := (of_decide_eq_true (List.all_eq_true.mp tfA_12_37 o (List.mem_range.mpr (tg_lt (by omega)))) h).2
set_option maxRecDepth 100000 in
theorem tfA_12_38 : (List.range 322).all (fun o => decide (tgT o = 12 → tgT (rfT o 38) = 20 ∧ lnT (rfT o 38) = 240)) = true := by decide +kernel
theorem tf_12_38 {o : Nat} (h : tgT o = 12) : tgT (rfT o 38) = 20 := (of_decide_eq_true (List.all_eq_true.mp tfA_12_38 o (List.mem_range.mpr (tg_lt (by omega)))) h).1
theorem lf_12_38 {o : Nat} (h : tgT o = 12) : lnT (rfT o 38) = 240 := (of_decide_eq_true (List.all_eq_true.mp tfA_12_38 o (List.mem_range.mpr (tg_lt (by omega)))) h).2
set_option maxRecDepth 100000 in
theorem tfA_12_39 : (List.range 322).all (fun o => decide (tgT o = 12 → tgT (rfT o 39) = 20 ∧ lnT (rfT o 39) = 24)) = true := by decide +kernel
theorem tf_12_39 {o : Nat} (h : tgT o = 12) : tgT (rfT o 39) = 20 := (of_decide_eq_true (List.all_eq_true.mp tfA_12_39 o (List.mem_range.mpr (tg_lt (by omega)))) h).1
theorem lf_12_39 {o : Nat} (h : tgT o = 12) : lnT (rfT o 39) = 24 := (of_decide_eq_true (List.all_eq_true.mp tfA_12_39 o (List.mem_range.mpr (tg_lt (by omega)))) h).2
set_option maxRecDepth 100000 in
theorem tfA_12_40 : (List.range 322).all (fun o => decide (tgT o = 12 → tgT (rfT o 40) = 20 ∧ lnT (rfT o 40) = 6)) = true := by decide +kernel
theorem tf_12_40 {o : Nat} (h : tgT o = 12) : tgT (rfT o 40) = 20 := (of_decide_eq_true (List.all_eq_true.mp tfA_12_40 o (List.mem_range.mpr (tg_lt (by omega)))) h).1
theorem lf_12_40 {o : Nat} (h : tgT o = 12) : lnT (rfT o 40) = 6 := (of_decide_eq_true (List.all_eq_true.mp tfA_12_40 o (List.mem_range.mpr (tg_lt (by omega)))) h).2
set_option maxRecDepth 100000 in
theorem tfA_12_41 : (List.range 322).all (fun o => decide (tgT o = 12 → tgT (rfT o 41) = 20 ∧ lnT (rfT o 41) = 6)) = true := by decide +kernel
theorem tf_12_41 {o : Nat} (h : tgT o = 12) : tgT (rfT o 41) = 20 := (of_decide_eq_true (List.all_eq_true.mp tfA_12_41 o (List.mem_range.mpr (tg_lt (by omega)))) h).1
theorem lf_12_41 {o : Nat} (h : tgT o = 12) : lnT (rfT o 41) = 6 := (of_decide_eq_true (List.all_eq_true.mp tfA_12_41 o (List.mem_range.mpr (tg_lt (by omega)))) h).2
set_option maxRecDepth 100000 in
theorem tfA_12_42 : (List.range 322).all (fun o => decide (tgT o = 12 → tgT (rfT o 42) = 20 ∧ lnT (rfT o 42) = 6)) = true := by decide +kernel
theorem tf_12_42 {o : Nat} (h : tgT o = 12) : tgT (rfT o 42) = 20 := (of_decide_eq_true (List.all_eq_true.mp tfA_12_42 o (List.mem_range.mpr (tg_lt (by omega)))) h).1
theorem lf_12_42 {o : Nat} (h : tgT o = 12) : lnT (rfT o 42) = 6 := (of_decide_eq_true (List.all_eq_true.mp tfA_12_42 o (List.mem_range.mpr (tg_lt (by omega)))) h).2
set_option maxRecDepth 100000 in
theorem tfA_12_43 : (List.range 322).all (fun o => decide (tgT o = 12 → tgT (rfT o 43) = 20 ∧ lnT (rfT o 43) = 6)) = true := by decide +kernel
theorem tf_12_43 {o : Nat} (h : tgT o = 12) : tgT (rfT o 43) = 20 := (of_decide_eq_true (List.all_eq_true.mp tfA_12_43 o (List.mem_range.mpr (tg_lt (by omega)))) h).1
theorem lf_12_43 {o : Nat} (h : tgT o = 12) : lnT (rfT o 43) = 6 := (of_decide_eq_true (List.all_eq_true.mp tfA_12_43 o (List.mem_range.mpr (tg_lt (by omega)))) h).2
set_option maxRecDepth 100000 in
theorem tfA_12_45 : (List.range 322).all (fun o => decide (tgT o = 12 → tgT (rfT o 45) = 20 ∧ lnT (rfT o 45) = 60)) = true := by decide +kernel
theorem tf_12_45 {o : Nat} (h : tgT o = 12) : tgT (rfT o 45) = 20 := (of_decide_eq_true (List.all_eq_true.mp tfA_12_45 o (List.mem_range.mpr (tg_lt (by omega)))) h).1
theorem lf_12_45 {o : Nat} (h : tgT o = 12) : lnT (rfT o 45) = 60 := (of_decide_eq_true (List.all_eq_true.mp tfA_12_45 o (List.mem_range.mpr (tg_lt (by omega)))) h).2
set_option maxRecDepth 100000 in
theorem tfA_12_46 : (List.range 322).all (fun o => decide (tgT o = 12 → tgT (rfT o 46) = 20 ∧ lnT (rfT o 46) = 60)) = true := by decide +kernel
theorem tf_12_46 {o : Nat} (h : tgT o = 12) : tgT (rfT o 46) = 20 := (of_decide_eq_true (List.all_eq_true.mp tfA_12_46 o (List.mem_range.mpr (tg_lt (by omega)))) h).1
theorem lf_12_46 {o : Nat} (h : tgT o = 12) : lnT (rfT o 46) = 60 := (of_decide_eq_true (List.all_eq_true.mp tfA_12_46 o (List.mem_range.mpr (tg_lt (by omega)))) h).2
theorem all_rng {p : Nat → Prop} [DecidablePred p] {n j : Nat} (h : (List.range n).all (fun i => decide (p i)) = true) (hj : j < n) : p j := of_decide_eq_true (List.all_eq_true.mp h j (List.mem_range.mpr hj))
set_option maxRecDepth 100000 in
theorem teA_33 : (List.range 322).all (fun o => decide (tgT o = 33 → lnT o = 24 ∧ (List.range 24).all (fun i => decide (tgT (rfT o i) = 3)) = true)) = true := by decide +kernel
theorem le_33 {o : Nat} (h : tgT o = 33) : lnT o = 24 := (of_decide_eq_true (List.all_eq_true.mp teA_33 o (List.mem_range.mpr (tg_lt (by omega)))) h).1
theorem te_33 {o : Nat} {i : Int32} (h : tgT o = 33) (hb : inbB i 24 = true) : tgT (rfT o (ix i)) = 3 := all_rng (p := fun j => tgT (rfT o j) = 3) ((of_decide_eq_true (List.all_eq_true.mp teA_33 o (List.mem_range.mpr (tg_lt (by omega)))) h).2) (Nat.not_le.mp fun q => (inbB_iff.mp hb) (Or.inr q))
set_option maxRecDepth 100000 in
theorem teA_34 : (List.range 322).all (fun o => decide (tgT o = 34 → lnT o = 4 ∧ (List.range 4).all (fun i => decide (tgT (rfT o i) = 4)) = true)) = true := by decide +kernel
theorem le_34 {o : Nat} (h : tgT o = 34) : lnT o = 4 := (of_decide_eq_true (List.all_eq_true.mp teA_34 o (List.mem_range.mpr (tg_lt (by omega)))) h).1
theorem te_34 {o : Nat} {i : Int32} (h : tgT o = 34) (hb : inbB i 4 = true) : tgT (rfT o (ix i)) = 4 := all_rng (p := fun j => tgT (rfT o j) = 4) ((of_decide_eq_true (List.all_eq_true.mp teA_34 o (List.mem_range.mpr (tg_lt (by omega)))) h).2) (Nat.not_le.mp fun q => (inbB_iff.mp hb) (Or.inr q))
set_option maxRecDepth 100000 in
theorem teA_35 : (List.range 322).all (fun o => decide (tgT o = 35 → lnT o = 16 ∧ (List.range 16).all (fun i => decide (tgT (rfT o i) = 5)) = true)) = true := by decide +kernel
theorem le_35 {o : Nat} (h : tgT o = 35) : lnT o = 16 := (of_decide_eq_true (List.all_eq_true.mp teA_35 o (List.mem_range.mpr (tg_lt (by omega)))) h).1
theorem te_35 {o : Nat} {i : Int32} (h : tgT o = 35) (hb : inbB i 16 = true) : tgT (rfT o (ix i)) = 5 := all_rng (p := fun j => tgT (rfT o j) = 5) ((of_decide_eq_true (List.all_eq_true.mp teA_35 o (List.mem_range.mpr (tg_lt (by omega)))) h).2) (Nat.not_le.mp fun q => (inbB_iff.mp hb) (Or.inr q))
set_option maxRecDepth 100000 in
theorem teA_36 : (List.range 322).all (fun o => decide (tgT o = 36 → lnT o = 6 ∧ (List.range 6).all (fun i => decide (tgT (rfT o i) = 6)) = true)) = true := by decide +kernel
theorem le_36 {o : Nat} (h : tgT o = 36) : lnT o = 6 := (of_decide_eq_true (List.all_eq_true.mp teA_36 o (List.mem_range.mpr (tg_lt (by omega)))) h).1
theorem te_36 {o : Nat} {i : Int32} (h : tgT o = 36) (hb : inbB i 6 = true) : tgT (rfT o (ix i)) = 6 := all_rng (p := fun j => tgT (rfT o j) = 6) ((of_decide_eq_true (List.all_eq_true.mp teA_36 o (List.mem_range.mpr (tg_lt (by omega)))) h).2) (Nat.not_le.mp fun q => (inbB_iff.mp hb) (Or.inr q))
