/-! the tables are right: each row's word stands among the given words -/
def TBg : List Cond := lw_tbl.filter goodWord
theorem tbg {w : Cond} (h : w ∈ lw_tbl) (hg : goodWord w = true) : w ∈ TBg := List.mem_filter.mpr ⟨h, hg⟩
def tblAt (p : Nat) : Option Cond := match p / 1000 with
  | 0 => (k2_sels lw_privs)[p % 1000]?
  | 1 => tables_1_1[p % 1000]?
  | 2 => tables_1_2[p % 1000]?
  | 3 => tables_1_3[p % 1000]?
  | 4 => tables_1_4[p % 1000]?
  | 5 => tables_1_5[p % 1000]?
  | 6 => tables_1_6[p % 1000]?
  | 7 => tables_1_7[p % 1000]?
  | 8 => tables_1_8[p % 1000]?
  | 9 => tables_1_9[p % 1000]?
  | _ => none
theorem tblAt_mem {p : Nat} {w : Cond} (h : tblAt p = some w) : w ∈ lw_tbl := by
  unfold lw_tbl tables_1
  simp only [List.mem_append]
  unfold tblAt at h
  split at h
  · exact Or.inl (List.mem_of_getElem? h)
  · exact Or.inr (Or.inl (List.mem_of_getElem? h))
  · exact Or.inr (Or.inr (Or.inl (List.mem_of_getElem? h)))
  · exact Or.inr (Or.inr (Or.inr (Or.inl (List.mem_of_getElem? h))))
  · exact Or.inr (Or.inr (Or.inr (Or.inr (Or.inl (List.mem_of_getElem? h)))))
  · exact Or.inr (Or.inr (Or.inr (Or.inr (Or.inr (Or.inl (List.mem_of_getElem? h))))))
  · exact Or.inr (Or.inr (Or.inr (Or.inr (Or.inr (Or.inr (Or.inl (List.mem_of_getElem? h)))))))
  · exact Or.inr (Or.inr (Or.inr (Or.inr (Or.inr (Or.inr (Or.inr (Or.inl (List.mem_of_getElem? h))))))))
  · exact Or.inr (Or.inr (Or.inr (Or.inr (Or.inr (Or.inr (Or.inr (Or.inr (Or.inl (List.mem_of_getElem? h)))))))))
  · exact Or.inr (Or.inr (Or.inr (Or.inr (Or.inr (Or.inr (Or.inr (Or.inr (Or.inr (List.mem_of_getElem? h)))))))))
  · cases h
set_option maxRecDepth 100000 in
theorem cw_0 : tblAt 1129 = some (Cond.code (mY 0) (bt 0) (mMax 0) (mRet 0)) := by rfl
set_option maxRecDepth 100000 in
theorem cw_1 : tblAt 6056 = some (Cond.code (mY 1) (bt 1) (mMax 1) (mRet 1)) := by rfl
set_option maxRecDepth 100000 in
theorem cw_2 : tblAt 5113 = some (Cond.code (mY 2) (bt 2) (mMax 2) (mRet 2)) := by rfl
set_option maxRecDepth 100000 in
theorem cw_3 : tblAt 5122 = some (Cond.code (mY 3) (bt 3) (mMax 3) (mRet 3)) := by rfl
set_option maxRecDepth 100000 in
theorem cw_4 : tblAt 6085 = some (Cond.code (mY 4) (bt 4) (mMax 4) (mRet 4)) := by rfl
set_option maxRecDepth 100000 in
theorem cw_5 : tblAt 5130 = some (Cond.code (mY 5) (bt 5) (mMax 5) (mRet 5)) := by rfl
set_option maxRecDepth 100000 in
theorem cw_6 : tblAt 5164 = some (Cond.code (mY 6) (bt 6) (mMax 6) (mRet 6)) := by rfl
set_option maxRecDepth 100000 in
theorem cw_7 : tblAt 5138 = some (Cond.code (mY 7) (bt 7) (mMax 7) (mRet 7)) := by rfl
set_option maxRecDepth 100000 in
theorem cw_8 : tblAt 5146 = some (Cond.code (mY 8) (bt 8) (mMax 8) (mRet 8)) := by rfl
set_option maxRecDepth 100000 in
theorem cw_9 : tblAt 5151 = some (Cond.code (mY 9) (bt 9) (mMax 9) (mRet 9)) := by rfl
set_option maxRecDepth 100000 in
theorem cw_10 : tblAt 1093 = some (Cond.code (mY 10) (bt 10) (mMax 10) (mRet 10)) := by rfl
set_option maxRecDepth 100000 in
theorem cw_11 : tblAt 6051 = some (Cond.code (mY 11) (bt 11) (mMax 11) (mRet 11)) := by rfl
set_option maxRecDepth 100000 in
theorem cw_12 : tblAt 4225 = some (Cond.code (mY 12) (bt 12) (mMax 12) (mRet 12)) := by rfl
set_option maxRecDepth 100000 in
theorem cw_13 : tblAt 4215 = some (Cond.code (mY 13) (bt 13) (mMax 13) (mRet 13)) := by rfl
set_option maxRecDepth 100000 in
theorem cw_14 : tblAt 4221 = some (Cond.code (mY 14) (bt 14) (mMax 14) (mRet 14)) := by rfl
set_option maxRecDepth 100000 in
theorem cw_15 : tblAt 4233 = some (Cond.code (mY 15) (bt 15) (mMax 15) (mRet 15)) := by rfl
set_option maxRecDepth 100000 in
theorem cw_16 : tblAt 5001 = some (Cond.code (mY 16) (bt 16) (mMax 16) (mRet 16)) := by rfl
set_option maxRecDepth 100000 in
theorem cw_17 : tblAt 5026 = some (Cond.code (mY 17) (bt 17) (mMax 17) (mRet 17)) := by rfl
set_option maxRecDepth 100000 in
theorem cw_18 : tblAt 5042 = some (Cond.code (mY 18) (bt 18) (mMax 18) (mRet 18)) := by rfl
set_option maxRecDepth 100000 in
theorem cw_19 : tblAt 5018 = some (Cond.code (mY 19) (bt 19) (mMax 19) (mRet 19)) := by rfl
set_option maxRecDepth 100000 in
theorem cw_20 : tblAt 5022 = some (Cond.code (mY 20) (bt 20) (mMax 20) (mRet 20)) := by rfl
set_option maxRecDepth 100000 in
theorem cw_21 : tblAt 5014 = some (Cond.code (mY 21) (bt 21) (mMax 21) (mRet 21)) := by rfl
set_option maxRecDepth 100000 in
theorem cw_22 : tblAt 5038 = some (Cond.code (mY 22) (bt 22) (mMax 22) (mRet 22)) := by rfl
set_option maxRecDepth 100000 in
theorem cw_23 : tblAt 5051 = some (Cond.code (mY 23) (bt 23) (mMax 23) (mRet 23)) := by rfl
set_option maxRecDepth 100000 in
theorem cw_24 : tblAt 5059 = some (Cond.code (mY 24) (bt 24) (mMax 24) (mRet 24)) := by rfl
theorem cwC_0 : ∀ r, r < 25 → Cond.code (mY (25 * 0 + r)) (bt (25 * 0 + r)) (mMax (25 * 0 + r)) (mRet (25 * 0 + r)) ∈ TBg := by
  intro r hr
  match r, hr with
  | 0, _ => exact tbg (tblAt_mem cw_0) rfl
  | 1, _ => exact tbg (tblAt_mem cw_1) rfl
  | 2, _ => exact tbg (tblAt_mem cw_2) rfl
  | 3, _ => exact tbg (tblAt_mem cw_3) rfl
  | 4, _ => exact tbg (tblAt_mem cw_4) rfl
  | 5, _ => exact tbg (tblAt_mem cw_5) rfl
  | 6, _ => exact tbg (tblAt_mem cw_6) rfl
  | 7, _ => exact tbg (tblAt_mem cw_7) rfl
  | 8, _ => exact tbg (tblAt_mem cw_8) rfl
  | 9, _ => exact tbg (tblAt_mem cw_9) rfl
  | 10, _ => exact tbg (tblAt_mem cw_10) rfl
  | 11, _ => exact tbg (tblAt_mem cw_11) rfl
  | 12, _ => exact tbg (tblAt_mem cw_12) rfl
  | 13, _ => exact tbg (tblAt_mem cw_13) rfl
  | 14, _ => exact tbg (tblAt_mem cw_14) rfl
  | 15, _ => exact tbg (tblAt_mem cw_15) rfl
  | 16, _ => exact tbg (tblAt_mem cw_16) rfl
  | 17, _ => exact tbg (tblAt_mem cw_17) rfl
  | 18, _ => exact tbg (tblAt_mem cw_18) rfl
  | 19, _ => exact tbg (tblAt_mem cw_19) rfl
  | 20, _ => exact tbg (tblAt_mem cw_20) rfl
  | 21, _ => exact tbg (tblAt_mem cw_21) rfl
  | 22, _ => exact tbg (tblAt_mem cw_22) rfl
  | 23, _ => exact tbg (tblAt_mem cw_23) rfl
  | 24, _ => exact tbg (tblAt_mem cw_24) rfl
  | n + 25, hr => exact absurd hr (by omega)
set_option maxRecDepth 100000 in
theorem cw_25 : tblAt 5067 = some (Cond.code (mY 25) (bt 25) (mMax 25) (mRet 25)) := by rfl
set_option maxRecDepth 100000 in
theorem cw_26 : tblAt 5071 = some (Cond.code (mY 26) (bt 26) (mMax 26) (mRet 26)) := by rfl
set_option maxRecDepth 100000 in
theorem cw_27 : tblAt 1039 = some (Cond.code (mY 27) (bt 27) (mMax 27) (mRet 27)) := by rfl
set_option maxRecDepth 100000 in
theorem cw_28 : tblAt 6039 = some (Cond.code (mY 28) (bt 28) (mMax 28) (mRet 28)) := by rfl
set_option maxRecDepth 100000 in
theorem cw_29 : tblAt 2223 = some (Cond.code (mY 29) (bt 29) (mMax 29) (mRet 29)) := by rfl
set_option maxRecDepth 100000 in
theorem cw_30 : tblAt 3004 = some (Cond.code (mY 30) (bt 30) (mMax 30) (mRet 30)) := by rfl
set_option maxRecDepth 100000 in
theorem cw_31 : tblAt 3008 = some (Cond.code (mY 31) (bt 31) (mMax 31) (mRet 31)) := by rfl
set_option maxRecDepth 100000 in
theorem cw_32 : tblAt 1154 = some (Cond.code (mY 32) (bt 32) (mMax 32) (mRet 32)) := by rfl
set_option maxRecDepth 100000 in
theorem cw_33 : tblAt 3110 = some (Cond.code (mY 33) (bt 33) (mMax 33) (mRet 33)) := by rfl
set_option maxRecDepth 100000 in
theorem cw_34 : tblAt 6005 = some (Cond.code (mY 34) (bt 34) (mMax 34) (mRet 34)) := by rfl
set_option maxRecDepth 100000 in
theorem cw_35 : tblAt 3165 = some (Cond.code (mY 35) (bt 35) (mMax 35) (mRet 35)) := by rfl
set_option maxRecDepth 100000 in
theorem cw_36 : tblAt 3179 = some (Cond.code (mY 36) (bt 36) (mMax 36) (mRet 36)) := by rfl
set_option maxRecDepth 100000 in
theorem cw_37 : tblAt 3174 = some (Cond.code (mY 37) (bt 37) (mMax 37) (mRet 37)) := by rfl
set_option maxRecDepth 100000 in
theorem cw_38 : tblAt 3154 = some (Cond.code (mY 38) (bt 38) (mMax 38) (mRet 38)) := by rfl
set_option maxRecDepth 100000 in
theorem cw_39 : tblAt 4207 = some (Cond.code (mY 39) (bt 39) (mMax 39) (mRet 39)) := by rfl
set_option maxRecDepth 100000 in
theorem cw_40 : tblAt 3187 = some (Cond.code (mY 40) (bt 40) (mMax 40) (mRet 40)) := by rfl
set_option maxRecDepth 100000 in
theorem cw_41 : tblAt 3122 = some (Cond.code (mY 41) (bt 41) (mMax 41) (mRet 41)) := by rfl
set_option maxRecDepth 100000 in
theorem cw_42 : tblAt 3127 = some (Cond.code (mY 42) (bt 42) (mMax 42) (mRet 42)) := by rfl
set_option maxRecDepth 100000 in
theorem cw_43 : tblAt 3131 = some (Cond.code (mY 43) (bt 43) (mMax 43) (mRet 43)) := by rfl
set_option maxRecDepth 100000 in
theorem cw_44 : tblAt 3138 = some (Cond.code (mY 44) (bt 44) (mMax 44) (mRet 44)) := by rfl
set_option maxRecDepth 100000 in
theorem cw_45 : tblAt 3142 = some (Cond.code (mY 45) (bt 45) (mMax 45) (mRet 45)) := by rfl
set_option maxRecDepth 100000 in
theorem cw_46 : tblAt 3146 = some (Cond.code (mY 46) (bt 46) (mMax 46) (mRet 46)) := by rfl
set_option maxRecDepth 100000 in
theorem cw_47 : tblAt 2147 = some (Cond.code (mY 47) (bt 47) (mMax 47) (mRet 47)) := by rfl
set_option maxRecDepth 100000 in
theorem cw_48 : tblAt 5202 = some (Cond.code (mY 48) (bt 48) (mMax 48) (mRet 48)) := by rfl
set_option maxRecDepth 100000 in
theorem cw_49 : tblAt 6009 = some (Cond.code (mY 49) (bt 49) (mMax 49) (mRet 49)) := by rfl
theorem cwC_1 : ∀ r, r < 25 → Cond.code (mY (25 * 1 + r)) (bt (25 * 1 + r)) (mMax (25 * 1 + r)) (mRet (25 * 1 + r)) ∈ TBg := by
  intro r hr
  match r, hr with
  | 0, _ => exact tbg (tblAt_mem cw_25) rfl
  | 1, _ => exact tbg (tblAt_mem cw_26) rfl
  | 2, _ => exact tbg (tblAt_mem cw_27) rfl
  | 3, _ => exact tbg (tblAt_mem cw_28) rfl
  | 4, _ => exact tbg (tblAt_mem cw_29) rfl
  | 5, _ => exact tbg (tblAt_mem cw_30) rfl
  | 6, _ => exact tbg (tblAt_mem cw_31) rfl
  | 7, _ => exact tbg (tblAt_mem cw_32) rfl
  | 8, _ => exact tbg (tblAt_mem cw_33) rfl
  | 9, _ => exact tbg (tblAt_mem cw_34) rfl
  | 10, _ => exact tbg (tblAt_mem cw_35) rfl
  | 11, _ => exact tbg (tblAt_mem cw_36) rfl
  | 12, _ => exact tbg (tblAt_mem cw_37) rfl
  | 13, _ => exact tbg (tblAt_mem cw_38) rfl
  | 14, _ => exact tbg (tblAt_mem cw_39) rfl
  | 15, _ => exact tbg (tblAt_mem cw_40) rfl
  | 16, _ => exact tbg (tblAt_mem cw_41) rfl
  | 17, _ => exact tbg (tblAt_mem cw_42) rfl
  | 18, _ => exact tbg (tblAt_mem cw_43) rfl
  | 19, _ => exact tbg (tblAt_mem cw_44) rfl
  | 20, _ => exact tbg (tblAt_mem cw_45) rfl
  | 21, _ => exact tbg (tblAt_mem cw_46) rfl
  | 22, _ => exact tbg (tblAt_mem cw_47) rfl
  | 23, _ => exact tbg (tblAt_mem cw_48) rfl
  | 24, _ => exact tbg (tblAt_mem cw_49) rfl
  | n + 25, hr => exact absurd hr (by omega)
set_option maxRecDepth 100000 in
theorem cw_50 : tblAt 5211 = some (Cond.code (mY 50) (bt 50) (mMax 50) (mRet 50)) := by rfl
set_option maxRecDepth 100000 in
theorem cw_51 : tblAt 5216 = some (Cond.code (mY 51) (bt 51) (mMax 51) (mRet 51)) := by rfl
set_option maxRecDepth 100000 in
theorem cw_52 : tblAt 5229 = some (Cond.code (mY 52) (bt 52) (mMax 52) (mRet 52)) := by rfl
set_option maxRecDepth 100000 in
theorem cw_53 : tblAt 5220 = some (Cond.code (mY 53) (bt 53) (mMax 53) (mRet 53)) := by rfl
set_option maxRecDepth 100000 in
theorem cw_54 : tblAt 1224 = some (Cond.code (mY 54) (bt 54) (mMax 54) (mRet 54)) := by rfl
set_option maxRecDepth 100000 in
theorem cw_55 : tblAt 4107 = some (Cond.code (mY 55) (bt 55) (mMax 55) (mRet 55)) := by rfl
set_option maxRecDepth 100000 in
theorem cw_56 : tblAt 4064 = some (Cond.code (mY 56) (bt 56) (mMax 56) (mRet 56)) := by rfl
set_option maxRecDepth 100000 in
theorem cw_57 : tblAt 4089 = some (Cond.code (mY 57) (bt 57) (mMax 57) (mRet 57)) := by rfl
set_option maxRecDepth 100000 in
theorem cw_58 : tblAt 4120 = some (Cond.code (mY 58) (bt 58) (mMax 58) (mRet 58)) := by rfl
set_option maxRecDepth 100000 in
theorem cw_59 : tblAt 4103 = some (Cond.code (mY 59) (bt 59) (mMax 59) (mRet 59)) := by rfl
set_option maxRecDepth 100000 in
theorem cw_60 : tblAt 4132 = some (Cond.code (mY 60) (bt 60) (mMax 60) (mRet 60)) := by rfl
set_option maxRecDepth 100000 in
theorem cw_61 : tblAt 4137 = some (Cond.code (mY 61) (bt 61) (mMax 61) (mRet 61)) := by rfl
set_option maxRecDepth 100000 in
theorem cw_62 : tblAt 4140 = some (Cond.code (mY 62) (bt 62) (mMax 62) (mRet 62)) := by rfl
set_option maxRecDepth 100000 in
theorem cw_63 : tblAt 2164 = some (Cond.code (mY 63) (bt 63) (mMax 63) (mRet 63)) := by rfl
set_option maxRecDepth 100000 in
theorem cw_64 : tblAt 1033 = some (Cond.code (mY 64) (bt 64) (mMax 64) (mRet 64)) := by rfl
set_option maxRecDepth 100000 in
theorem cw_65 : tblAt 6035 = some (Cond.code (mY 65) (bt 65) (mMax 65) (mRet 65)) := by rfl
set_option maxRecDepth 100000 in
theorem cw_66 : tblAt 4128 = some (Cond.code (mY 66) (bt 66) (mMax 66) (mRet 66)) := by rfl
set_option maxRecDepth 100000 in
theorem cw_67 : tblAt 4161 = some (Cond.code (mY 67) (bt 67) (mMax 67) (mRet 67)) := by rfl
set_option maxRecDepth 100000 in
theorem cw_68 : tblAt 4148 = some (Cond.code (mY 68) (bt 68) (mMax 68) (mRet 68)) := by rfl
set_option maxRecDepth 100000 in
theorem cw_69 : tblAt 4153 = some (Cond.code (mY 69) (bt 69) (mMax 69) (mRet 69)) := by rfl
set_option maxRecDepth 100000 in
theorem cw_70 : tblAt 4157 = some (Cond.code (mY 70) (bt 70) (mMax 70) (mRet 70)) := by rfl
set_option maxRecDepth 100000 in
theorem cw_71 : tblAt 4176 = some (Cond.code (mY 71) (bt 71) (mMax 71) (mRet 71)) := by rfl
set_option maxRecDepth 100000 in
theorem cw_72 : tblAt 4184 = some (Cond.code (mY 72) (bt 72) (mMax 72) (mRet 72)) := by rfl
set_option maxRecDepth 100000 in
theorem cw_73 : tblAt 4229 = some (Cond.code (mY 73) (bt 73) (mMax 73) (mRet 73)) := by rfl
set_option maxRecDepth 100000 in
theorem cw_74 : tblAt 5087 = some (Cond.code (mY 74) (bt 74) (mMax 74) (mRet 74)) := by rfl
theorem cwC_2 : ∀ r, r < 25 → Cond.code (mY (25 * 2 + r)) (bt (25 * 2 + r)) (mMax (25 * 2 + r)) (mRet (25 * 2 + r)) ∈ TBg := by
  intro r hr
  match r, hr with
  | 0, _ => exact tbg (tblAt_mem cw_50) rfl
  | 1, _ => exact tbg (tblAt_mem cw_51) rfl
  | 2, _ => exact tbg (tblAt_mem cw_52) rfl
  | 3, _ => exact tbg (tblAt_mem cw_53) rfl
  | 4, _ => exact tbg (tblAt_mem cw_54) rfl
  | 5, _ => exact tbg (tblAt_mem cw_55) rfl
  | 6, _ => exact tbg (tblAt_mem cw_56) rfl
  | 7, _ => exact tbg (tblAt_mem cw_57) rfl
  | 8, _ => exact tbg (tblAt_mem cw_58) rfl
  | 9, _ => exact tbg (tblAt_mem cw_59) rfl
  | 10, _ => exact tbg (tblAt_mem cw_60) rfl
  | 11, _ => exact tbg (tblAt_mem cw_61) rfl
  | 12, _ => exact tbg (tblAt_mem cw_62) rfl
  | 13, _ => exact tbg (tblAt_mem cw_63) rfl
  | 14, _ => exact tbg (tblAt_mem cw_64) rfl
  | 15, _ => exact tbg (tblAt_mem cw_65) rfl
  | 16, _ => exact tbg (tblAt_mem cw_66) rfl
  | 17, _ => exact tbg (tblAt_mem cw_67) rfl
  | 18, _ => exact tbg (tblAt_mem cw_68) rfl
  | 19, _ => exact tbg (tblAt_mem cw_69) rfl
  | 20, _ => exact tbg (tblAt_mem cw_70) rfl
  | 21, _ => exact tbg (tblAt_mem cw_71) rfl
  | 22, _ => exact tbg (tblAt_mem cw_72) rfl
  | 23, _ => exact tbg (tblAt_mem cw_73) rfl
  | 24, _ => exact tbg (tblAt_mem cw_74) rfl
  | n + 25, hr => exact absurd hr (by omega)
set_option maxRecDepth 100000 in
theorem cw_75 : tblAt 5091 = some (Cond.code (mY 75) (bt 75) (mMax 75) (mRet 75)) := by rfl
set_option maxRecDepth 100000 in
theorem cw_76 : tblAt 5103 = some (Cond.code (mY 76) (bt 76) (mMax 76) (mRet 76)) := by rfl
set_option maxRecDepth 100000 in
theorem cw_77 : tblAt 5160 = some (Cond.code (mY 77) (bt 77) (mMax 77) (mRet 77)) := by rfl
set_option maxRecDepth 100000 in
theorem cw_78 : tblAt 5173 = some (Cond.code (mY 78) (bt 78) (mMax 78) (mRet 78)) := by rfl
set_option maxRecDepth 100000 in
theorem cw_79 : tblAt 5188 = some (Cond.code (mY 79) (bt 79) (mMax 79) (mRet 79)) := by rfl
set_option maxRecDepth 100000 in
theorem cw_80 : tblAt 6076 = some (Cond.code (mY 80) (bt 80) (mMax 80) (mRet 80)) := by rfl
set_option maxRecDepth 100000 in
theorem cw_81 : tblAt 6081 = some (Cond.code (mY 81) (bt 81) (mMax 81) (mRet 81)) := by rfl
set_option maxRecDepth 100000 in
theorem cw_82 : tblAt 1064 = some (Cond.code (mY 82) (bt 82) (mMax 82) (mRet 82)) := by rfl
set_option maxRecDepth 100000 in
theorem cw_83 : tblAt 6044 = some (Cond.code (mY 83) (bt 83) (mMax 83) (mRet 83)) := by rfl
set_option maxRecDepth 100000 in
theorem cw_84 : tblAt 3030 = some (Cond.code (mY 84) (bt 84) (mMax 84) (mRet 84)) := by rfl
set_option maxRecDepth 100000 in
theorem cw_85 : tblAt 3043 = some (Cond.code (mY 85) (bt 85) (mMax 85) (mRet 85)) := by rfl
set_option maxRecDepth 100000 in
theorem cw_86 : tblAt 4203 = some (Cond.code (mY 86) (bt 86) (mMax 86) (mRet 86)) := by rfl
set_option maxRecDepth 100000 in
theorem cw_87 : tblAt 4198 = some (Cond.code (mY 87) (bt 87) (mMax 87) (mRet 87)) := by rfl
set_option maxRecDepth 100000 in
theorem cw_88 : tblAt 3051 = some (Cond.code (mY 88) (bt 88) (mMax 88) (mRet 88)) := by rfl
set_option maxRecDepth 100000 in
theorem cw_89 : tblAt 3055 = some (Cond.code (mY 89) (bt 89) (mMax 89) (mRet 89)) := by rfl
set_option maxRecDepth 100000 in
theorem cw_90 : tblAt 3070 = some (Cond.code (mY 90) (bt 90) (mMax 90) (mRet 90)) := by rfl
set_option maxRecDepth 100000 in
theorem cw_91 : tblAt 3066 = some (Cond.code (mY 91) (bt 91) (mMax 91) (mRet 91)) := by rfl
set_option maxRecDepth 100000 in
theorem cw_92 : tblAt 2105 = some (Cond.code (mY 92) (bt 92) (mMax 92) (mRet 92)) := by rfl
set_option maxRecDepth 100000 in
theorem cw_93 : tblAt 3195 = some (Cond.code (mY 93) (bt 93) (mMax 93) (mRet 93)) := by rfl
set_option maxRecDepth 100000 in
theorem cw_94 : tblAt 3200 = some (Cond.code (mY 94) (bt 94) (mMax 94) (mRet 94)) := by rfl
set_option maxRecDepth 100000 in
theorem cw_95 : tblAt 3208 = some (Cond.code (mY 95) (bt 95) (mMax 95) (mRet 95)) := by rfl
set_option maxRecDepth 100000 in
theorem cw_96 : tblAt 3218 = some (Cond.code (mY 96) (bt 96) (mMax 96) (mRet 96)) := by rfl
set_option maxRecDepth 100000 in
theorem cw_97 : tblAt 4099 = some (Cond.code (mY 97) (bt 97) (mMax 97) (mRet 97)) := by rfl
set_option maxRecDepth 100000 in
theorem cw_98 : tblAt 4073 = some (Cond.code (mY 98) (bt 98) (mMax 98) (mRet 98)) := by rfl
set_option maxRecDepth 100000 in
theorem cw_99 : tblAt 4069 = some (Cond.code (mY 99) (bt 99) (mMax 99) (mRet 99)) := by rfl
theorem cwC_3 : ∀ r, r < 25 → Cond.code (mY (25 * 3 + r)) (bt (25 * 3 + r)) (mMax (25 * 3 + r)) (mRet (25 * 3 + r)) ∈ TBg := by
  intro r hr
  match r, hr with
  | 0, _ => exact tbg (tblAt_mem cw_75) rfl
  | 1, _ => exact tbg (tblAt_mem cw_76) rfl
  | 2, _ => exact tbg (tblAt_mem cw_77) rfl
  | 3, _ => exact tbg (tblAt_mem cw_78) rfl
  | 4, _ => exact tbg (tblAt_mem cw_79) rfl
  | 5, _ => exact tbg (tblAt_mem cw_80) rfl
  | 6, _ => exact tbg (tblAt_mem cw_81) rfl
  | 7, _ => exact tbg (tblAt_mem cw_82) rfl
  | 8, _ => exact tbg (tblAt_mem cw_83) rfl
  | 9, _ => exact tbg (tblAt_mem cw_84) rfl
  | 10, _ => exact tbg (tblAt_mem cw_85) rfl
  | 11, _ => exact tbg (tblAt_mem cw_86) rfl
  | 12, _ => exact tbg (tblAt_mem cw_87) rfl
  | 13, _ => exact tbg (tblAt_mem cw_88) rfl
  | 14, _ => exact tbg (tblAt_mem cw_89) rfl
  | 15, _ => exact tbg (tblAt_mem cw_90) rfl
  | 16, _ => exact tbg (tblAt_mem cw_91) rfl
  | 17, _ => exact tbg (tblAt_mem cw_92) rfl
  | 18, _ => exact tbg (tblAt_mem cw_93) rfl
  | 19, _ => exact tbg (tblAt_mem cw_94) rfl
  | 20, _ => exact tbg (tblAt_mem cw_95) rfl
  | 21, _ => exact tbg (tblAt_mem cw_96) rfl
  | 22, _ => exact tbg (tblAt_mem cw_97) rfl
  | 23, _ => exact tbg (tblAt_mem cw_98) rfl
  | 24, _ => exact tbg (tblAt_mem cw_99) rfl
  | n + 25, hr => exact absurd hr (by omega)
set_option maxRecDepth 100000 in
theorem cw_100 : tblAt 4077 = some (Cond.code (mY 100) (bt 100) (mMax 100) (mRet 100)) := by rfl
set_option maxRecDepth 100000 in
theorem cw_101 : tblAt 4081 = some (Cond.code (mY 101) (bt 101) (mMax 101) (mRet 101)) := by rfl
set_option maxRecDepth 100000 in
theorem cw_102 : tblAt 4085 = some (Cond.code (mY 102) (bt 102) (mMax 102) (mRet 102)) := by rfl
set_option maxRecDepth 100000 in
theorem cw_103 : tblAt 4094 = some (Cond.code (mY 103) (bt 103) (mMax 103) (mRet 103)) := by rfl
set_option maxRecDepth 100000 in
theorem cw_104 : tblAt 3222 = some (Cond.code (mY 104) (bt 104) (mMax 104) (mRet 104)) := by rfl
set_option maxRecDepth 100000 in
theorem cw_105 : tblAt 4060 = some (Cond.code (mY 105) (bt 105) (mMax 105) (mRet 105)) := by rfl
set_option maxRecDepth 100000 in
theorem cw_106 : tblAt 3225 = some (Cond.code (mY 106) (bt 106) (mMax 106) (mRet 106)) := by rfl
set_option maxRecDepth 100000 in
theorem cw_107 : tblAt 3229 = some (Cond.code (mY 107) (bt 107) (mMax 107) (mRet 107)) := by rfl
set_option maxRecDepth 100000 in
theorem cw_108 : tblAt 3233 = some (Cond.code (mY 108) (bt 108) (mMax 108) (mRet 108)) := by rfl
set_option maxRecDepth 100000 in
theorem cw_109 : tblAt 4056 = some (Cond.code (mY 109) (bt 109) (mMax 109) (mRet 109)) := by rfl
set_option maxRecDepth 100000 in
theorem cw_110 : tblAt 3237 = some (Cond.code (mY 110) (bt 110) (mMax 110) (mRet 110)) := by rfl
set_option maxRecDepth 100000 in
theorem cw_111 : tblAt 4002 = some (Cond.code (mY 111) (bt 111) (mMax 111) (mRet 111)) := by rfl
set_option maxRecDepth 100000 in
theorem cw_112 : tblAt 2080 = some (Cond.code (mY 112) (bt 112) (mMax 112) (mRet 112)) := by rfl
set_option maxRecDepth 100000 in
theorem cw_113 : tblAt 3078 = some (Cond.code (mY 113) (bt 113) (mMax 113) (mRet 113)) := by rfl
set_option maxRecDepth 100000 in
theorem cw_114 : tblAt 3095 = some (Cond.code (mY 114) (bt 114) (mMax 114) (mRet 114)) := by rfl
set_option maxRecDepth 100000 in
theorem cw_115 : tblAt 3082 = some (Cond.code (mY 115) (bt 115) (mMax 115) (mRet 115)) := by rfl
set_option maxRecDepth 100000 in
theorem cw_116 : tblAt 3086 = some (Cond.code (mY 116) (bt 116) (mMax 116) (mRet 116)) := by rfl
set_option maxRecDepth 100000 in
theorem cw_117 : tblAt 1025 = some (Cond.code (mY 117) (bt 117) (mMax 117) (mRet 117)) := by rfl
set_option maxRecDepth 100000 in
theorem cw_118 : tblAt 2219 = some (Cond.code (mY 118) (bt 118) (mMax 118) (mRet 118)) := by rfl
set_option maxRecDepth 100000 in
theorem cw_119 : tblAt 2228 = some (Cond.code (mY 119) (bt 119) (mMax 119) (mRet 119)) := by rfl
set_option maxRecDepth 100000 in
theorem cw_120 : tblAt 3013 = some (Cond.code (mY 120) (bt 120) (mMax 120) (mRet 120)) := by rfl
set_option maxRecDepth 100000 in
theorem cw_121 : tblAt 3021 = some (Cond.code (mY 121) (bt 121) (mMax 121) (mRet 121)) := by rfl
set_option maxRecDepth 100000 in
theorem cw_122 : tblAt 3026 = some (Cond.code (mY 122) (bt 122) (mMax 122) (mRet 122)) := by rfl
set_option maxRecDepth 100000 in
theorem cw_123 : tblAt 3035 = some (Cond.code (mY 123) (bt 123) (mMax 123) (mRet 123)) := by rfl
set_option maxRecDepth 100000 in
theorem cw_124 : tblAt 3047 = some (Cond.code (mY 124) (bt 124) (mMax 124) (mRet 124)) := by rfl
theorem cwC_4 : ∀ r, r < 25 → Cond.code (mY (25 * 4 + r)) (bt (25 * 4 + r)) (mMax (25 * 4 + r)) (mRet (25 * 4 + r)) ∈ TBg := by
  intro r hr
  match r, hr with
  | 0, _ => exact tbg (tblAt_mem cw_100) rfl
  | 1, _ => exact tbg (tblAt_mem cw_101) rfl
  | 2, _ => exact tbg (tblAt_mem cw_102) rfl
  | 3, _ => exact tbg (tblAt_mem cw_103) rfl
  | 4, _ => exact tbg (tblAt_mem cw_104) rfl
  | 5, _ => exact tbg (tblAt_mem cw_105) rfl
  | 6, _ => exact tbg (tblAt_mem cw_106) rfl
  | 7, _ => exact tbg (tblAt_mem cw_107) rfl
  | 8, _ => exact tbg (tblAt_mem cw_108) rfl
  | 9, _ => exact tbg (tblAt_mem cw_109) rfl
  | 10, _ => exact tbg (tblAt_mem cw_110) rfl
  | 11, _ => exact tbg (tblAt_mem cw_111) rfl
  | 12, _ => exact tbg (tblAt_mem cw_112) rfl
  | 13, _ => exact tbg (tblAt_mem cw_113) rfl
  | 14, _ => exact tbg (tblAt_mem cw_114) rfl
  | 15, _ => exact tbg (tblAt_mem cw_115) rfl
  | 16, _ => exact tbg (tblAt_mem cw_116) rfl
  | 17, _ => exact tbg (tblAt_mem cw_117) rfl
  | 18, _ => exact tbg (tblAt_mem cw_118) rfl
  | 19, _ => exact tbg (tblAt_mem cw_119) rfl
  | 20, _ => exact tbg (tblAt_mem cw_120) rfl
  | 21, _ => exact tbg (tblAt_mem cw_121) rfl
  | 22, _ => exact tbg (tblAt_mem cw_122) rfl
  | 23, _ => exact tbg (tblAt_mem cw_123) rfl
  | 24, _ => exact tbg (tblAt_mem cw_124) rfl
  | n + 25, hr => exact absurd hr (by omega)
set_option maxRecDepth 100000 in
theorem cw_125 : tblAt 3062 = some (Cond.code (mY 125) (bt 125) (mMax 125) (mRet 125)) := by rfl
set_option maxRecDepth 100000 in
theorem cw_126 : tblAt 3074 = some (Cond.code (mY 126) (bt 126) (mMax 126) (mRet 126)) := by rfl
set_option maxRecDepth 100000 in
theorem cw_127 : tblAt 3100 = some (Cond.code (mY 127) (bt 127) (mMax 127) (mRet 127)) := by rfl
set_option maxRecDepth 100000 in
theorem cw_128 : tblAt 3114 = some (Cond.code (mY 128) (bt 128) (mMax 128) (mRet 128)) := by rfl
set_option maxRecDepth 100000 in
theorem cw_129 : tblAt 3150 = some (Cond.code (mY 129) (bt 129) (mMax 129) (mRet 129)) := by rfl
set_option maxRecDepth 100000 in
theorem cw_130 : tblAt 3161 = some (Cond.code (mY 130) (bt 130) (mMax 130) (mRet 130)) := by rfl
set_option maxRecDepth 100000 in
theorem cw_131 : tblAt 3170 = some (Cond.code (mY 131) (bt 131) (mMax 131) (mRet 131)) := by rfl
set_option maxRecDepth 100000 in
theorem cw_132 : tblAt 3183 = some (Cond.code (mY 132) (bt 132) (mMax 132) (mRet 132)) := by rfl
set_option maxRecDepth 100000 in
theorem cw_133 : tblAt 3191 = some (Cond.code (mY 133) (bt 133) (mMax 133) (mRet 133)) := by rfl
set_option maxRecDepth 100000 in
theorem cw_134 : tblAt 3204 = some (Cond.code (mY 134) (bt 134) (mMax 134) (mRet 134)) := by rfl
set_option maxRecDepth 100000 in
theorem cw_135 : tblAt 3214 = some (Cond.code (mY 135) (bt 135) (mMax 135) (mRet 135)) := by rfl
set_option maxRecDepth 100000 in
theorem cw_136 : tblAt 4112 = some (Cond.code (mY 136) (bt 136) (mMax 136) (mRet 136)) := by rfl
set_option maxRecDepth 100000 in
theorem cw_137 : tblAt 4124 = some (Cond.code (mY 137) (bt 137) (mMax 137) (mRet 137)) := by rfl
set_option maxRecDepth 100000 in
theorem cw_138 : tblAt 4144 = some (Cond.code (mY 138) (bt 138) (mMax 138) (mRet 138)) := by rfl
set_option maxRecDepth 100000 in
theorem cw_139 : tblAt 4167 = some (Cond.code (mY 139) (bt 139) (mMax 139) (mRet 139)) := by rfl
set_option maxRecDepth 100000 in
theorem cw_140 : tblAt 4172 = some (Cond.code (mY 140) (bt 140) (mMax 140) (mRet 140)) := by rfl
set_option maxRecDepth 100000 in
theorem cw_141 : tblAt 4180 = some (Cond.code (mY 141) (bt 141) (mMax 141) (mRet 141)) := by rfl
set_option maxRecDepth 100000 in
theorem cw_142 : tblAt 4194 = some (Cond.code (mY 142) (bt 142) (mMax 142) (mRet 142)) := by rfl
set_option maxRecDepth 100000 in
theorem cw_143 : tblAt 4211 = some (Cond.code (mY 143) (bt 143) (mMax 143) (mRet 143)) := by rfl
set_option maxRecDepth 100000 in
theorem cw_144 : tblAt 5006 = some (Cond.code (mY 144) (bt 144) (mMax 144) (mRet 144)) := by rfl
set_option maxRecDepth 100000 in
theorem cw_145 : tblAt 5030 = some (Cond.code (mY 145) (bt 145) (mMax 145) (mRet 145)) := by rfl
set_option maxRecDepth 100000 in
theorem cw_146 : tblAt 5034 = some (Cond.code (mY 146) (bt 146) (mMax 146) (mRet 146)) := by rfl
set_option maxRecDepth 100000 in
theorem cw_147 : tblAt 5047 = some (Cond.code (mY 147) (bt 147) (mMax 147) (mRet 147)) := by rfl
set_option maxRecDepth 100000 in
theorem cw_148 : tblAt 5055 = some (Cond.code (mY 148) (bt 148) (mMax 148) (mRet 148)) := by rfl
set_option maxRecDepth 100000 in
theorem cw_149 : tblAt 5063 = some (Cond.code (mY 149) (bt 149) (mMax 149) (mRet 149)) := by rfl
theorem cwC_5 : ∀ r, r < 25 → Cond.code (mY (25 * 5 + r)) (bt (25 * 5 + r)) (mMax (25 * 5 + r)) (mRet (25 * 5 + r)) ∈ TBg := by
  intro r hr
  match r, hr with
  | 0, _ => exact tbg (tblAt_mem cw_125) rfl
  | 1, _ => exact tbg (tblAt_mem cw_126) rfl
  | 2, _ => exact tbg (tblAt_mem cw_127) rfl
  | 3, _ => exact tbg (tblAt_mem cw_128) rfl
  | 4, _ => exact tbg (tblAt_mem cw_129) rfl
  | 5, _ => exact tbg (tblAt_mem cw_130) rfl
  | 6, _ => exact tbg (tblAt_mem cw_131) rfl
  | 7, _ => exact tbg (tblAt_mem cw_132) rfl
  | 8, _ => exact tbg (tblAt_mem cw_133) rfl
  | 9, _ => exact tbg (tblAt_mem cw_134) rfl
  | 10, _ => exact tbg (tblAt_mem cw_135) rfl
  | 11, _ => exact tbg (tblAt_mem cw_136) rfl
  | 12, _ => exact tbg (tblAt_mem cw_137) rfl
  | 13, _ => exact tbg (tblAt_mem cw_138) rfl
  | 14, _ => exact tbg (tblAt_mem cw_139) rfl
  | 15, _ => exact tbg (tblAt_mem cw_140) rfl
  | 16, _ => exact tbg (tblAt_mem cw_141) rfl
  | 17, _ => exact tbg (tblAt_mem cw_142) rfl
  | 18, _ => exact tbg (tblAt_mem cw_143) rfl
  | 19, _ => exact tbg (tblAt_mem cw_144) rfl
  | 20, _ => exact tbg (tblAt_mem cw_145) rfl
  | 21, _ => exact tbg (tblAt_mem cw_146) rfl
  | 22, _ => exact tbg (tblAt_mem cw_147) rfl
  | 23, _ => exact tbg (tblAt_mem cw_148) rfl
  | 24, _ => exact tbg (tblAt_mem cw_149) rfl
  | n + 25, hr => exact absurd hr (by omega)
set_option maxRecDepth 100000 in
theorem cw_150 : tblAt 5075 = some (Cond.code (mY 150) (bt 150) (mMax 150) (mRet 150)) := by rfl
set_option maxRecDepth 100000 in
theorem cw_151 : tblAt 5079 = some (Cond.code (mY 151) (bt 151) (mMax 151) (mRet 151)) := by rfl
set_option maxRecDepth 100000 in
theorem cw_152 : tblAt 5083 = some (Cond.code (mY 152) (bt 152) (mMax 152) (mRet 152)) := by rfl
set_option maxRecDepth 100000 in
theorem cw_153 : tblAt 5099 = some (Cond.code (mY 153) (bt 153) (mMax 153) (mRet 153)) := by rfl
set_option maxRecDepth 100000 in
theorem cw_154 : tblAt 5108 = some (Cond.code (mY 154) (bt 154) (mMax 154) (mRet 154)) := by rfl
set_option maxRecDepth 100000 in
theorem cw_155 : tblAt 5118 = some (Cond.code (mY 155) (bt 155) (mMax 155) (mRet 155)) := by rfl
set_option maxRecDepth 100000 in
theorem cw_156 : tblAt 5126 = some (Cond.code (mY 156) (bt 156) (mMax 156) (mRet 156)) := by rfl
set_option maxRecDepth 100000 in
theorem cw_157 : tblAt 5134 = some (Cond.code (mY 157) (bt 157) (mMax 157) (mRet 157)) := by rfl
set_option maxRecDepth 100000 in
theorem cw_158 : tblAt 5142 = some (Cond.code (mY 158) (bt 158) (mMax 158) (mRet 158)) := by rfl
set_option maxRecDepth 100000 in
theorem cw_159 : tblAt 5156 = some (Cond.code (mY 159) (bt 159) (mMax 159) (mRet 159)) := by rfl
set_option maxRecDepth 100000 in
theorem cw_160 : tblAt 5169 = some (Cond.code (mY 160) (bt 160) (mMax 160) (mRet 160)) := by rfl
set_option maxRecDepth 100000 in
theorem cw_161 : tblAt 5179 = some (Cond.code (mY 161) (bt 161) (mMax 161) (mRet 161)) := by rfl
set_option maxRecDepth 100000 in
theorem cw_162 : tblAt 5184 = some (Cond.code (mY 162) (bt 162) (mMax 162) (mRet 162)) := by rfl
set_option maxRecDepth 100000 in
theorem cw_163 : tblAt 5198 = some (Cond.code (mY 163) (bt 163) (mMax 163) (mRet 163)) := by rfl
set_option maxRecDepth 100000 in
theorem cw_164 : tblAt 5207 = some (Cond.code (mY 164) (bt 164) (mMax 164) (mRet 164)) := by rfl
set_option maxRecDepth 100000 in
theorem cw_165 : tblAt 5225 = some (Cond.code (mY 165) (bt 165) (mMax 165) (mRet 165)) := by rfl
set_option maxRecDepth 100000 in
theorem cw_166 : tblAt 5234 = some (Cond.code (mY 166) (bt 166) (mMax 166) (mRet 166)) := by rfl
set_option maxRecDepth 100000 in
theorem cw_167 : tblAt 6014 = some (Cond.code (mY 167) (bt 167) (mMax 167) (mRet 167)) := by rfl
set_option maxRecDepth 100000 in
theorem cw_168 : tblAt 6019 = some (Cond.code (mY 168) (bt 168) (mMax 168) (mRet 168)) := by rfl
set_option maxRecDepth 100000 in
theorem cw_169 : tblAt 6023 = some (Cond.code (mY 169) (bt 169) (mMax 169) (mRet 169)) := by rfl
set_option maxRecDepth 100000 in
theorem cw_170 : tblAt 6027 = some (Cond.code (mY 170) (bt 170) (mMax 170) (mRet 170)) := by rfl
set_option maxRecDepth 100000 in
theorem cw_171 : tblAt 6031 = some (Cond.code (mY 171) (bt 171) (mMax 171) (mRet 171)) := by rfl
set_option maxRecDepth 100000 in
theorem cw_172 : tblAt 6064 = some (Cond.code (mY 172) (bt 172) (mMax 172) (mRet 172)) := by rfl
set_option maxRecDepth 100000 in
theorem cw_173 : tblAt 6068 = some (Cond.code (mY 173) (bt 173) (mMax 173) (mRet 173)) := by rfl
set_option maxRecDepth 100000 in
theorem cw_174 : tblAt 6072 = some (Cond.code (mY 174) (bt 174) (mMax 174) (mRet 174)) := by rfl
theorem cwC_6 : ∀ r, r < 25 → Cond.code (mY (25 * 6 + r)) (bt (25 * 6 + r)) (mMax (25 * 6 + r)) (mRet (25 * 6 + r)) ∈ TBg := by
  intro r hr
  match r, hr with
  | 0, _ => exact tbg (tblAt_mem cw_150) rfl
  | 1, _ => exact tbg (tblAt_mem cw_151) rfl
  | 2, _ => exact tbg (tblAt_mem cw_152) rfl
  | 3, _ => exact tbg (tblAt_mem cw_153) rfl
  | 4, _ => exact tbg (tblAt_mem cw_154) rfl
  | 5, _ => exact tbg (tblAt_mem cw_155) rfl
  | 6, _ => exact tbg (tblAt_mem cw_156) rfl
  | 7, _ => exact tbg (tblAt_mem cw_157) rfl
  | 8, _ => exact tbg (tblAt_mem cw_158) rfl
  | 9, _ => exact tbg (tblAt_mem cw_159) rfl
  | 10, _ => exact tbg (tblAt_mem cw_160) rfl
  | 11, _ => exact tbg (tblAt_mem cw_161) rfl
  | 12, _ => exact tbg (tblAt_mem cw_162) rfl
  | 13, _ => exact tbg (tblAt_mem cw_163) rfl
  | 14, _ => exact tbg (tblAt_mem cw_164) rfl
  | 15, _ => exact tbg (tblAt_mem cw_165) rfl
  | 16, _ => exact tbg (tblAt_mem cw_166) rfl
  | 17, _ => exact tbg (tblAt_mem cw_167) rfl
  | 18, _ => exact tbg (tblAt_mem cw_168) rfl
  | 19, _ => exact tbg (tblAt_mem cw_169) rfl
  | 20, _ => exact tbg (tblAt_mem cw_170) rfl
  | 21, _ => exact tbg (tblAt_mem cw_171) rfl
  | 22, _ => exact tbg (tblAt_mem cw_172) rfl
  | 23, _ => exact tbg (tblAt_mem cw_173) rfl
  | 24, _ => exact tbg (tblAt_mem cw_174) rfl
  | n + 25, hr => exact absurd hr (by omega)
set_option maxRecDepth 100000 in
theorem cw_175 : tblAt 2235 = some (Cond.code (mY 175) (bt 175) (mMax 175) (mRet 175)) := by rfl
set_option maxRecDepth 100000 in
theorem cw_176 : tblAt 2238 = some (Cond.code (mY 176) (bt 176) (mMax 176) (mRet 176)) := by rfl
set_option maxRecDepth 100000 in
theorem cw_177 : tblAt 3016 = some (Cond.code (mY 177) (bt 177) (mMax 177) (mRet 177)) := by rfl
set_option maxRecDepth 100000 in
theorem cw_178 : tblAt 3106 = some (Cond.code (mY 178) (bt 178) (mMax 178) (mRet 178)) := by rfl
set_option maxRecDepth 100000 in
theorem cw_179 : tblAt 3103 = some (Cond.code (mY 179) (bt 179) (mMax 179) (mRet 179)) := by rfl
set_option maxRecDepth 100000 in
theorem cw_180 : tblAt 5237 = some (Cond.code (mY 180) (bt 180) (mMax 180) (mRet 180)) := by rfl
set_option maxRecDepth 100000 in
theorem cw_181 : tblAt 3058 = some (Cond.code (mY 181) (bt 181) (mMax 181) (mRet 181)) := by rfl
set_option maxRecDepth 100000 in
theorem cw_182 : tblAt 2232 = some (Cond.code (mY 182) (bt 182) (mMax 182) (mRet 182)) := by rfl
set_option maxRecDepth 100000 in
theorem cw_183 : tblAt 3039 = some (Cond.code (mY 183) (bt 183) (mMax 183) (mRet 183)) := by rfl
set_option maxRecDepth 100000 in
theorem cw_184 : tblAt 3118 = some (Cond.code (mY 184) (bt 184) (mMax 184) (mRet 184)) := by rfl
set_option maxRecDepth 100000 in
theorem cw_185 : tblAt 4116 = some (Cond.code (mY 185) (bt 185) (mMax 185) (mRet 185)) := by rfl
set_option maxRecDepth 100000 in
theorem cw_186 : tblAt 5010 = some (Cond.code (mY 186) (bt 186) (mMax 186) (mRet 186)) := by rfl
set_option maxRecDepth 100000 in
theorem cw_187 : tblAt 6001 = some (Cond.code (mY 187) (bt 187) (mMax 187) (mRet 187)) := by rfl
set_option maxRecDepth 100000 in
theorem cw_188 : tblAt 6091 = some (Cond.code (mY 188) (bt 188) (mMax 188) (mRet 188)) := by rfl
set_option maxRecDepth 100000 in
theorem cw_189 : tblAt 7012 = some (Cond.code (mY 189) (bt 189) (mMax 189) (mRet 189)) := by rfl
set_option maxRecDepth 100000 in
theorem cw_190 : tblAt 7021 = some (Cond.code (mY 190) (bt 190) (mMax 190) (mRet 190)) := by rfl
set_option maxRecDepth 100000 in
theorem cw_191 : tblAt 8212 = some (Cond.code (mY 191) (bt 191) (mMax 191) (mRet 191)) := by rfl
set_option maxRecDepth 100000 in
theorem cw_192 : tblAt 8040 = some (Cond.code (mY 192) (bt 192) (mMax 192) (mRet 192)) := by rfl
set_option maxRecDepth 100000 in
theorem cw_193 : tblAt 9025 = some (Cond.code (mY 193) (bt 193) (mMax 193) (mRet 193)) := by rfl
set_option maxRecDepth 100000 in
theorem cw_194 : tblAt 7009 = some (Cond.code (mY 194) (bt 194) (mMax 194) (mRet 194)) := by rfl
set_option maxRecDepth 100000 in
theorem cw_195 : tblAt 7044 = some (Cond.code (mY 195) (bt 195) (mMax 195) (mRet 195)) := by rfl
set_option maxRecDepth 100000 in
theorem cw_196 : tblAt 7091 = some (Cond.code (mY 196) (bt 196) (mMax 196) (mRet 196)) := by rfl
set_option maxRecDepth 100000 in
theorem cw_197 : tblAt 7181 = some (Cond.code (mY 197) (bt 197) (mMax 197) (mRet 197)) := by rfl
set_option maxRecDepth 100000 in
theorem cw_198 : tblAt 8080 = some (Cond.code (mY 198) (bt 198) (mMax 198) (mRet 198)) := by rfl
set_option maxRecDepth 100000 in
theorem cw_199 : tblAt 7028 = some (Cond.code (mY 199) (bt 199) (mMax 199) (mRet 199)) := by rfl
theorem cwC_7 : ∀ r, r < 25 → Cond.code (mY (25 * 7 + r)) (bt (25 * 7 + r)) (mMax (25 * 7 + r)) (mRet (25 * 7 + r)) ∈ TBg := by
  intro r hr
  match r, hr with
  | 0, _ => exact tbg (tblAt_mem cw_175) rfl
  | 1, _ => exact tbg (tblAt_mem cw_176) rfl
  | 2, _ => exact tbg (tblAt_mem cw_177) rfl
  | 3, _ => exact tbg (tblAt_mem cw_178) rfl
  | 4, _ => exact tbg (tblAt_mem cw_179) rfl
  | 5, _ => exact tbg (tblAt_mem cw_180) rfl
  | 6, _ => exact tbg (tblAt_mem cw_181) rfl
  | 7, _ => exact tbg (tblAt_mem cw_182) rfl
  | 8, _ => exact tbg (tblAt_mem cw_183) rfl
  | 9, _ => exact tbg (tblAt_mem cw_184) rfl
  | 10, _ => exact tbg (tblAt_mem cw_185) rfl
  | 11, _ => exact tbg (tblAt_mem cw_186) rfl
  | 12, _ => exact tbg (tblAt_mem cw_187) rfl
  | 13, _ => exact tbg (tblAt_mem cw_188) rfl
  | 14, _ => exact tbg (tblAt_mem cw_189) rfl
  | 15, _ => exact tbg (tblAt_mem cw_190) rfl
  | 16, _ => exact tbg (tblAt_mem cw_191) rfl
  | 17, _ => exact tbg (tblAt_mem cw_192) rfl
  | 18, _ => exact tbg (tblAt_mem cw_193) rfl
  | 19, _ => exact tbg (tblAt_mem cw_194) rfl
  | 20, _ => exact tbg (tblAt_mem cw_195) rfl
  | 21, _ => exact tbg (tblAt_mem cw_196) rfl
  | 22, _ => exact tbg (tblAt_mem cw_197) rfl
  | 23, _ => exact tbg (tblAt_mem cw_198) rfl
  | 24, _ => exact tbg (tblAt_mem cw_199) rfl
  | n + 25, hr => exact absurd hr (by omega)
set_option maxRecDepth 100000 in
theorem cw_200 : tblAt 7079 = some (Cond.code (mY 200) (bt 200) (mMax 200) (mRet 200)) := by rfl
set_option maxRecDepth 100000 in
theorem cw_201 : tblAt 8060 = some (Cond.code (mY 201) (bt 201) (mMax 201) (mRet 201)) := by rfl
set_option maxRecDepth 100000 in
theorem cw_202 : tblAt 7000 = some (Cond.code (mY 202) (bt 202) (mMax 202) (mRet 202)) := by rfl
set_option maxRecDepth 100000 in
theorem cw_203 : tblAt 7018 = some (Cond.code (mY 203) (bt 203) (mMax 203) (mRet 203)) := by rfl
set_option maxRecDepth 100000 in
theorem cw_204 : tblAt 7005 = some (Cond.code (mY 204) (bt 204) (mMax 204) (mRet 204)) := by rfl
set_option maxRecDepth 100000 in
theorem cw_205 : tblAt 7025 = some (Cond.code (mY 205) (bt 205) (mMax 205) (mRet 205)) := by rfl
set_option maxRecDepth 100000 in
theorem cw_206 : tblAt 7032 = some (Cond.code (mY 206) (bt 206) (mMax 206) (mRet 206)) := by rfl
set_option maxRecDepth 100000 in
theorem cw_207 : tblAt 7036 = some (Cond.code (mY 207) (bt 207) (mMax 207) (mRet 207)) := by rfl
set_option maxRecDepth 100000 in
theorem cw_208 : tblAt 7040 = some (Cond.code (mY 208) (bt 208) (mMax 208) (mRet 208)) := by rfl
set_option maxRecDepth 100000 in
theorem cw_209 : tblAt 7052 = some (Cond.code (mY 209) (bt 209) (mMax 209) (mRet 209)) := by rfl
set_option maxRecDepth 100000 in
theorem cw_210 : tblAt 7048 = some (Cond.code (mY 210) (bt 210) (mMax 210) (mRet 210)) := by rfl
set_option maxRecDepth 100000 in
theorem cw_211 : tblAt 7056 = some (Cond.code (mY 211) (bt 211) (mMax 211) (mRet 211)) := by rfl
set_option maxRecDepth 100000 in
theorem cw_212 : tblAt 7068 = some (Cond.code (mY 212) (bt 212) (mMax 212) (mRet 212)) := by rfl
set_option maxRecDepth 100000 in
theorem cw_213 : tblAt 7072 = some (Cond.code (mY 213) (bt 213) (mMax 213) (mRet 213)) := by rfl
set_option maxRecDepth 100000 in
theorem cw_214 : tblAt 7064 = some (Cond.code (mY 214) (bt 214) (mMax 214) (mRet 214)) := by rfl
set_option maxRecDepth 100000 in
theorem cw_215 : tblAt 7060 = some (Cond.code (mY 215) (bt 215) (mMax 215) (mRet 215)) := by rfl
set_option maxRecDepth 100000 in
theorem cw_216 : tblAt 7111 = some (Cond.code (mY 216) (bt 216) (mMax 216) (mRet 216)) := by rfl
set_option maxRecDepth 100000 in
theorem cw_217 : tblAt 7098 = some (Cond.code (mY 217) (bt 217) (mMax 217) (mRet 217)) := by rfl
set_option maxRecDepth 100000 in
theorem cw_218 : tblAt 7101 = some (Cond.code (mY 218) (bt 218) (mMax 218) (mRet 218)) := by rfl
set_option maxRecDepth 100000 in
theorem cw_219 : tblAt 7104 = some (Cond.code (mY 219) (bt 219) (mMax 219) (mRet 219)) := by rfl
set_option maxRecDepth 100000 in
theorem cw_220 : tblAt 7095 = some (Cond.code (mY 220) (bt 220) (mMax 220) (mRet 220)) := by rfl
set_option maxRecDepth 100000 in
theorem cw_221 : tblAt 7083 = some (Cond.code (mY 221) (bt 221) (mMax 221) (mRet 221)) := by rfl
set_option maxRecDepth 100000 in
theorem cw_222 : tblAt 7076 = some (Cond.code (mY 222) (bt 222) (mMax 222) (mRet 222)) := by rfl
set_option maxRecDepth 100000 in
theorem cw_223 : tblAt 7087 = some (Cond.code (mY 223) (bt 223) (mMax 223) (mRet 223)) := by rfl
set_option maxRecDepth 100000 in
theorem cw_224 : tblAt 7108 = some (Cond.code (mY 224) (bt 224) (mMax 224) (mRet 224)) := by rfl
theorem cwC_8 : ∀ r, r < 25 → Cond.code (mY (25 * 8 + r)) (bt (25 * 8 + r)) (mMax (25 * 8 + r)) (mRet (25 * 8 + r)) ∈ TBg := by
  intro r hr
  match r, hr with
  | 0, _ => exact tbg (tblAt_mem cw_200) rfl
  | 1, _ => exact tbg (tblAt_mem cw_201) rfl
  | 2, _ => exact tbg (tblAt_mem cw_202) rfl
  | 3, _ => exact tbg (tblAt_mem cw_203) rfl
  | 4, _ => exact tbg (tblAt_mem cw_204) rfl
  | 5, _ => exact tbg (tblAt_mem cw_205) rfl
  | 6, _ => exact tbg (tblAt_mem cw_206) rfl
  | 7, _ => exact tbg (tblAt_mem cw_207) rfl
  | 8, _ => exact tbg (tblAt_mem cw_208) rfl
  | 9, _ => exact tbg (tblAt_mem cw_209) rfl
  | 10, _ => exact tbg (tblAt_mem cw_210) rfl
  | 11, _ => exact tbg (tblAt_mem cw_211) rfl
  | 12, _ => exact tbg (tblAt_mem cw_212) rfl
  | 13, _ => exact tbg (tblAt_mem cw_213) rfl
  | 14, _ => exact tbg (tblAt_mem cw_214) rfl
  | 15, _ => exact tbg (tblAt_mem cw_215) rfl
  | 16, _ => exact tbg (tblAt_mem cw_216) rfl
  | 17, _ => exact tbg (tblAt_mem cw_217) rfl
  | 18, _ => exact tbg (tblAt_mem cw_218) rfl
  | 19, _ => exact tbg (tblAt_mem cw_219) rfl
  | 20, _ => exact tbg (tblAt_mem cw_220) rfl
  | 21, _ => exact tbg (tblAt_mem cw_221) rfl
  | 22, _ => exact tbg (tblAt_mem cw_222) rfl
  | 23, _ => exact tbg (tblAt_mem cw_223) rfl
  | 24, _ => exact tbg (tblAt_mem cw_224) rfl
  | n + 25, hr => exact absurd hr (by omega)
set_option maxRecDepth 100000 in
theorem cw_225 : tblAt 7116 = some (Cond.code (mY 225) (bt 225) (mMax 225) (mRet 225)) := by rfl
set_option maxRecDepth 100000 in
theorem cw_226 : tblAt 7125 = some (Cond.code (mY 226) (bt 226) (mMax 226) (mRet 226)) := by rfl
set_option maxRecDepth 100000 in
theorem cw_227 : tblAt 7121 = some (Cond.code (mY 227) (bt 227) (mMax 227) (mRet 227)) := by rfl
set_option maxRecDepth 100000 in
theorem cw_228 : tblAt 7129 = some (Cond.code (mY 228) (bt 228) (mMax 228) (mRet 228)) := by rfl
set_option maxRecDepth 100000 in
theorem cw_229 : tblAt 7133 = some (Cond.code (mY 229) (bt 229) (mMax 229) (mRet 229)) := by rfl
set_option maxRecDepth 100000 in
theorem cw_230 : tblAt 7137 = some (Cond.code (mY 230) (bt 230) (mMax 230) (mRet 230)) := by rfl
set_option maxRecDepth 100000 in
theorem cw_231 : tblAt 7153 = some (Cond.code (mY 231) (bt 231) (mMax 231) (mRet 231)) := by rfl
set_option maxRecDepth 100000 in
theorem cw_232 : tblAt 7157 = some (Cond.code (mY 232) (bt 232) (mMax 232) (mRet 232)) := by rfl
set_option maxRecDepth 100000 in
theorem cw_233 : tblAt 7161 = some (Cond.code (mY 233) (bt 233) (mMax 233) (mRet 233)) := by rfl
set_option maxRecDepth 100000 in
theorem cw_234 : tblAt 7165 = some (Cond.code (mY 234) (bt 234) (mMax 234) (mRet 234)) := by rfl
set_option maxRecDepth 100000 in
theorem cw_235 : tblAt 7149 = some (Cond.code (mY 235) (bt 235) (mMax 235) (mRet 235)) := by rfl
set_option maxRecDepth 100000 in
theorem cw_236 : tblAt 7185 = some (Cond.code (mY 236) (bt 236) (mMax 236) (mRet 236)) := by rfl
set_option maxRecDepth 100000 in
theorem cw_237 : tblAt 7201 = some (Cond.code (mY 237) (bt 237) (mMax 237) (mRet 237)) := by rfl
set_option maxRecDepth 100000 in
theorem cw_238 : tblAt 7173 = some (Cond.code (mY 238) (bt 238) (mMax 238) (mRet 238)) := by rfl
set_option maxRecDepth 100000 in
theorem cw_239 : tblAt 7209 = some (Cond.code (mY 239) (bt 239) (mMax 239) (mRet 239)) := by rfl
set_option maxRecDepth 100000 in
theorem cw_240 : tblAt 7205 = some (Cond.code (mY 240) (bt 240) (mMax 240) (mRet 240)) := by rfl
set_option maxRecDepth 100000 in
theorem cw_241 : tblAt 7197 = some (Cond.code (mY 241) (bt 241) (mMax 241) (mRet 241)) := by rfl
set_option maxRecDepth 100000 in
theorem cw_242 : tblAt 7213 = some (Cond.code (mY 242) (bt 242) (mMax 242) (mRet 242)) := by rfl
set_option maxRecDepth 100000 in
theorem cw_243 : tblAt 7217 = some (Cond.code (mY 243) (bt 243) (mMax 243) (mRet 243)) := by rfl
set_option maxRecDepth 100000 in
theorem cw_244 : tblAt 7193 = some (Cond.code (mY 244) (bt 244) (mMax 244) (mRet 244)) := by rfl
set_option maxRecDepth 100000 in
theorem cw_245 : tblAt 7189 = some (Cond.code (mY 245) (bt 245) (mMax 245) (mRet 245)) := by rfl
set_option maxRecDepth 100000 in
theorem cw_246 : tblAt 7177 = some (Cond.code (mY 246) (bt 246) (mMax 246) (mRet 246)) := by rfl
set_option maxRecDepth 100000 in
theorem cw_247 : tblAt 7169 = some (Cond.code (mY 247) (bt 247) (mMax 247) (mRet 247)) := by rfl
set_option maxRecDepth 100000 in
theorem cw_248 : tblAt 7145 = some (Cond.code (mY 248) (bt 248) (mMax 248) (mRet 248)) := by rfl
set_option maxRecDepth 100000 in
theorem cw_249 : tblAt 7141 = some (Cond.code (mY 249) (bt 249) (mMax 249) (mRet 249)) := by rfl
theorem cwC_9 : ∀ r, r < 25 → Cond.code (mY (25 * 9 + r)) (bt (25 * 9 + r)) (mMax (25 * 9 + r)) (mRet (25 * 9 + r)) ∈ TBg := by
  intro r hr
  match r, hr with
  | 0, _ => exact tbg (tblAt_mem cw_225) rfl
  | 1, _ => exact tbg (tblAt_mem cw_226) rfl
  | 2, _ => exact tbg (tblAt_mem cw_227) rfl
  | 3, _ => exact tbg (tblAt_mem cw_228) rfl
  | 4, _ => exact tbg (tblAt_mem cw_229) rfl
  | 5, _ => exact tbg (tblAt_mem cw_230) rfl
  | 6, _ => exact tbg (tblAt_mem cw_231) rfl
  | 7, _ => exact tbg (tblAt_mem cw_232) rfl
  | 8, _ => exact tbg (tblAt_mem cw_233) rfl
  | 9, _ => exact tbg (tblAt_mem cw_234) rfl
  | 10, _ => exact tbg (tblAt_mem cw_235) rfl
  | 11, _ => exact tbg (tblAt_mem cw_236) rfl
  | 12, _ => exact tbg (tblAt_mem cw_237) rfl
  | 13, _ => exact tbg (tblAt_mem cw_238) rfl
  | 14, _ => exact tbg (tblAt_mem cw_239) rfl
  | 15, _ => exact tbg (tblAt_mem cw_240) rfl
  | 16, _ => exact tbg (tblAt_mem cw_241) rfl
  | 17, _ => exact tbg (tblAt_mem cw_242) rfl
  | 18, _ => exact tbg (tblAt_mem cw_243) rfl
  | 19, _ => exact tbg (tblAt_mem cw_244) rfl
  | 20, _ => exact tbg (tblAt_mem cw_245) rfl
  | 21, _ => exact tbg (tblAt_mem cw_246) rfl
  | 22, _ => exact tbg (tblAt_mem cw_247) rfl
  | 23, _ => exact tbg (tblAt_mem cw_248) rfl
  | 24, _ => exact tbg (tblAt_mem cw_249) rfl
  | n + 25, hr => exact absurd hr (by omega)
set_option maxRecDepth 100000 in
theorem cw_250 : tblAt 7225 = some (Cond.code (mY 250) (bt 250) (mMax 250) (mRet 250)) := by rfl
set_option maxRecDepth 100000 in
theorem cw_251 : tblAt 7221 = some (Cond.code (mY 251) (bt 251) (mMax 251) (mRet 251)) := by rfl
set_option maxRecDepth 100000 in
theorem cw_252 : tblAt 8005 = some (Cond.code (mY 252) (bt 252) (mMax 252) (mRet 252)) := by rfl
set_option maxRecDepth 100000 in
theorem cw_253 : tblAt 8001 = some (Cond.code (mY 253) (bt 253) (mMax 253) (mRet 253)) := by rfl
set_option maxRecDepth 100000 in
theorem cw_254 : tblAt 7237 = some (Cond.code (mY 254) (bt 254) (mMax 254) (mRet 254)) := by rfl
set_option maxRecDepth 100000 in
theorem cw_255 : tblAt 7233 = some (Cond.code (mY 255) (bt 255) (mMax 255) (mRet 255)) := by rfl
set_option maxRecDepth 100000 in
theorem cw_256 : tblAt 7229 = some (Cond.code (mY 256) (bt 256) (mMax 256) (mRet 256)) := by rfl
set_option maxRecDepth 100000 in
theorem cw_257 : tblAt 8021 = some (Cond.code (mY 257) (bt 257) (mMax 257) (mRet 257)) := by rfl
set_option maxRecDepth 100000 in
theorem cw_258 : tblAt 8017 = some (Cond.code (mY 258) (bt 258) (mMax 258) (mRet 258)) := by rfl
set_option maxRecDepth 100000 in
theorem cw_259 : tblAt 8013 = some (Cond.code (mY 259) (bt 259) (mMax 259) (mRet 259)) := by rfl
set_option maxRecDepth 100000 in
theorem cw_260 : tblAt 8009 = some (Cond.code (mY 260) (bt 260) (mMax 260) (mRet 260)) := by rfl
set_option maxRecDepth 100000 in
theorem cw_261 : tblAt 8025 = some (Cond.code (mY 261) (bt 261) (mMax 261) (mRet 261)) := by rfl
set_option maxRecDepth 100000 in
theorem cw_262 : tblAt 8029 = some (Cond.code (mY 262) (bt 262) (mMax 262) (mRet 262)) := by rfl
set_option maxRecDepth 100000 in
theorem cw_263 : tblAt 8037 = some (Cond.code (mY 263) (bt 263) (mMax 263) (mRet 263)) := by rfl
set_option maxRecDepth 100000 in
theorem cw_264 : tblAt 8033 = some (Cond.code (mY 264) (bt 264) (mMax 264) (mRet 264)) := by rfl
set_option maxRecDepth 100000 in
theorem cw_265 : tblAt 8048 = some (Cond.code (mY 265) (bt 265) (mMax 265) (mRet 265)) := by rfl
set_option maxRecDepth 100000 in
theorem cw_266 : tblAt 8052 = some (Cond.code (mY 266) (bt 266) (mMax 266) (mRet 266)) := by rfl
set_option maxRecDepth 100000 in
theorem cw_267 : tblAt 8044 = some (Cond.code (mY 267) (bt 267) (mMax 267) (mRet 267)) := by rfl
set_option maxRecDepth 100000 in
theorem cw_268 : tblAt 8068 = some (Cond.code (mY 268) (bt 268) (mMax 268) (mRet 268)) := by rfl
set_option maxRecDepth 100000 in
theorem cw_269 : tblAt 8084 = some (Cond.code (mY 269) (bt 269) (mMax 269) (mRet 269)) := by rfl
set_option maxRecDepth 100000 in
theorem cw_270 : tblAt 8072 = some (Cond.code (mY 270) (bt 270) (mMax 270) (mRet 270)) := by rfl
set_option maxRecDepth 100000 in
theorem cw_271 : tblAt 8064 = some (Cond.code (mY 271) (bt 271) (mMax 271) (mRet 271)) := by rfl
set_option maxRecDepth 100000 in
theorem cw_272 : tblAt 8056 = some (Cond.code (mY 272) (bt 272) (mMax 272) (mRet 272)) := by rfl
set_option maxRecDepth 100000 in
theorem cw_273 : tblAt 8092 = some (Cond.code (mY 273) (bt 273) (mMax 273) (mRet 273)) := by rfl
set_option maxRecDepth 100000 in
theorem cw_274 : tblAt 8088 = some (Cond.code (mY 274) (bt 274) (mMax 274) (mRet 274)) := by rfl
theorem cwC_10 : ∀ r, r < 25 → Cond.code (mY (25 * 10 + r)) (bt (25 * 10 + r)) (mMax (25 * 10 + r)) (mRet (25 * 10 + r)) ∈ TBg := by
  intro r hr
  match r, hr with
  | 0, _ => exact tbg (tblAt_mem cw_250) rfl
  | 1, _ => exact tbg (tblAt_mem cw_251) rfl
  | 2, _ => exact tbg (tblAt_mem cw_252) rfl
  | 3, _ => exact tbg (tblAt_mem cw_253) rfl
  | 4, _ => exact tbg (tblAt_mem cw_254) rfl
  | 5, _ => exact tbg (tblAt_mem cw_255) rfl
  | 6, _ => exact tbg (tblAt_mem cw_256) rfl
  | 7, _ => exact tbg (tblAt_mem cw_257) rfl
  | 8, _ => exact tbg (tblAt_mem cw_258) rfl
  | 9, _ => exact tbg (tblAt_mem cw_259) rfl
  | 10, _ => exact tbg (tblAt_mem cw_260) rfl
  | 11, _ => exact tbg (tblAt_mem cw_261) rfl
  | 12, _ => exact tbg (tblAt_mem cw_262) rfl
  | 13, _ => exact tbg (tblAt_mem cw_263) rfl
  | 14, _ => exact tbg (tblAt_mem cw_264) rfl
  | 15, _ => exact tbg (tblAt_mem cw_265) rfl
  | 16, _ => exact tbg (tblAt_mem cw_266) rfl
  | 17, _ => exact tbg (tblAt_mem cw_267) rfl
  | 18, _ => exact tbg (tblAt_mem cw_268) rfl
  | 19, _ => exact tbg (tblAt_mem cw_269) rfl
  | 20, _ => exact tbg (tblAt_mem cw_270) rfl
  | 21, _ => exact tbg (tblAt_mem cw_271) rfl
  | 22, _ => exact tbg (tblAt_mem cw_272) rfl
  | 23, _ => exact tbg (tblAt_mem cw_273) rfl
  | 24, _ => exact tbg (tblAt_mem cw_274) rfl
  | n + 25, hr => exact absurd hr (by omega)
set_option maxRecDepth 100000 in
theorem cw_275 : tblAt 8076 = some (Cond.code (mY 275) (bt 275) (mMax 275) (mRet 275)) := by rfl
set_option maxRecDepth 100000 in
theorem cw_276 : tblAt 8100 = some (Cond.code (mY 276) (bt 276) (mMax 276) (mRet 276)) := by rfl
set_option maxRecDepth 100000 in
theorem cw_277 : tblAt 8096 = some (Cond.code (mY 277) (bt 277) (mMax 277) (mRet 277)) := by rfl
set_option maxRecDepth 100000 in
theorem cw_278 : tblAt 8104 = some (Cond.code (mY 278) (bt 278) (mMax 278) (mRet 278)) := by rfl
set_option maxRecDepth 100000 in
theorem cw_279 : tblAt 8112 = some (Cond.code (mY 279) (bt 279) (mMax 279) (mRet 279)) := by rfl
set_option maxRecDepth 100000 in
theorem cw_280 : tblAt 8108 = some (Cond.code (mY 280) (bt 280) (mMax 280) (mRet 280)) := by rfl
set_option maxRecDepth 100000 in
theorem cw_281 : tblAt 8116 = some (Cond.code (mY 281) (bt 281) (mMax 281) (mRet 281)) := by rfl
set_option maxRecDepth 100000 in
theorem cw_282 : tblAt 8120 = some (Cond.code (mY 282) (bt 282) (mMax 282) (mRet 282)) := by rfl
set_option maxRecDepth 100000 in
theorem cw_283 : tblAt 8124 = some (Cond.code (mY 283) (bt 283) (mMax 283) (mRet 283)) := by rfl
set_option maxRecDepth 100000 in
theorem cw_284 : tblAt 8128 = some (Cond.code (mY 284) (bt 284) (mMax 284) (mRet 284)) := by rfl
set_option maxRecDepth 100000 in
theorem cw_285 : tblAt 8140 = some (Cond.code (mY 285) (bt 285) (mMax 285) (mRet 285)) := by rfl
set_option maxRecDepth 100000 in
theorem cw_286 : tblAt 8136 = some (Cond.code (mY 286) (bt 286) (mMax 286) (mRet 286)) := by rfl
set_option maxRecDepth 100000 in
theorem cw_287 : tblAt 8132 = some (Cond.code (mY 287) (bt 287) (mMax 287) (mRet 287)) := by rfl
set_option maxRecDepth 100000 in
theorem cw_288 : tblAt 8144 = some (Cond.code (mY 288) (bt 288) (mMax 288) (mRet 288)) := by rfl
set_option maxRecDepth 100000 in
theorem cw_289 : tblAt 8157 = some (Cond.code (mY 289) (bt 289) (mMax 289) (mRet 289)) := by rfl
set_option maxRecDepth 100000 in
theorem cw_290 : tblAt 8148 = some (Cond.code (mY 290) (bt 290) (mMax 290) (mRet 290)) := by rfl
set_option maxRecDepth 100000 in
theorem cw_291 : tblAt 8153 = some (Cond.code (mY 291) (bt 291) (mMax 291) (mRet 291)) := by rfl
set_option maxRecDepth 100000 in
theorem cw_292 : tblAt 8161 = some (Cond.code (mY 292) (bt 292) (mMax 292) (mRet 292)) := by rfl
set_option maxRecDepth 100000 in
theorem cw_293 : tblAt 8176 = some (Cond.code (mY 293) (bt 293) (mMax 293) (mRet 293)) := by rfl
set_option maxRecDepth 100000 in
theorem cw_294 : tblAt 8173 = some (Cond.code (mY 294) (bt 294) (mMax 294) (mRet 294)) := by rfl
set_option maxRecDepth 100000 in
theorem cw_295 : tblAt 8169 = some (Cond.code (mY 295) (bt 295) (mMax 295) (mRet 295)) := by rfl
set_option maxRecDepth 100000 in
theorem cw_296 : tblAt 8165 = some (Cond.code (mY 296) (bt 296) (mMax 296) (mRet 296)) := by rfl
set_option maxRecDepth 100000 in
theorem cw_297 : tblAt 8184 = some (Cond.code (mY 297) (bt 297) (mMax 297) (mRet 297)) := by rfl
set_option maxRecDepth 100000 in
theorem cw_298 : tblAt 8180 = some (Cond.code (mY 298) (bt 298) (mMax 298) (mRet 298)) := by rfl
set_option maxRecDepth 100000 in
theorem cw_299 : tblAt 8192 = some (Cond.code (mY 299) (bt 299) (mMax 299) (mRet 299)) := by rfl
theorem cwC_11 : ∀ r, r < 25 → Cond.code (mY (25 * 11 + r)) (bt (25 * 11 + r)) (mMax (25 * 11 + r)) (mRet (25 * 11 + r)) ∈ TBg := by
  intro r hr
  match r, hr with
  | 0, _ => exact tbg (tblAt_mem cw_275) rfl
  | 1, _ => exact tbg (tblAt_mem cw_276) rfl
  | 2, _ => exact tbg (tblAt_mem cw_277) rfl
  | 3, _ => exact tbg (tblAt_mem cw_278) rfl
  | 4, _ => exact tbg (tblAt_mem cw_279) rfl
  | 5, _ => exact tbg (tblAt_mem cw_280) rfl
  | 6, _ => exact tbg (tblAt_mem cw_281) rfl
  | 7, _ => exact tbg (tblAt_mem cw_282) rfl
  | 8, _ => exact tbg (tblAt_mem cw_283) rfl
  | 9, _ => exact tbg (tblAt_mem cw_284) rfl
  | 10, _ => exact tbg (tblAt_mem cw_285) rfl
  | 11, _ => exact tbg (tblAt_mem cw_286) rfl
  | 12, _ => exact tbg (tblAt_mem cw_287) rfl
  | 13, _ => exact tbg (tblAt_mem cw_288) rfl
  | 14, _ => exact tbg (tblAt_mem cw_289) rfl
  | 15, _ => exact tbg (tblAt_mem cw_290) rfl
  | 16, _ => exact tbg (tblAt_mem cw_291) rfl
  | 17, _ => exact tbg (tblAt_mem cw_292) rfl
  | 18, _ => exact tbg (tblAt_mem cw_293) rfl
  | 19, _ => exact tbg (tblAt_mem cw_294) rfl
  | 20, _ => exact tbg (tblAt_mem cw_295) rfl
  | 21, _ => exact tbg (tblAt_mem cw_296) rfl
  | 22, _ => exact tbg (tblAt_mem cw_297) rfl
  | 23, _ => exact tbg (tblAt_mem cw_298) rfl
  | 24, _ => exact tbg (tblAt_mem cw_299) rfl
  | n + 25, hr => exact absurd hr (by omega)
set_option maxRecDepth 100000 in
theorem cw_300 : tblAt 8188 = some (Cond.code (mY 300) (bt 300) (mMax 300) (mRet 300)) := by rfl
set_option maxRecDepth 100000 in
theorem cw_301 : tblAt 8200 = some (Cond.code (mY 301) (bt 301) (mMax 301) (mRet 301)) := by rfl
set_option maxRecDepth 100000 in
theorem cw_302 : tblAt 8196 = some (Cond.code (mY 302) (bt 302) (mMax 302) (mRet 302)) := by rfl
set_option maxRecDepth 100000 in
theorem cw_303 : tblAt 8204 = some (Cond.code (mY 303) (bt 303) (mMax 303) (mRet 303)) := by rfl
set_option maxRecDepth 100000 in
theorem cw_304 : tblAt 8209 = some (Cond.code (mY 304) (bt 304) (mMax 304) (mRet 304)) := by rfl
set_option maxRecDepth 100000 in
theorem cw_305 : tblAt 8219 = some (Cond.code (mY 305) (bt 305) (mMax 305) (mRet 305)) := by rfl
set_option maxRecDepth 100000 in
theorem cw_306 : tblAt 8216 = some (Cond.code (mY 306) (bt 306) (mMax 306) (mRet 306)) := by rfl
set_option maxRecDepth 100000 in
theorem cw_307 : tblAt 8224 = some (Cond.code (mY 307) (bt 307) (mMax 307) (mRet 307)) := by rfl
set_option maxRecDepth 100000 in
theorem cw_308 : tblAt 8230 = some (Cond.code (mY 308) (bt 308) (mMax 308) (mRet 308)) := by rfl
set_option maxRecDepth 100000 in
theorem cw_309 : tblAt 8237 = some (Cond.code (mY 309) (bt 309) (mMax 309) (mRet 309)) := by rfl
set_option maxRecDepth 100000 in
theorem cw_310 : tblAt 8234 = some (Cond.code (mY 310) (bt 310) (mMax 310) (mRet 310)) := by rfl
set_option maxRecDepth 100000 in
theorem cw_311 : tblAt 9005 = some (Cond.code (mY 311) (bt 311) (mMax 311) (mRet 311)) := by rfl
set_option maxRecDepth 100000 in
theorem cw_312 : tblAt 9001 = some (Cond.code (mY 312) (bt 312) (mMax 312) (mRet 312)) := by rfl
set_option maxRecDepth 100000 in
theorem cw_313 : tblAt 9009 = some (Cond.code (mY 313) (bt 313) (mMax 313) (mRet 313)) := by rfl
set_option maxRecDepth 100000 in
theorem cw_314 : tblAt 9013 = some (Cond.code (mY 314) (bt 314) (mMax 314) (mRet 314)) := by rfl
set_option maxRecDepth 100000 in
theorem cw_315 : tblAt 9017 = some (Cond.code (mY 315) (bt 315) (mMax 315) (mRet 315)) := by rfl
set_option maxRecDepth 100000 in
theorem cw_316 : tblAt 9021 = some (Cond.code (mY 316) (bt 316) (mMax 316) (mRet 316)) := by rfl
set_option maxRecDepth 100000 in
theorem cw_317 : tblAt 9029 = some (Cond.code (mY 317) (bt 317) (mMax 317) (mRet 317)) := by rfl
set_option maxRecDepth 100000 in
theorem cw_318 : tblAt 9033 = some (Cond.code (mY 318) (bt 318) (mMax 318) (mRet 318)) := by rfl
set_option maxRecDepth 100000 in
theorem cw_319 : tblAt 9041 = some (Cond.code (mY 319) (bt 319) (mMax 319) (mRet 319)) := by rfl
set_option maxRecDepth 100000 in
theorem cw_320 : tblAt 9045 = some (Cond.code (mY 320) (bt 320) (mMax 320) (mRet 320)) := by rfl
set_option maxRecDepth 100000 in
theorem cw_321 : tblAt 9037 = some (Cond.code (mY 321) (bt 321) (mMax 321) (mRet 321)) := by rfl
set_option maxRecDepth 100000 in
theorem cw_322 : tblAt 4189 = some (Cond.code (mY 322) (bt 322) (mMax 322) (mRet 322)) := by rfl
set_option maxRecDepth 100000 in
theorem cw_323 : tblAt 5191 = some (Cond.code (mY 323) (bt 323) (mMax 323) (mRet 323)) := by rfl
theorem cwC_12 : ∀ r, r < 24 → Cond.code (mY (25 * 12 + r)) (bt (25 * 12 + r)) (mMax (25 * 12 + r)) (mRet (25 * 12 + r)) ∈ TBg := by
  intro r hr
  match r, hr with
  | 0, _ => exact tbg (tblAt_mem cw_300) rfl
  | 1, _ => exact tbg (tblAt_mem cw_301) rfl
  | 2, _ => exact tbg (tblAt_mem cw_302) rfl
  | 3, _ => exact tbg (tblAt_mem cw_303) rfl
  | 4, _ => exact tbg (tblAt_mem cw_304) rfl
  | 5, _ => exact tbg (tblAt_mem cw_305) rfl
  | 6, _ => exact tbg (tblAt_mem cw_306) rfl
  | 7, _ => exact tbg (tblAt_mem cw_307) rfl
  | 8, _ => exact tbg (tblAt_mem cw_308) rfl
  | 9, _ => exact tbg (tblAt_mem cw_309) rfl
  | 10, _ => exact tbg (tblAt_mem cw_310) rfl
  | 11, _ => exact tbg (tblAt_mem cw_311) rfl
  | 12, _ => exact tbg (tblAt_mem cw_312) rfl
  | 13, _ => exact tbg (tblAt_mem cw_313) rfl
  | 14, _ => exact tbg (tblAt_mem cw_314) rfl
  | 15, _ => exact tbg (tblAt_mem cw_315) rfl
  | 16, _ => exact tbg (tblAt_mem cw_316) rfl
  | 17, _ => exact tbg (tblAt_mem cw_317) rfl
  | 18, _ => exact tbg (tblAt_mem cw_318) rfl
  | 19, _ => exact tbg (tblAt_mem cw_319) rfl
  | 20, _ => exact tbg (tblAt_mem cw_320) rfl
  | 21, _ => exact tbg (tblAt_mem cw_321) rfl
  | 22, _ => exact tbg (tblAt_mem cw_322) rfl
  | 23, _ => exact tbg (tblAt_mem cw_323) rfl
  | n + 24, hr => exact absurd hr (by omega)
theorem cw_at {i : Nat} (h : i < 324) : Cond.code (mY i) (bt i) (mMax i) (mRet i) ∈ TBg := by
  have e : i = 25 * (i / 25) + i % 25 := (Nat.div_add_mod i 25).symm
  have hr : i % 25 < 25 := Nat.mod_lt _ (by decide)
  have hc : i / 25 < 13 := by omega
  generalize i / 25 = c at e hc
  generalize i % 25 = r at e hr
  subst e
  match c, hc with
  | 0, _ => exact cwC_0 r (by omega)
  | 1, _ => exact cwC_1 r (by omega)
  | 2, _ => exact cwC_2 r (by omega)
  | 3, _ => exact cwC_3 r (by omega)
  | 4, _ => exact cwC_4 r (by omega)
  | 5, _ => exact cwC_5 r (by omega)
  | 6, _ => exact cwC_6 r (by omega)
  | 7, _ => exact cwC_7 r (by omega)
  | 8, _ => exact cwC_8 r (by omega)
  | 9, _ => exact cwC_9 r (by omega)
  | 10, _ => exact cwC_10 r (by omega)
  | 11, _ => exact cwC_11 r (by omega)
  | 12, _ => exact cwC_12 r (by omega)
