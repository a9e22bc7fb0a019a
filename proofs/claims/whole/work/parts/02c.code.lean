/-! all code tables together -/
def ct325 : List (Nat × Instr × Nat) := ctL0 ++ (ctL1 ++ (ctL2 ++ (ctL3 ++ (ctL4 ++ (ctL5 ++ (ctL6 ++ (ctL7 ++ (ctL8 ++ (ctL9 ++ (ctL10 ++ (ctL11 ++ (ctL12 ++ (ctL13 ++ (ctL14 ++ (ctL15 ++ (ctL16 ++ (ctL17 ++ (ctL18 ++ (ctL19 ++ (ctL20 ++ (ctL21 ++ (ctL22 ++ (ctL23 ++ (ctL24))))))))))))))))))))))))
theorem all_app {α : Type} {p : α → Bool} {a b : List α} (ha : a.all p = true) (hb : b.all p = true) : (a ++ b).all p = true := by rw [List.all_append, ha, hb]; rfl
theorem ct325_ok : ct325.all (fun e => decide (decode (bt 325) e.1 = .ok (e.2.1, e.2.2))) = true := all_app ctL0_ok (all_app ctL1_ok (all_app ctL2_ok (all_app ctL3_ok (all_app ctL4_ok (all_app ctL5_ok (all_app ctL6_ok (all_app ctL7_ok (all_app ctL8_ok (all_app ctL9_ok (all_app ctL10_ok (all_app ctL11_ok (all_app ctL12_ok (all_app ctL13_ok (all_app ctL14_ok (all_app ctL15_ok (all_app ctL16_ok (all_app ctL17_ok (all_app ctL18_ok (all_app ctL19_ok (all_app ctL20_ok (all_app ctL21_ok (all_app ctL22_ok (all_app ctL23_ok ctL24_ok)))))))))))))))))))))))
def cC0 : List (List (Nat × Instr × Nat)) := [ct0, ct1, ct2, ct3, ct4, ct5, ct6, ct7, ct8, ct9, ct10, ct11, ct12, ct13, ct14, ct15]
def cC1 : List (List (Nat × Instr × Nat)) := [ct16, ct17, ct18, ct19, ct20, ct21, ct22, ct23, ct24, ct25, ct26, ct27, ct28, ct29, ct30, ct31]
def cC2 : List (List (Nat × Instr × Nat)) := [ct32, ct33, ct34, ct35, ct36, ct37, ct38, ct39, ct40, ct41, ct42, ct43, ct44, ct45, ct46, ct47]
def cC3 : List (List (Nat × Instr × Nat)) := [ct48, ct49, ct50, ct51, ct52, ct53, ct54, ct55, ct56, ct57, ct58, ct59, ct60, ct61, ct62, ct63]
def cC4 : List (List (Nat × Instr × Nat)) := [ct64, ct65, ct66, ct67, ct68, ct69, ct70, ct71, ct72, ct73, ct74, ct75, ct76, ct77, ct78, ct79]
def cC5 : List (List (Nat × Instr × Nat)) := [ct80, ct81, ct82, ct83, ct84, ct85, ct86, ct87, ct88, ct89, ct90, ct91, ct92, ct93, ct94, ct95]
def cC6 : List (List (Nat × Instr × Nat)) := [ct96, ct97, ct98, ct99, ct100, ct101, ct102, ct103, ct104, ct105, ct106, ct107, ct108, ct109, ct110, ct111]
def cC7 : List (List (Nat × Instr × Nat)) := [ct112, ct113, ct114, ct115, ct116, ct117, ct118, ct119, ct120, ct121, ct122, ct123, ct124, ct125, ct126, ct127]
def cC8 : List (List (Nat × Instr × Nat)) := [ct128, ct129, ct130, ct131, ct132, ct133, ct134, ct135, ct136, ct137, ct138, ct139, ct140, ct141, ct142, ct143]
def cC9 : List (List (Nat × Instr × Nat)) := [ct144, ct145, ct146, ct147, ct148, ct149, ct150, ct151, ct152, ct153, ct154, ct155, ct156, ct157, ct158, ct159]
def cC10 : List (List (Nat × Instr × Nat)) := [ct160, ct161, ct162, ct163, ct164, ct165, ct166, ct167, ct168, ct169, ct170, ct171, ct172, ct173, ct174, ct175]
def cC11 : List (List (Nat × Instr × Nat)) := [ct176, ct177, ct178, ct179, ct180, ct181, ct182, ct183, ct184, ct185, ct186, ct187, ct188, ct189, ct190, ct191]
def cC12 : List (List (Nat × Instr × Nat)) := [ct192, ct193, ct194, ct195, ct196, ct197, ct198, ct199, ct200, ct201, ct202, ct203, ct204, ct205, ct206, ct207]
def cC13 : List (List (Nat × Instr × Nat)) := [ct208, ct209, ct210, ct211, ct212, ct213, ct214, ct215, ct216, ct217, ct218, ct219, ct220, ct221, ct222, ct223]
def cC14 : List (List (Nat × Instr × Nat)) := [ct224, ct225, ct226, ct227, ct228, ct229, ct230, ct231, ct232, ct233, ct234, ct235, ct236, ct237, ct238, ct239]
def cC15 : List (List (Nat × Instr × Nat)) := [ct240, ct241, ct242, ct243, ct244, ct245, ct246, ct247, ct248, ct249, ct250, ct251, ct252, ct253, ct254, ct255]
def cC16 : List (List (Nat × Instr × Nat)) := [ct256, ct257, ct258, ct259, ct260, ct261, ct262, ct263, ct264, ct265, ct266, ct267, ct268, ct269, ct270, ct271]
def cC17 : List (List (Nat × Instr × Nat)) := [ct272, ct273, ct274, ct275, ct276, ct277, ct278, ct279, ct280, ct281, ct282, ct283, ct284, ct285, ct286, ct287]
def cC18 : List (List (Nat × Instr × Nat)) := [ct288, ct289, ct290, ct291, ct292, ct293, ct294, ct295, ct296, ct297, ct298, ct299, ct300, ct301, ct302, ct303]
def cC19 : List (List (Nat × Instr × Nat)) := [ct304, ct305, ct306, ct307, ct308, ct309, ct310, ct311, ct312, ct313, ct314, ct315, ct316, ct317, ct318, ct319]
def cC20 : List (List (Nat × Instr × Nat)) := [ct320, ct321, ct322, ct323, ct324, ct325]
def cCC : List (List (List (Nat × Instr × Nat))) := [cC0, cC1, cC2, cC3, cC4, cC5, cC6, cC7, cC8, cC9, cC10, cC11, cC12, cC13, cC14, cC15, cC16, cC17, cC18, cC19, cC20]
def cL (i : Nat) : List (Nat × Instr × Nat) := (cCC.getD (i / 16) []).getD (i % 16) []
def cd (i pc : Nat) : Option (Instr × Nat) := ((cL i).find? (fun e => e.1 == pc)).map (fun e => e.2)
theorem cC0_ok : ∀ r, r < 16 → ∀ e ∈ cC0.getD r [], decode (bt (16 * 0 + r)) e.1 = .ok (e.2.1, e.2.2) := by
  intro r hr e he
  match r, hr with
  | 0, _ => exact of_decide_eq_true (List.all_eq_true.mp ct0_ok e he)
  | 1, _ => exact of_decide_eq_true (List.all_eq_true.mp ct1_ok e he)
  | 2, _ => exact of_decide_eq_true (List.all_eq_true.mp ct2_ok e he)
  | 3, _ => exact of_decide_eq_true (List.all_eq_true.mp ct3_ok e he)
  | 4, _ => exact of_decide_eq_true (List.all_eq_true.mp ct4_ok e he)
  | 5, _ => exact of_decide_eq_true (List.all_eq_true.mp ct5_ok e he)
  | 6, _ => exact of_decide_eq_true (List.all_eq_true.mp ct6_ok e he)
  | 7, _ => exact of_decide_eq_true (List.all_eq_true.mp ct7_ok e he)
  | 8, _ => exact of_decide_eq_true (List.all_eq_true.mp ct8_ok e he)
  | 9, _ => exact of_decide_eq_true (List.all_eq_true.mp ct9_ok e he)
  | 10, _ => exact of_decide_eq_true (List.all_eq_true.mp ct10_ok e he)
  | 11, _ => exact of_decide_eq_true (List.all_eq_true.mp ct11_ok e he)
  | 12, _ => exact of_decide_eq_true (List.all_eq_true.mp ct12_ok e he)
  | 13, _ => exact of_decide_eq_true (List.all_eq_true.mp ct13_ok e he)
  | 14, _ => exact of_decide_eq_true (List.all_eq_true.mp ct14_ok e he)
  | 15, _ => exact of_decide_eq_true (List.all_eq_true.mp ct15_ok e he)
theorem cC1_ok : ∀ r, r < 16 → ∀ e ∈ cC1.getD r [], decode (bt (16 * 1 + r)) e.1 = .ok (e.2.1, e.2.2) := by
  intro r hr e he
  match r, hr with
  | 0, _ => exact of_decide_eq_true (List.all_eq_true.mp ct16_ok e he)
  | 1, _ => exact of_decide_eq_true (List.all_eq_true.mp ct17_ok e he)
  | 2, _ => exact of_decide_eq_true (List.all_eq_true.mp ct18_ok e he)
  | 3, _ => exact of_decide_eq_true (List.all_eq_true.mp ct19_ok e he)
  | 4, _ => exact of_decide_eq_true (List.all_eq_true.mp ct20_ok e he)
  | 5, _ => exact of_decide_eq_true (List.all_eq_true.mp ct21_ok e he)
  | 6, _ => exact of_decide_eq_true (List.all_eq_true.mp ct22_ok e he)
  | 7, _ => exact of_decide_eq_true (List.all_eq_true.mp ct23_ok e he)
  | 8, _ => exact of_decide_eq_true (List.all_eq_true.mp ct24_ok e he)
  | 9, _ => exact of_decide_eq_true (List.all_eq_true.mp ct25_ok e he)
  | 10, _ => exact of_decide_eq_true (List.all_eq_true.mp ct26_ok e he)
  | 11, _ => exact of_decide_eq_true (List.all_eq_true.mp ct27_ok e he)
  | 12, _ => exact of_decide_eq_true (List.all_eq_true.mp ct28_ok e he)
  | 13, _ => exact of_decide_eq_true (List.all_eq_true.mp ct29_ok e he)
  | 14, _ => exact of_decide_eq_true (List.all_eq_true.mp ct30_ok e he)
  | 15, _ => exact of_decide_eq_true (List.all_eq_true.mp ct31_ok e he)
theorem cC2_ok : ∀ r, r < 16 → ∀ e ∈ cC2.getD r [], decode (bt (16 * 2 + r)) e.1 = .ok (e.2.1, e.2.2) := by
  intro r hr e he
  match r, hr with
  | 0, _ => exact of_decide_eq_true (List.all_eq_true.mp ct32_ok e he)
  | 1, _ => exact of_decide_eq_true (List.all_eq_true.mp ct33_ok e he)
  | 2, _ => exact of_decide_eq_true (List.all_eq_true.mp ct34_ok e he)
  | 3, _ => exact of_decide_eq_true (List.all_eq_true.mp ct35_ok e he)
  | 4, _ => exact of_decide_eq_true (List.all_eq_true.mp ct36_ok e he)
  | 5, _ => exact of_decide_eq_true (List.all_eq_true.mp ct37_ok e he)
  | 6, _ => exact of_decide_eq_true (List.all_eq_true.mp ct38_ok e he)
  | 7, _ => exact of_decide_eq_true (List.all_eq_true.mp ct39_ok e he)
  | 8, _ => exact of_decide_eq_true (List.all_eq_true.mp ct40_ok e he)
  | 9, _ => exact of_decide_eq_true (List.all_eq_true.mp ct41_ok e he)
  | 10, _ => exact of_decide_eq_true (List.all_eq_true.mp ct42_ok e he)
  | 11, _ => exact of_decide_eq_true (List.all_eq_true.mp ct43_ok e he)
  | 12, _ => exact of_decide_eq_true (List.all_eq_true.mp ct44_ok e he)
  | 13, _ => exact of_decide_eq_true (List.all_eq_true.mp ct45_ok e he)
  | 14, _ => exact of_decide_eq_true (List.all_eq_true.mp ct46_ok e he)
  | 15, _ => exact of_decide_eq_true (List.all_eq_true.mp ct47_ok e he)
theorem cC3_ok : ∀ r, r < 16 → ∀ e ∈ cC3.getD r [], decode (bt (16 * 3 + r)) e.1 = .ok (e.2.1, e.2.2) := by
  intro r hr e he
  match r, hr with
  | 0, _ => exact of_decide_eq_true (List.all_eq_true.mp ct48_ok e he)
  | 1, _ => exact of_decide_eq_true (List.all_eq_true.mp ct49_ok e he)
  | 2, _ => exact of_decide_eq_true (List.all_eq_true.mp ct50_ok e he)
  | 3, _ => exact of_decide_eq_true (List.all_eq_true.mp ct51_ok e he)
  | 4, _ => exact of_decide_eq_true (List.all_eq_true.mp ct52_ok e he)
  | 5, _ => exact of_decide_eq_true (List.all_eq_true.mp ct53_ok e he)
  | 6, _ => exact of_decide_eq_true (List.all_eq_true.mp ct54_ok e he)
  | 7, _ => exact of_decide_eq_true (List.all_eq_true.mp ct55_ok e he)
  | 8, _ => exact of_decide_eq_true (List.all_eq_true.mp ct56_ok e he)
  | 9, _ => exact of_decide_eq_true (List.all_eq_true.mp ct57_ok e he)
  | 10, _ => exact of_decide_eq_true (List.all_eq_true.mp ct58_ok e he)
  | 11, _ => exact of_decide_eq_true (List.all_eq_true.mp ct59_ok e he)
  | 12, _ => exact of_decide_eq_true (List.all_eq_true.mp ct60_ok e he)
  | 13, _ => exact of_decide_eq_true (List.all_eq_true.mp ct61_ok e he)
  | 14, _ => exact of_decide_eq_true (List.all_eq_true.mp ct62_ok e he)
  | 15, _ => exact of_decide_eq_true (List.all_eq_true.mp ct63_ok e he)
theorem cC4_ok : ∀ r, r < 16 → ∀ e ∈ cC4.getD r [], decode (bt (16 * 4 + r)) e.1 = .ok (e.2.1, e.2.2) := by
  intro r hr e he
  match r, hr with
  | 0, _ => exact of_decide_eq_true (List.all_eq_true.mp ct64_ok e he)
  | 1, _ => exact of_decide_eq_true (List.all_eq_true.mp ct65_ok e he)
  | 2, _ => exact of_decide_eq_true (List.all_eq_true.mp ct66_ok e he)
  | 3, _ => exact of_decide_eq_true (List.all_eq_true.mp ct67_ok e he)
  | 4, _ => exact of_decide_eq_true (List.all_eq_true.mp ct68_ok e he)
  | 5, _ => exact of_decide_eq_true (List.all_eq_true.mp ct69_ok e he)
  | 6, _ => exact of_decide_eq_true (List.all_eq_true.mp ct70_ok e he)
  | 7, _ => exact of_decide_eq_true (List.all_eq_true.mp ct71_ok e he)
  | 8, _ => exact of_decide_eq_true (List.all_eq_true.mp ct72_ok e he)
  | 9, _ => exact of_decide_eq_true (List.all_eq_true.mp ct73_ok e he)
  | 10, _ => exact of_decide_eq_true (List.all_eq_true.mp ct74_ok e he)
  | 11, _ => exact of_decide_eq_true (List.all_eq_true.mp ct75_ok e he)
  | 12, _ => exact of_decide_eq_true (List.all_eq_true.mp ct76_ok e he)
  | 13, _ => exact of_decide_eq_true (List.all_eq_true.mp ct77_ok e he)
  | 14, _ => exact of_decide_eq_true (List.all_eq_true.mp ct78_ok e he)
  | 15, _ => exact of_decide_eq_true (List.all_eq_true.mp ct79_ok e he)
theorem cC5_ok : ∀ r, r < 16 → ∀ e ∈ cC5.getD r [], decode (bt (16 * 5 + r)) e.1 = .ok (e.2.1, e.2.2) := by
  intro r hr e he
  match r, hr with
  | 0, _ => exact of_decide_eq_true (List.all_eq_true.mp ct80_ok e he)
  | 1, _ => exact of_decide_eq_true (List.all_eq_true.mp ct81_ok e he)
  | 2, _ => exact of_decide_eq_true (List.all_eq_true.mp ct82_ok e he)
  | 3, _ => exact of_decide_eq_true (List.all_eq_true.mp ct83_ok e he)
  | 4, _ => exact of_decide_eq_true (List.all_eq_true.mp ct84_ok e he)
  | 5, _ => exact of_decide_eq_true (List.all_eq_true.mp ct85_ok e he)
  | 6, _ => exact of_decide_eq_true (List.all_eq_true.mp ct86_ok e he)
  | 7, _ => exact of_decide_eq_true (List.all_eq_true.mp ct87_ok e he)
  | 8, _ => exact of_decide_eq_true (List.all_eq_true.mp ct88_ok e he)
  | 9, _ => exact of_decide_eq_true (List.all_eq_true.mp ct89_ok e he)
  | 10, _ => exact of_decide_eq_true (List.all_eq_true.mp ct90_ok e he)
  | 11, _ => exact of_decide_eq_true (List.all_eq_true.mp ct91_ok e he)
  | 12, _ => exact of_decide_eq_true (List.all_eq_true.mp ct92_ok e he)
  | 13, _ => exact of_decide_eq_true (List.all_eq_true.mp ct93_ok e he)
  | 14, _ => exact of_decide_eq_true (List.all_eq_true.mp ct94_ok e he)
  | 15, _ => exact of_decide_eq_true (List.all_eq_true.mp ct95_ok e he)
theorem cC6_ok : ∀ r, r < 16 → ∀ e ∈ cC6.getD r [], decode (bt (16 * 6 + r)) e.1 = .ok (e.2.1, e.2.2) := by
  intro r hr e he
  match r, hr with
  | 0, _ => exact of_decide_eq_true (List.all_eq_true.mp ct96_ok e he)
  | 1, _ => exact of_decide_eq_true (List.all_eq_true.mp ct97_ok e he)
  | 2, _ => exact of_decide_eq_true (List.all_eq_true.mp ct98_ok e he)
  | 3, _ => exact of_decide_eq_true (List.all_eq_true.mp ct99_ok e he)
  | 4, _ => exact of_decide_eq_true (List.all_eq_true.mp ct100_ok e he)
  | 5, _ => exact of_decide_eq_true (List.all_eq_true.mp ct101_ok e he)
  | 6, _ => exact of_decide_eq_true (List.all_eq_true.mp ct102_ok e he)
  | 7, _ => exact of_decide_eq_true (List.all_eq_true.mp ct103_ok e he)
  | 8, _ => exact of_decide_eq_true (List.all_eq_true.mp ct104_ok e he)
  | 9, _ => exact of_decide_eq_true (List.all_eq_true.mp ct105_ok e he)
  | 10, _ => exact of_decide_eq_true (List.all_eq_true.mp ct106_ok e he)
  | 11, _ => exact of_decide_eq_true (List.all_eq_true.mp ct107_ok e he)
  | 12, _ => exact of_decide_eq_true (List.all_eq_true.mp ct108_ok e he)
  | 13, _ => exact of_decide_eq_true (List.all_eq_true.mp ct109_ok e he)
  | 14, _ => exact of_decide_eq_true (List.all_eq_true.mp ct110_ok e he)
  | 15, _ => exact of_decide_eq_true (List.all_eq_true.mp ct111_ok e he)
theorem cC7_ok : ∀ r, r < 16 → ∀ e ∈ cC7.getD r [], decode (bt (16 * 7 + r)) e.1 = .ok (e.2.1, e.2.2) := by
  intro r hr e he
  match r, hr with
  | 0, _ => exact of_decide_eq_true (List.all_eq_true.mp ct112_ok e he)
  | 1, _ => exact of_decide_eq_true (List.all_eq_true.mp ct113_ok e he)
  | 2, _ => exact of_decide_eq_true (List.all_eq_true.mp ct114_ok e he)
  | 3, _ => exact of_decide_eq_true (List.all_eq_true.mp ct115_ok e he)
  | 4, _ => exact of_decide_eq_true (List.all_eq_true.mp ct116_ok e he)
  | 5, _ => exact of_decide_eq_true (List.all_eq_true.mp ct117_ok e he)
  | 6, _ => exact of_decide_eq_true (List.all_eq_true.mp ct118_ok e he)
  | 7, _ => exact of_decide_eq_true (List.all_eq_true.mp ct119_ok e he)
  | 8, _ => exact of_decide_eq_true (List.all_eq_true.mp ct120_ok e he)
  | 9, _ => exact of_decide_eq_true (List.all_eq_true.mp ct121_ok e he)
  | 10, _ => exact of_decide_eq_true (List.all_eq_true.mp ct122_ok e he)
  | 11, _ => exact of_decide_eq_true (List.all_eq_true.mp ct123_ok e he)
  | 12, _ => exact of_decide_eq_true (List.all_eq_true.mp ct124_ok e he)
  | 13, _ => exact of_decide_eq_true (List.all_eq_true.mp ct125_ok e he)
  | 14, _ => exact of_decide_eq_true (List.all_eq_true.mp ct126_ok e he)
  | 15, _ => exact of_decide_eq_true (List.all_eq_true.mp ct127_ok e he)
theorem cC8_ok : ∀ r, r < 16 → ∀ e ∈ cC8.getD r [], decode (bt (16 * 8 + r)) e.1 = .ok (e.2.1, e.2.2) := by
  intro r hr e he
  match r, hr with
  | 0, _ => exact of_decide_eq_true (List.all_eq_true.mp ct128_ok e he)
  | 1, _ => exact of_decide_eq_true (List.all_eq_true.mp ct129_ok e he)
  | 2, _ => exact of_decide_eq_true (List.all_eq_true.mp ct130_ok e he)
  | 3, _ => exact of_decide_eq_true (List.all_eq_true.mp ct131_ok e he)
  | 4, _ => exact of_decide_eq_true (List.all_eq_true.mp ct132_ok e he)
  | 5, _ => exact of_decide_eq_true (List.all_eq_true.mp ct133_ok e he)
  | 6, _ => exact of_decide_eq_true (List.all_eq_true.mp ct134_ok e he)
  | 7, _ => exact of_decide_eq_true (List.all_eq_true.mp ct135_ok e he)
  | 8, _ => exact of_decide_eq_true (List.all_eq_true.mp ct136_ok e he)
  | 9, _ => exact of_decide_eq_true (List.all_eq_true.mp ct137_ok e he)
  | 10, _ => exact of_decide_eq_true (List.all_eq_true.mp ct138_ok e he)
  | 11, _ => exact of_decide_eq_true (List.all_eq_true.mp ct139_ok e he)
  | 12, _ => exact of_decide_eq_true (List.all_eq_true.mp ct140_ok e he)
  | 13, _ => exact of_decide_eq_true (List.all_eq_true.mp ct141_ok e he)
  | 14, _ => exact of_decide_eq_true (List.all_eq_true.mp ct142_ok e he)
  | 15, _ => exact of_decide_eq_true (List.all_eq_true.mp ct143_ok e he)
theorem cC9_ok : ∀ r, r < 16 → ∀ e ∈ cC9.getD r [], decode (bt (16 * 9 + r)) e.1 = .ok (e.2.1, e.2.2) := by
  intro r hr e he
  match r, hr with
  | 0, _ => exact of_decide_eq_true (List.all_eq_true.mp ct144_ok e he)
  | 1, _ => exact of_decide_eq_true (List.all_eq_true.mp ct145_ok e he)
  | 2, _ => exact of_decide_eq_true (List.all_eq_true.mp ct146_ok e he)
  | 3, _ => exact of_decide_eq_true (List.all_eq_true.mp ct147_ok e he)
  | 4, _ => exact of_decide_eq_true (List.all_eq_true.mp ct148_ok e he)
  | 5, _ => exact of_decide_eq_true (List.all_eq_true.mp ct149_ok e he)
  | 6, _ => exact of_decide_eq_true (List.all_eq_true.mp ct150_ok e he)
  | 7, _ => exact of_decide_eq_true (List.all_eq_true.mp ct151_ok e he)
  | 8, _ => exact of_decide_eq_true (List.all_eq_true.mp ct152_ok e he)
  | 9, _ => exact of_decide_eq_true (List.all_eq_true.mp ct153_ok e he)
  | 10, _ => exact of_decide_eq_true (List.all_eq_true.mp ct154_ok e he)
  | 11, _ => exact of_decide_eq_true (List.all_eq_true.mp ct155_ok e he)
  | 12, _ => exact of_decide_eq_true (List.all_eq_true.mp ct156_ok e he)
  | 13, _ => exact of_decide_eq_true (List.all_eq_true.mp ct157_ok e he)
  | 14, _ => exact of_decide_eq_true (List.all_eq_true.mp ct158_ok e he)
  | 15, _ => exact of_decide_eq_true (List.all_eq_true.mp ct159_ok e he)
theorem cC10_ok : ∀ r, r < 16 → ∀ e ∈ cC10.getD r [], decode (bt (16 * 10 + r)) e.1 = .ok (e.2.1, e.2.2) := by
  intro r hr e he
  match r, hr with
  | 0, _ => exact of_decide_eq_true (List.all_eq_true.mp ct160_ok e he)
  | 1, _ => exact of_decide_eq_true (List.all_eq_true.mp ct161_ok e he)
  | 2, _ => exact of_decide_eq_true (List.all_eq_true.mp ct162_ok e he)
  | 3, _ => exact of_decide_eq_true (List.all_eq_true.mp ct163_ok e he)
  | 4, _ => exact of_decide_eq_true (List.all_eq_true.mp ct164_ok e he)
  | 5, _ => exact of_decide_eq_true (List.all_eq_true.mp ct165_ok e he)
  | 6, _ => exact of_decide_eq_true (List.all_eq_true.mp ct166_ok e he)
  | 7, _ => exact of_decide_eq_true (List.all_eq_true.mp ct167_ok e he)
  | 8, _ => exact of_decide_eq_true (List.all_eq_true.mp ct168_ok e he)
  | 9, _ => exact of_decide_eq_true (List.all_eq_true.mp ct169_ok e he)
  | 10, _ => exact of_decide_eq_true (List.all_eq_true.mp ct170_ok e he)
  | 11, _ => exact of_decide_eq_true (List.all_eq_true.mp ct171_ok e he)
  | 12, _ => exact of_decide_eq_true (List.all_eq_true.mp ct172_ok e he)
  | 13, _ => exact of_decide_eq_true (List.all_eq_true.mp ct173_ok e he)
  | 14, _ => exact of_decide_eq_true (List.all_eq_true.mp ct174_ok e he)
  | 15, _ => exact of_decide_eq_true (List.all_eq_true.mp ct175_ok e he)
theorem cC11_ok : ∀ r, r < 16 → ∀ e ∈ cC11.getD r [], decode (bt (16 * 11 + r)) e.1 = .ok (e.2.1, e.2.2) := by
  intro r hr e he
  match r, hr with
  | 0, _ => exact of_decide_eq_true (List.all_eq_true.mp ct176_ok e he)
  | 1, _ => exact of_decide_eq_true (List.all_eq_true.mp ct177_ok e he)
  | 2, _ => exact of_decide_eq_true (List.all_eq_true.mp ct178_ok e he)
  | 3, _ => exact of_decide_eq_true (List.all_eq_true.mp ct179_ok e he)
  | 4, _ => exact of_decide_eq_true (List.all_eq_true.mp ct180_ok e he)
  | 5, _ => exact of_decide_eq_true (List.all_eq_true.mp ct181_ok e he)
  | 6, _ => exact of_decide_eq_true (List.all_eq_true.mp ct182_ok e he)
  | 7, _ => exact of_decide_eq_true (List.all_eq_true.mp ct183_ok e he)
  | 8, _ => exact of_decide_eq_true (List.all_eq_true.mp ct184_ok e he)
  | 9, _ => exact of_decide_eq_true (List.all_eq_true.mp ct185_ok e he)
  | 10, _ => exact of_decide_eq_true (List.all_eq_true.mp ct186_ok e he)
  | 11, _ => exact of_decide_eq_true (List.all_eq_true.mp ct187_ok e he)
  | 12, _ => exact of_decide_eq_true (List.all_eq_true.mp ct188_ok e he)
  | 13, _ => exact of_decide_eq_true (List.all_eq_true.mp ct189_ok e he)
  | 14, _ => exact of_decide_eq_true (List.all_eq_true.mp ct190_ok e he)
  | 15, _ => exact of_decide_eq_true (List.all_eq_true.mp ct191_ok e he)
theorem cC12_ok : ∀ r, r < 16 → ∀ e ∈ cC12.getD r [], decode (bt (16 * 12 + r)) e.1 = .ok (e.2.1, e.2.2) := by
  intro r hr e he
  match r, hr with
  | 0, _ => exact of_decide_eq_true (List.all_eq_true.mp ct192_ok e he)
  | 1, _ => exact of_decide_eq_true (List.all_eq_true.mp ct193_ok e he)
  | 2, _ => exact of_decide_eq_true (List.all_eq_true.mp ct194_ok e he)
  | 3, _ => exact of_decide_eq_true (List.all_eq_true.mp ct195_ok e he)
  | 4, _ => exact of_decide_eq_true (List.all_eq_true.mp ct196_ok e he)
  | 5, _ => exact of_decide_eq_true (List.all_eq_true.mp ct197_ok e he)
  | 6, _ => exact of_decide_eq_true (List.all_eq_true.mp ct198_ok e he)
  | 7, _ => exact of_decide_eq_true (List.all_eq_true.mp ct199_ok e he)
  | 8, _ => exact of_decide_eq_true (List.all_eq_true.mp ct200_ok e he)
  | 9, _ => exact of_decide_eq_true (List.all_eq_true.mp ct201_ok e he)
  | 10, _ => exact of_decide_eq_true (List.all_eq_true.mp ct202_ok e he)
  | 11, _ => exact of_decide_eq_true (List.all_eq_true.mp ct203_ok e he)
  | 12, _ => exact of_decide_eq_true (List.all_eq_true.mp ct204_ok e he)
  | 13, _ => exact of_decide_eq_true (List.all_eq_true.mp ct205_ok e he)
  | 14, _ => exact of_decide_eq_true (List.all_eq_true.mp ct206_ok e he)
  | 15, _ => exact of_decide_eq_true (List.all_eq_true.mp ct207_ok e he)
theorem cC13_ok : ∀ r, r < 16 → ∀ e ∈ cC13.getD r [], decode (bt (16 * 13 + r)) e.1 = .ok (e.2.1, e.2.2) := by
  intro r hr e he
  match r, hr with
  | 0, _ => exact of_decide_eq_true (List.all_eq_true.mp ct208_ok e he)
  | 1, _ => exact of_decide_eq_true (List.all_eq_true.mp ct209_ok e he)
  | 2, _ => exact of_decide_eq_true (List.all_eq_true.mp ct210_ok e he)
  | 3, _ => exact of_decide_eq_true (List.all_eq_true.mp ct211_ok e he)
  | 4, _ => exact of_decide_eq_true (List.all_eq_true.mp ct212_ok e he)
  | 5, _ => exact of_decide_eq_true (List.all_eq_true.mp ct213_ok e he)
  | 6, _ => exact of_decide_eq_true (List.all_eq_true.mp ct214_ok e he)
  | 7, _ => exact of_decide_eq_true (List.all_eq_true.mp ct215_ok e he)
  | 8, _ => exact of_decide_eq_true (List.all_eq_true.mp ct216_ok e he)
  | 9, _ => exact of_decide_eq_true (List.all_eq_true.mp ct217_ok e he)
  | 10, _ => exact of_decide_eq_true (List.all_eq_true.mp ct218_ok e he)
  | 11, _ => exact of_decide_eq_true (List.all_eq_true.mp ct219_ok e he)
  | 12, _ => exact of_decide_eq_true (List.all_eq_true.mp ct220_ok e he)
  | 13, _ => exact of_decide_eq_true (List.all_eq_true.mp ct221_ok e he)
  | 14, _ => exact of_decide_eq_true (List.all_eq_true.mp ct222_ok e he)
  | 15, _ => exact of_decide_eq_true (List.all_eq_true.mp ct223_ok e he)
theorem cC14_ok : ∀ r, r < 16 → ∀ e ∈ cC14.getD r [], decode (bt (16 * 14 + r)) e.1 = .ok (e.2.1, e.2.2) := by
  intro r hr e he
  match r, hr with
  | 0, _ => exact of_decide_eq_true (List.all_eq_true.mp ct224_ok e he)
  | 1, _ => exact of_decide_eq_true (List.all_eq_true.mp ct225_ok e he)
  | 2, _ => exact of_decide_eq_true (List.all_eq_true.mp ct226_ok e he)
  | 3, _ => exact of_decide_eq_true (List.all_eq_true.mp ct227_ok e he)
  | 4, _ => exact of_decide_eq_true (List.all_eq_true.mp ct228_ok e he)
  | 5, _ => exact of_decide_eq_true (List.all_eq_true.mp ct229_ok e he)
  | 6, _ => exact of_decide_eq_true (List.all_eq_true.mp ct230_ok e he)
  | 7, _ => exact of_decide_eq_true (List.all_eq_true.mp ct231_ok e he)
  | 8, _ => exact of_decide_eq_true (List.all_eq_true.mp ct232_ok e he)
  | 9, _ => exact of_decide_eq_true (List.all_eq_true.mp ct233_ok e he)
  | 10, _ => exact of_decide_eq_true (List.all_eq_true.mp ct234_ok e he)
  | 11, _ => exact of_decide_eq_true (List.all_eq_true.mp ct235_ok e he)
  | 12, _ => exact of_decide_eq_true (List.all_eq_true.mp ct236_ok e he)
  | 13, _ => exact of_decide_eq_true (List.all_eq_true.mp ct237_ok e he)
  | 14, _ => exact of_decide_eq_true (List.all_eq_true.mp ct238_ok e he)
  | 15, _ => exact of_decide_eq_true (List.all_eq_true.mp ct239_ok e he)
theorem cC15_ok : ∀ r, r < 16 → ∀ e ∈ cC15.getD r [], decode (bt (16 * 15 + r)) e.1 = .ok (e.2.1, e.2.2) := by
  intro r hr e he
  match r, hr with
  | 0, _ => exact of_decide_eq_true (List.all_eq_true.mp ct240_ok e he)
  | 1, _ => exact of_decide_eq_true (List.all_eq_true.mp ct241_ok e he)
  | 2, _ => exact of_decide_eq_true (List.all_eq_true.mp ct242_ok e he)
  | 3, _ => exact of_decide_eq_true (List.all_eq_true.mp ct243_ok e he)
  | 4, _ => exact of_decide_eq_true (List.all_eq_true.mp ct244_ok e he)
  | 5, _ => exact of_decide_eq_true (List.all_eq_true.mp ct245_ok e he)
  | 6, _ => exact of_decide_eq_true (List.all_eq_true.mp ct246_ok e he)
  | 7, _ => exact of_decide_eq_true (List.all_eq_true.mp ct247_ok e he)
  | 8, _ => exact of_decide_eq_true (List.all_eq_true.mp ct248_ok e he)
  | 9, _ => exact of_decide_eq_true (List.all_eq_true.mp ct249_ok e he)
  | 10, _ => exact of_decide_eq_true (List.all_eq_true.mp ct250_ok e he)
  | 11, _ => exact of_decide_eq_true (List.all_eq_true.mp ct251_ok e he)
  | 12, _ => exact of_decide_eq_true (List.all_eq_true.mp ct252_ok e he)
  | 13, _ => exact of_decide_eq_true (List.all_eq_true.mp ct253_ok e he)
  | 14, _ => exact of_decide_eq_true (List.all_eq_true.mp ct254_ok e he)
  | 15, _ => exact of_decide_eq_true (List.all_eq_true.mp ct255_ok e he)
theorem cC16_ok : ∀ r, r < 16 → ∀ e ∈ cC16.getD r [], decode (bt (16 * 16 + r)) e.1 = .ok (e.2.1, e.2.2) := by
  intro r hr e he
  match r, hr with
  | 0, _ => exact of_decide_eq_true (List.all_eq_true.mp ct256_ok e he)
  | 1, _ => exact of_decide_eq_true (List.all_eq_true.mp ct257_ok e he)
  | 2, _ => exact of_decide_eq_true (List.all_eq_true.mp ct258_ok e he)
  | 3, _ => exact of_decide_eq_true (List.all_eq_true.mp ct259_ok e he)
  | 4, _ => exact of_decide_eq_true (List.all_eq_true.mp ct260_ok e he)
  | 5, _ => exact of_decide_eq_true (List.all_eq_true.mp ct261_ok e he)
  | 6, _ => exact of_decide_eq_true (List.all_eq_true.mp ct262_ok e he)
  | 7, _ => exact of_decide_eq_true (List.all_eq_true.mp ct263_ok e he)
  | 8, _ => exact of_decide_eq_true (List.all_eq_true.mp ct264_ok e he)
  | 9, _ => exact of_decide_eq_true (List.all_eq_true.mp ct265_ok e he)
  | 10, _ => exact of_decide_eq_true (List.all_eq_true.mp ct266_ok e he)
  | 11, _ => exact of_decide_eq_true (List.all_eq_true.mp ct267_ok e he)
  | 12, _ => exact of_decide_eq_true (List.all_eq_true.mp ct268_ok e he)
  | 13, _ => exact of_decide_eq_true (List.all_eq_true.mp ct269_ok e he)
  | 14, _ => exact of_decide_eq_true (List.all_eq_true.mp ct270_ok e he)
  | 15, _ => exact of_decide_eq_true (List.all_eq_true.mp ct271_ok e he)
theorem cC17_ok : ∀ r, r < 16 → ∀ e ∈ cC17.getD r [], decode (bt (16 * 17 + r)) e.1 = .ok (e.2.1, e.2.2) := by
  intro r hr e he
  match r, hr with
  | 0, _ => exact of_decide_eq_true (List.all_eq_true.mp ct272_ok e he)
  | 1, _ => exact of_decide_eq_true (List.all_eq_true.mp ct273_ok e he)
  | 2, _ => exact of_decide_eq_true (List.all_eq_true.mp ct274_ok e he)
  | 3, _ => exact of_decide_eq_true (List.all_eq_true.mp ct275_ok e he)
  | 4, _ => exact of_decide_eq_true (List.all_eq_true.mp ct276_ok e he)
  | 5, _ => exact of_decide_eq_true (List.all_eq_true.mp ct277_ok e he)
  | 6, _ => exact of_decide_eq_true (List.all_eq_true.mp ct278_ok e he)
  | 7, _ => exact of_decide_eq_true (List.all_eq_true.mp ct279_ok e he)
  | 8, _ => exact of_decide_eq_true (List.all_eq_true.mp ct280_ok e he)
  | 9, _ => exact of_decide_eq_true (List.all_eq_true.mp ct281_ok e he)
  | 10, _ => exact of_decide_eq_true (List.all_eq_true.mp ct282_ok e he)
  | 11, _ => exact of_decide_eq_true (List.all_eq_true.mp ct283_ok e he)
  | 12, _ => exact of_decide_eq_true (List.all_eq_true.mp ct284_ok e he)
  | 13, _ => exact of_decide_eq_true (List.all_eq_true.mp ct285_ok e he)
  | 14, _ => exact of_decide_eq_true (List.all_eq_true.mp ct286_ok e he)
  | 15, _ => exact of_decide_eq_true (List.all_eq_true.mp ct287_ok e he)
theorem cC18_ok : ∀ r, r < 16 → ∀ e ∈ cC18.getD r [], decode (bt (16 * 18 + r)) e.1 = .ok (e.2.1, e.2.2) := by
  intro r hr e he
  match r, hr with
  | 0, _ => exact of_decide_eq_true (List.all_eq_true.mp ct288_ok e he)
  | 1, _ => exact of_decide_eq_true (List.all_eq_true.mp ct289_ok e he)
  | 2, _ => exact of_decide_eq_true (List.all_eq_true.mp ct290_ok e he)
  | 3, _ => exact of_decide_eq_true (List.all_eq_true.mp ct291_ok e he)
  | 4, _ => exact of_decide_eq_true (List.all_eq_true.mp ct292_ok e he)
  | 5, _ => exact of_decide_eq_true (List.all_eq_true.mp ct293_ok e he)
  | 6, _ => exact of_decide_eq_true (List.all_eq_true.mp ct294_ok e he)
  | 7, _ => exact of_decide_eq_true (List.all_eq_true.mp ct295_ok e he)
  | 8, _ => exact of_decide_eq_true (List.all_eq_true.mp ct296_ok e he)
  | 9, _ => exact of_decide_eq_true (List.all_eq_true.mp ct297_ok e he)
  | 10, _ => exact of_decide_eq_true (List.all_eq_true.mp ct298_ok e he)
  | 11, _ => exact of_decide_eq_true (List.all_eq_true.mp ct299_ok e he)
  | 12, _ => exact of_decide_eq_true (List.all_eq_true.mp ct300_ok e he)
  | 13, _ => exact of_decide_eq_true (List.all_eq_true.mp ct301_ok e he)
  | 14, _ => exact of_decide_eq_true (List.all_eq_true.mp ct302_ok e he)
  | 15, _ => exact of_decide_eq_true (List.all_eq_true.mp ct303_ok e he)
theorem cC19_ok : ∀ r, r < 16 → ∀ e ∈ cC19.getD r [], decode (bt (16 * 19 + r)) e.1 = .ok (e.2.1, e.2.2) := by
  intro r hr e he
  match r, hr with
  | 0, _ => exact of_decide_eq_true (List.all_eq_true.mp ct304_ok e he)
  | 1, _ => exact of_decide_eq_true (List.all_eq_true.mp ct305_ok e he)
  | 2, _ => exact of_decide_eq_true (List.all_eq_true.mp ct306_ok e he)
  | 3, _ => exact of_decide_eq_true (List.all_eq_true.mp ct307_ok e he)
  | 4, _ => exact of_decide_eq_true (List.all_eq_true.mp ct308_ok e he)
  | 5, _ => exact of_decide_eq_true (List.all_eq_true.mp ct309_ok e he)
  | 6, _ => exact of_decide_eq_true (List.all_eq_true.mp ct310_ok e he)
  | 7, _ => exact of_decide_eq_true (List.all_eq_true.mp ct311_ok e he)
  | 8, _ => exact of_decide_eq_true (List.all_eq_true.mp ct312_ok e he)
  | 9, _ => exact of_decide_eq_true (List.all_eq_true.mp ct313_ok e he)
  | 10, _ => exact of_decide_eq_true (List.all_eq_true.mp ct314_ok e he)
  | 11, _ => exact of_decide_eq_true (List.all_eq_true.mp ct315_ok e he)
  | 12, _ => exact of_decide_eq_true (List.all_eq_true.mp ct316_ok e he)
  | 13, _ => exact of_decide_eq_true (List.all_eq_true.mp ct317_ok e he)
  | 14, _ => exact of_decide_eq_true (List.all_eq_true.mp ct318_ok e he)
  | 15, _ => exact of_decide_eq_true (List.all_eq_true.mp ct319_ok e he)
theorem cC20_ok : ∀ r, r < 16 → ∀ e ∈ cC20.getD r [], decode (bt (16 * 20 + r)) e.1 = .ok (e.2.1, e.2.2) := by
  intro r hr e he
  match r, hr with
  | 0, _ => exact of_decide_eq_true (List.all_eq_true.mp ct320_ok e he)
  | 1, _ => exact of_decide_eq_true (List.all_eq_true.mp ct321_ok e he)
  | 2, _ => exact of_decide_eq_true (List.all_eq_true.mp ct322_ok e he)
  | 3, _ => exact of_decide_eq_true (List.all_eq_true.mp ct323_ok e he)
  | 4, _ => exact of_decide_eq_true (List.all_eq_true.mp ct324_ok e he)
  | 5, _ => exact of_decide_eq_true (List.all_eq_true.mp ct325_ok e he)
  | 6, _ => cases he
  | 7, _ => cases he
  | 8, _ => cases he
  | 9, _ => cases he
  | 10, _ => cases he
  | 11, _ => cases he
  | 12, _ => cases he
  | 13, _ => cases he
  | 14, _ => cases he
  | 15, _ => cases he
theorem cCC_ok (i : Nat) : ∀ e ∈ cL i, decode (bt i) e.1 = .ok (e.2.1, e.2.2) := by
  intro e he
  have hi : i = 16 * (i / 16) + i % 16 := (Nat.div_add_mod i 16).symm
  have hr : i % 16 < 16 := Nat.mod_lt _ (by decide)
  unfold cL at he
  generalize i / 16 = a at he hi
  generalize i % 16 = r at he hi hr
  subst hi
  match a, he with
  | 0, he => exact cC0_ok r hr e he
  | 1, he => exact cC1_ok r hr e he
  | 2, he => exact cC2_ok r hr e he
  | 3, he => exact cC3_ok r hr e he
  | 4, he => exact cC4_ok r hr e he
  | 5, he => exact cC5_ok r hr e he
  | 6, he => exact cC6_ok r hr e he
  | 7, he => exact cC7_ok r hr e he
  | 8, he => exact cC8_ok r hr e he
  | 9, he => exact cC9_ok r hr e he
  | 10, he => exact cC10_ok r hr e he
  | 11, he => exact cC11_ok r hr e he
  | 12, he => exact cC12_ok r hr e he
  | 13, he => exact cC13_ok r hr e he
  | 14, he => exact cC14_ok r hr e he
  | 15, he => exact cC15_ok r hr e he
  | 16, he => exact cC16_ok r hr e he
  | 17, he => exact cC17_ok r hr e he
  | 18, he => exact cC18_ok r hr e he
  | 19, he => exact cC19_ok r hr e he
  | 20, he => exact cC20_ok r hr e he
  | n + 21, he => exact absurd he (by simp [cCC])
theorem cd_ok {i pc len : Nat} {ins : Instr} (h : cd i pc = some (ins, len)) : decode (bt i) pc = .ok (ins, len) := by
  unfold cd at h
  cases hf : (cL i).find? (fun e => e.1 == pc) with
  | none => rw [hf] at h; cases h
  | some q =>
    rw [hf] at h
    have e : q.2 = (ins, len) := Option.some.inj h
    have h1 := List.find?_some hf
    have h2 := cCC_ok i q (List.mem_of_find?_eq_some hf)
    simp only [beq_iff_eq] at h1
    rw [h1, e] at h2
    exact h2
