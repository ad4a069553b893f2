/-! ===== soundness: arrays of arrays, calls, returns, the whole machine ===== -/
section MUL
variable {p : Program} {l : Launch} {e : Env} {R : Room} {s : State} {m : MethodId} {args : Array Value} {below : List Frame} {meth : Method} {c : Code} {Qm : State → Prop}
variable {base : Nat} {H0 : Heap} {sp : Nat → Nat} {D : va_G} {cA : Nat → ClassId} {SL : Nat} {xs : Nat → Int32} {cc : ByteArray} {own : String}
theorem ab_so_multi (B : ab_Bd p s m args c base H0 sp D cA SL xs cc own) {run : ab_Run} {bud : Nat → Nat × Nat} {mc ms rt pc ln r1 r2 : Nat} {rs : List Nat} {L : ab_L} {st : List ab_V} {ce sl : Nat} {g : ab_G} {I : ab_I} {J : ab_J} {Q : ab_Q} {i k0 : Nat} (hd : decode cc pc = .ok (.multianewarray i k0, ln)) (hln : ln = 4) (hrc : mc ≤ R.cells) (hrs : ms ≤ R.slots) (hk0 : k0 = 2) (h56 : r1 = 5 ∧ r2 = 1 ∨ r1 = 6 ∧ r2 = 2) (hw : ab_wd (rs.getD 1 0) (.classLink own i (if r1 = 5 then "[[I" else "[[J")) = true)
    (h : ab_st run bud mc ms rt (pc, .multianewarray i k0, ln, r1, r2, rs) L st ce sl g I J Q (ab_Pk p l e R s m args below meth c base H0 sp D cA SL xs Qm)) : ab_Pk p l e R s m args below meth c base H0 sp D cA SL xs Qm pc L st ce sl g I J := by
  subst hln
  subst hk0
  have hlink := ab_wd_use B hw
  obtain ⟨x, y, r, rfl, x0, y0, x1, y1, hb1, hb2, hk⟩ := ab_2i_e h
  intro hL H locs ls hR hl hq
  have hsz : H.size = base + (ab_n g - 29) := hR.2.1
  have h32 := hR.1
  have e0 : ab_cv base sp (vR (some (ab_n g))) = .ref H.size := by show Value.ref (ab_ad base sp (ab_n g)) = _; rw [ab_ad_own hR.1, hsz]
  have go : ∀ (ty : FieldType) (dv : Value), ab_aty r1 = .array ty → ab_aty r2 = ty → defaultValue ty = dv → fits ty dv = true → dv.isDefault = true → componentBytes ty ≤ 8 → (Cond.classLink own i ("[" ++ (FieldType.array ty).toString)).before args s = true → (Cond.arrayOver (.array ty)).before #[] s = true → s.vm.findClass (FieldType.array ty).toString = some (cA r2) → s.vm.findClass ("[" ++ (FieldType.array ty).toString) = some (cA r1) →
      (∀ (k j : Nat), ab_n g + 1 ≤ k → k < ab_n g + 1 + x.toNatClampNeg → (r2 = 1 → dv = .int (ab_z I (ab_n g) (ab_n g + 1 + x.toNatClampNeg) 0 k j)) ∧ (r2 = 2 → dv = .long (ab_z J (ab_n g) (ab_n g + 1 + x.toNatClampNeg) 0 k j))) →
      W p l e R s m args below meth c H locs ce sl Qm (F0 m pc ls (.int y :: .int x :: r.map (ab_cv base sp))) := by
    intro ty dv hA1 hA2 hdv hf1 hf2 hcb hcl hov hc2 hc1 hval
    subst hdv
    obtain ⟨comp, c5, k5, q1, -, q3, q4, q5⟩ := arrayOverA_spec hov
    have hcomp : comp = cA r2 := Option.some.inj (q1.symm.trans hc2)
    have hc5 : c5 = cA r1 := Option.some.inj (q5.symm.trans hc1)
    subst hcomp
    subst hc5
    obtain ⟨-, kC, hkC, cc2, hkindC⟩ := ab_arrOf (cA := cA) B.2.2.2.2.1 (t := r2) (by omega) (by omega) 0 (fun _ => .null)
    rw [hA2] at hkindC
    intro T hT X
    obtain ⟨vm₁, X1, step⟩ := mu_step X B.1 B.2.2.1 hcl q5 q3 q4 hkC hkindC (g := F0 m pc ls (.int y :: .int x :: r.map (ab_cv base sp))) rfl (by rw [B.2.1]; exact hd) rfl x0 y0 (by omega)
      (Nat.le_trans (Nat.mul_le_mul_left _ hcb) (by omega)) (by omega) hf1 hf2 (by omega) (by omega)
    obtain ⟨f1, f2, -, -, f5, f6⟩ := mu_st_facts (T.setVm vm₁) (cA r1) (cA r2) x.toNatClampNeg y.toNatClampNeg (defaultValue ty) x.toNatClampNeg
    have hTs : (T.setVm vm₁).heap = H := hT
    rw [hTs] at f1 f2 f5 f6
    have hTs2 : T.heap.size = H.size := by rw [hT]
    have h9 := hk hL (mu_st (T.setVm vm₁) (cA r1) (cA r2) x.toNatClampNeg y.toNatClampNeg (defaultValue ty) x.toNatClampNeg).heap (locs ++ (List.range x.toNatClampNeg).map fun j => ⟨T.heap.size, j⟩) ls (hR.grow (n := 1 + x.toNatClampNeg) (by show g.1 + 1 + x.toNatClampNeg = g.1 + (1 + x.toNatClampNeg); omega) (fun k hk2 => ?_) (fun k hk2 => ?_) (fun k j hk2 => ?_) (fun k j hk2 => ab_z_out (by omega)) (fun k j hk2 => ab_z_out (by omega)) (by omega) f5 (fun k k1 k2 => ?_)) hl (fun q hq2 => ?_)
    · simp only [List.map_cons, e0] at h9
      obtain ⟨t, a1, b1⟩ := h9 _ rfl X1
      rw [hTs2] at step
      exact ⟨t, step t a1, b1⟩
    · show (if k = g.1 then r1 else if g.1 < k ∧ k < g.1 + 1 + x.toNatClampNeg then r2 else g.2.1 k) = g.2.1 k
      unfold ab_n at hk2
      rw [if_neg (by omega), if_neg (by omega)]
    · show (if k = g.1 then x.toNatClampNeg else if g.1 < k ∧ k < g.1 + 1 + x.toNatClampNeg then y.toNatClampNeg else g.2.2.1 k) = g.2.2.1 k
      unfold ab_n at hk2
      rw [if_neg (by omega), if_neg (by omega)]
    · show (if k = g.1 then (if j < x.toNatClampNeg then some (g.1 + 1 + j) else none) else if g.1 < k ∧ k < g.1 + 1 + x.toNatClampNeg then none else g.2.2.2 k j) = g.2.2.2 k j
      unfold ab_n at hk2
      rw [if_neg (by omega), if_neg (by omega)]
    · by_cases ek : k = ab_n g
      · subst ek
        have ety : ab_ty (ab_mk2 g r1 r2 x.toNatClampNeg y.toNatClampNeg) (ab_n g) = r1 := by show (if g.1 = g.1 then r1 else _) = r1; rw [if_pos rfl]
        have eln : ab_ln (ab_mk2 g r1 r2 x.toNatClampNeg y.toNatClampNeg) (ab_n g) = x.toNatClampNeg := by show (if g.1 = g.1 then x.toNatClampNeg else _) = _; rw [if_pos rfl]
        unfold ab_cell
        rw [ety, eln]
        refine ⟨fun z => by omega, fun z => by omega, fun _ _ => ?_, fun c0 hc z => by omega, Or.inl (by omega)⟩
        rw [← hsz, f2]
        unfold mu_out
        congr 2
        funext j
        have eR : ab_R (ab_mk2 g r1 r2 x.toNatClampNeg y.toNatClampNeg) (ab_n g) j = if j < x.toNatClampNeg then some (ab_n g + 1 + j) else none := by show (if g.1 = g.1 then (if j < x.toNatClampNeg then some (g.1 + 1 + j) else none) else _) = _; rw [if_pos rfl]; rfl
        rw [eR]
        by_cases hj : j < x.toNatClampNeg
        · have e7 : H.size + 1 + j = base + (ab_n g + 1 + j - 29) := by omega
          rw [if_pos hj, if_pos hj, ab_rf_some, ab_ad_own (show 29 ≤ ab_n g + 1 + j by omega), ← e7]
        · rw [if_neg hj, if_neg hj, ab_rf_none]
      · have ety : ab_ty (ab_mk2 g r1 r2 x.toNatClampNeg y.toNatClampNeg) k = r2 := by
          show (if k = g.1 then r1 else if g.1 < k ∧ k < g.1 + 1 + x.toNatClampNeg then r2 else _) = r2
          unfold ab_n at k1 k2 ek
          rw [if_neg ek, if_pos (by omega)]
        have eln : ab_ln (ab_mk2 g r1 r2 x.toNatClampNeg y.toNatClampNeg) k = y.toNatClampNeg := by
          show (if k = g.1 then x.toNatClampNeg else if g.1 < k ∧ k < g.1 + 1 + x.toNatClampNeg then y.toNatClampNeg else _) = _
          unfold ab_n at k1 k2 ek
          rw [if_neg ek, if_pos (by omega)]
        have hcell : (mu_st (T.setVm vm₁) (cA r1) (cA r2) x.toNatClampNeg y.toNatClampNeg (defaultValue ty) x.toNatClampNeg).heap[base + (k - 29)]? = some (arrV (cA r2) y.toNatClampNeg (fun _ => defaultValue ty)) := by
          have h8 := f6 (k - (ab_n g + 1)) (by omega)
          rw [show H.size + 1 + (k - (ab_n g + 1)) = base + (k - 29) by omega] at h8
          rw [h8]
          unfold mu_in
          rw [arrV_new]
        unfold ab_cell
        rw [ety, eln]
        refine ⟨fun z => ?_, fun z => ?_, fun z _ => by omega, fun c0 hc z => by omega, Or.inl (by omega)⟩
        · subst z
          rw [hcell]
          congr 2
          funext j
          exact (hval k j (by omega) (by omega)).1 rfl
        · subst z
          rw [hcell]
          congr 2
          funext j
          exact (hval k j (by omega) (by omega)).2 rfl
    · rcases List.mem_append.mp hq2 with h8 | h8
      · exact hq q h8
      · obtain ⟨z, -, hz⟩ := List.mem_map.mp h8
        rw [← hz]
        show base ≤ T.heap.size
        omega
  have ra : ∀ t, 1 ≤ t → t ≤ 6 → va_RA s (cA t) (ab_aty t) := fun t h1 h2 => (B.2.2.2.2.1.2 (t - 1) _ (ab_tys_at (cA := cA) h1 h2)).2
  rcases h56 with ⟨rfl, rfl⟩ | ⟨rfl, rfl⟩
  · refine go .int (.int 0) rfl rfl rfl rfl rfl (by decide) hlink B.2.2.2.2.2.2.2.2.1 (ra 1 (by decide) (by decide)) (ra 5 (by decide) (by decide)) (fun k j k1 k2 => ⟨fun _ => ?_, fun z => by omega⟩)
    rw [ab_z_in (by omega)]
  · refine go .long (.long 0) rfl rfl rfl rfl rfl (by decide) hlink B.2.2.2.2.2.2.2.2.2.1 (ra 2 (by decide) (by decide)) (ra 6 (by decide) (by decide)) (fun k j k1 k2 => ⟨fun z => by omega, fun _ => ?_⟩)
    rw [ab_z_in (by omega)]
end MUL
/-! the methods' own words: kind (0 static, 1 of an object, 2 a constructor), arity, where the words stand -/
def ab_mp : List (Nat × Nat × Nat × Nat × Nat × Nat) := [
  (2, 0, 26, 25, 1, 0), (2, 0, 34, 33, 2, 0), (2, 0, 88, 87, 3, 0), (2, 1, 104, 103, 4, 0), (2, 0, 133, 132, 5, 0), (2, 0, 173, 172, 6, 0), (2, 0, 186, 185, 7, 0), (2, 0, 218, 217, 8, 0),
  (2, 0, 253, 252, 9, 0), (1, 2, 308, 306, 1, 382), (0, 1, 311, 310, 1, 0), (0, 3, 314, 313, 1, 0), (1, 1, 318, 317, 1, 0), (1, 2, 323, 321, 1, 397), (1, 2, 327, 325, 1, 401), (1, 1, 331, 329, 3, 405),
  (1, 0, 335, 333, 1, 409), (1, 0, 339, 337, 3, 413), (1, 0, 343, 341, 1, 417), (1, 0, 347, 345, 4, 421), (1, 0, 351, 350, 4, 1), (1, 0, 355, 354, 4, 2), (0, 1, 358, 357, 4, 0), (1, 0, 362, 361, 4, 3),
  (1, 0, 366, 365, 4, 4), (1, 1, 371, 370, 4, 5), (1, 0, 375, 373, 11, 449), (1, 0, 379, 377, 11, 453), (1, 1, 385, 383, 11, 459), (1, 0, 389, 387, 11, 463), (0, 2, 392, 391, 12, 0), (0, 2, 395, 394, 11, 0),
  (0, 3, 400, 399, 13, 0), (0, 1, 424, 423, 4, 0), (1, 0, 428, 427, 4, 6), (0, 2, 431, 430, 15, 0), (1, 1, 436, 434, 11, 510), (1, 2, 440, 438, 11, 514), (0, 4, 444, 443, 12, 0), (0, 1, 447, 446, 12, 0),
  (0, 2, 450, 449, 15, 0), (0, 4, 454, 453, 12, 0), (1, 1, 493, 492, 4, 7), (1, 0, 497, 496, 4, 8), (1, 1, 501, 500, 4, 9), (1, 1, 505, 504, 4, 10), (1, 1, 509, 508, 4, 11), (1, 1, 513, 512, 4, 12),
  (1, 1, 517, 516, 4, 13), (0, 2, 522, 521, 18, 0), (2, 1, 536, 535, 17, 0), (2, 2, 547, 546, 20, 0), (1, 2, 561, 559, 1, 635), (1, 1, 565, 563, 2, 639), (1, 1, 569, 567, 5, 643), (0, 2, 572, 571, 1, 0),
  (1, 2, 576, 575, 5, 14), (1, 1, 580, 579, 5, 15), (1, 2, 584, 582, 17, 658), (0, 2, 587, 586, 17, 0), (0, 2, 693, 692, 1, 0), (0, 2, 766, 765, 1, 0), (0, 3, 590, 589, 17, 0), (0, 3, 593, 592, 1, 0),
  (1, 2, 599, 597, 5, 673), (1, 3, 605, 603, 1, 679), (0, 3, 608, 607, 1, 0), (1, 4, 612, 610, 8, 686), (1, 2, 616, 615, 8, 16), (1, 1, 620, 618, 2, 694), (1, 2, 624, 622, 1, 698), (1, 1, 628, 626, 2, 702),
  (1, 3, 632, 630, 8, 706), (1, 0, 636, 634, 1, 710), (1, 0, 640, 638, 4, 714), (1, 2, 644, 642, 8, 718), (1, 2, 650, 648, 1, 724), (1, 1, 654, 652, 8, 728), (1, 1, 658, 656, 8, 732), (1, 1, 662, 660, 8, 736),
  (1, 2, 666, 664, 1, 740), (1, 4, 671, 669, 1, 745), (0, 1, 674, 673, 1, 0), (1, 2, 679, 677, 1, 753), (1, 3, 686, 684, 1, 760), (1, 4, 690, 688, 6, 764), (1, 6, 698, 697, 6, 17), (1, 3, 702, 700, 8, 776),
  (1, 3, 706, 704, 8, 780), (1, 1, 712, 711, 1, 18), (1, 2, 716, 715, 1, 19), (0, 2, 719, 718, 1, 0), (1, 2, 723, 721, 2, 797), (1, 2, 728, 726, 5, 802), (1, 1, 733, 731, 1, 807), (1, 2, 737, 735, 5, 811),
  (1, 0, 745, 743, 1, 819), (1, 0, 749, 747, 2, 823), (1, 1, 753, 751, 5, 827), (1, 1, 759, 757, 1, 833), (0, 1, 762, 761, 1, 0), (1, 3, 770, 768, 1, 844), (1, 3, 774, 773, 1, 20), (0, 4, 778, 777, 1, 0),
  (1, 3, 782, 781, 1, 21), (1, 2, 786, 784, 1, 860), (1, 1, 790, 789, 1, 22), (1, 3, 794, 792, 6, 868), (1, 4, 799, 797, 7, 873), (0, 2, 802, 801, 18, 0), (1, 3, 807, 806, 7, 23), (1, 3, 813, 812, 7, 24),
  (1, 2, 817, 816, 7, 25), (0, 2, 820, 819, 15, 0), (1, 2, 824, 822, 1, 898), (1, 3, 828, 827, 1, 26), (1, 2, 832, 830, 1, 906), (1, 2, 836, 835, 1, 27), (1, 2, 840, 838, 1, 914), (1, 1, 844, 842, 1, 918),
  (1, 1, 848, 846, 1, 922), (1, 2, 852, 850, 1, 926), (1, 2, 856, 855, 1, 28), (1, 5, 860, 859, 1, 29), (1, 2, 864, 862, 1, 938), (1, 1, 868, 866, 1, 942), (1, 1, 872, 870, 7, 946), (1, 1, 876, 874, 1, 950),
  (1, 3, 880, 878, 1, 954), (1, 2, 888, 886, 1, 962), (1, 1, 892, 891, 1, 30), (0, 2, 895, 894, 21, 0), (1, 2, 899, 897, 1, 973), (1, 2, 903, 901, 1, 977), (0, 1, 906, 905, 1, 0), (1, 1, 910, 908, 2, 984),
  (0, 2, 913, 912, 1, 0), (1, 3, 918, 916, 1, 992), (1, 3, 922, 920, 1, 996), (0, 1, 925, 924, 1, 0), (1, 2, 929, 927, 9, 1003), (1, 3, 934, 932, 1, 1008), (1, 0, 938, 936, 9, 1012), (1, 1, 942, 940, 9, 1016),
  (1, 5, 946, 944, 1, 1020), (1, 2, 950, 948, 9, 1024), (1, 2, 955, 953, 1, 1029), (1, 0, 959, 957, 1, 1033), (1, 1, 963, 961, 2, 1037), (1, 0, 968, 966, 1, 1042), (1, 0, 972, 970, 1, 1046), (1, 1, 976, 974, 1, 1050),
  (1, 1, 980, 978, 1, 1054), (2, 0, 985, 984, 10, 0), (1, 0, 1117, 1115, 10, 1191), (0, 2, 1120, 1119, 10, 0), (1, 0, 1124, 1122, 10, 1198), (1, 1, 1128, 1127, 10, 31), (1, 0, 1133, 1131, 10, 1207), (1, 1, 1137, 1135, 10, 1211),
  (0, 3, 1140, 1139, 10, 0), (1, 1, 1144, 1142, 10, 1218), (1, 2, 1148, 1146, 10, 1222), (1, 2, 1152, 1150, 10, 1226), (1, 2, 1156, 1154, 10, 1230), (1, 0, 1160, 1158, 10, 1234), (1, 0, 1164, 1162, 10, 1238), (1, 0, 1168, 1167, 10, 29),
  (1, 0, 1172, 1171, 10, 33), (0, 1, 1175, 1174, 10, 0), (0, 1, 1178, 1177, 10, 0), (0, 1, 1181, 1180, 10, 0), (0, 4, 1184, 1183, 10, 0), (1, 1, 1188, 1187, 10, 34), (1, 0, 1192, 1191, 10, 35), (1, 0, 1196, 1195, 10, 36),
  (1, 1, 1200, 1199, 10, 37), (1, 0, 1204, 1203, 10, 38), (1, 0, 1208, 1207, 10, 39), (1, 0, 1212, 1211, 10, 40), (1, 0, 1216, 1215, 10, 41), (1, 1, 1220, 1219, 10, 42), (1, 1, 1224, 1223, 10, 43), (0, 1, 1227, 1226, 10, 0),
  (1, 0, 1231, 1229, 10, 1305), (1, 4, 1235, 1234, 10, 44), (1, 2, 1239, 1237, 10, 1313), (1, 1, 1243, 1242, 10, 45), (0, 1, 1246, 1245, 10, 0), (1, 2, 1250, 1249, 10, 46), (1, 1, 1254, 1253, 10, 47), (1, 5, 1258, 1257, 10, 48),
  (0, 3, 1261, 1260, 10, 0), (0, 2, 1264, 1263, 10, 0), (1, 1, 1268, 1267, 10, 49), (1, 3, 1272, 1270, 10, 1346), (1, 2, 1276, 1274, 10, 1350), (1, 1, 1280, 1279, 10, 50), (1, 2, 1284, 1282, 10, 1358), (1, 2, 1288, 1287, 10, 51),
  (1, 2, 1292, 1290, 10, 1366), (1, 4, 1296, 1294, 10, 1370), (1, 3, 1300, 1299, 10, 52), (1, 3, 1304, 1303, 10, 53), (1, 2, 1308, 1306, 10, 1382), (0, 1, 1311, 1310, 10, 0), (1, 3, 1315, 1313, 10, 1389), (1, 1, 1319, 1318, 10, 54),
  (1, 3, 1323, 1322, 10, 55), (1, 3, 1328, 1327, 10, 56), (0, 2, 1332, 1331, 15, 0), (1, 1, 1336, 1334, 10, 1410), (1, 3, 1340, 1339, 10, 57), (1, 0, 1345, 1343, 10, 1419), (1, 0, 1349, 1348, 10, 58), (1, 0, 1353, 1352, 10, 59),
  (1, 1, 1357, 1356, 10, 60), (1, 1, 1361, 1360, 10, 61), (1, 2, 1365, 1364, 10, 62), (1, 1, 1369, 1367, 10, 1443), (0, 1, 1372, 1371, 10, 0), (1, 3, 1376, 1374, 10, 1450), (1, 1, 1380, 1379, 10, 63), (1, 1, 1384, 1383, 10, 64),
  (1, 2, 1388, 1387, 10, 65), (1, 2, 1392, 1390, 10, 1466), (1, 1, 1396, 1395, 10, 66), (1, 1, 1400, 1399, 10, 67), (1, 2, 1404, 1403, 10, 68), (1, 2, 1408, 1406, 10, 1482), (1, 2, 1412, 1410, 10, 1486), (1, 2, 1416, 1415, 10, 69),
  (1, 2, 1420, 1418, 10, 1494), (1, 1, 1424, 1422, 10, 1498), (1, 1, 1428, 1427, 10, 70), (1, 1, 1433, 1431, 10, 1507), (1, 2, 1437, 1435, 10, 1511), (1, 2, 1441, 1440, 10, 71), (1, 2, 1445, 1443, 10, 1519), (1, 1, 1449, 1447, 10, 1523),
  (1, 1, 1453, 1452, 10, 72), (1, 1, 1457, 1455, 10, 1531), (1, 3, 1461, 1459, 10, 1535), (1, 2, 1466, 1464, 10, 1540), (1, 3, 1470, 1469, 10, 73), (1, 2, 1474, 1472, 10, 1548), (1, 2, 1478, 1476, 10, 1552), (1, 1, 1482, 1481, 10, 74),
  (1, 3, 1486, 1484, 10, 1560), (1, 3, 1490, 1488, 10, 1564), (0, 1, 1493, 1492, 10, 0), (1, 3, 1497, 1495, 10, 1571), (0, 2, 1500, 1499, 10, 0), (1, 5, 1504, 1502, 10, 1578), (0, 3, 1507, 1506, 10, 0), (1, 2, 1511, 1509, 10, 1585),
  (9, 1, 0, 0, 0, 0)]
def ab_mpN (N : Nat) : Nat × Nat × Nat × Nat × Nat × Nat := ab_mp.getD N (9, 0, 0, 0, 0, 0)
def ab_mok (N : Nat) : Bool :=
  (decide ((ab_meth N).2.2.1 ≤ 45) && (plainName (ab_yN N).cls && (decide ((ab_yN N).cls ≠ "java/lang/invoke/MethodHandle") && (decide ((ab_yN N).cls ≠ "java/lang/invoke/VarHandle") &&
  (decide ((parseMethodDescriptor (ab_yN N).desc).map (fun d => d.parameters.length) = some (ab_mpN N).2.1) && (decide (tables_1[(ab_mpN N).2.2.2.2.1]? = some (.initialized (ab_yN N).cls)) &&
  (match (ab_mpN N).1 with
    | 0 => decide (tables_1[(ab_mpN N).2.2.2.1]? = some (.static (ab_yN N)))
    | 1 => decide (tables_1[(ab_mpN N).2.2.2.1]? = some (.instanceMethod (ab_yN N))) && decide (lw_tbl[(ab_mpN N).2.2.2.2.2]? = some (.selects (ab_yN N).cls (ab_yN N) (ab_yN N)))
    | _ => decide (tables_1[(ab_mpN N).2.2.2.1]? = some (.instanceMethod (ab_yN N))) && (decide ((ab_yN N).name = "<init>") && decide ((ab_meth N).2.2.2.1 = none)))))))))
/-- a method's code, as the tables have it -/
def ab_hasC (N : Nat) : Prop := tables_1[(ab_mpN N).2.2.1]? = some (.code (ab_yN N) (ab_meth N).2.1 (ab_meth N).2.2.1 (ab_meth N).2.2.2.1)
