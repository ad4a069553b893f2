/-! ===== soundness: arrays of arrays, calls, returns, the whole machine ===== -/
section MUL
variable {p : Program} {l : Launch} {e : Env} {R : Room} {s : State} {m : MethodId} {args : Array Value} {below : List Frame} {meth : Method} {c : Code} {Qm : State → Prop}
variable {base : Nat} {H0 : Heap} {sp : Nat → Nat} {D : va_G} {cA : Nat → ClassId} {SL : Nat} {xs : Nat → Int32} {cc : ByteArray} {own : String}
theorem ab_so_multi (B : ab_Bd p s m args c base H0 sp D cA SL xs cc own) {run : ab_Run} {bud : Nat → Nat × Nat} {mc ms rt pc ln r1 r2 : Nat} {rs : List Nat} {L : ab_L} {st : List ab_V} {ce sl : Nat} {g : ab_G} {I : ab_I} {J : ab_J} {Q : ab_Q} {i k0 : Nat} (hd : decode cc pc = .ok (.multianewarray i k0, ln)) (hln : ln = 4) (hrc : mc ≤ R.cells) (hrs : ms ≤ R.slots) (hk0 : k0 = 2) (h56 : r1 = 5 ∧ r2 = 1 ∨ r1 = 6 ∧ r2 = 2) (hw : ab_wd (rs.getD 1 0) (.classLink own i (if r1 = 5 then "[[I" else "[[J")) = true)
    (h : ab_st run bud mc ms rt (pc, .multianewarray i k0, ln, r1, r2, rs) L st ce sl g I J Q (ab_Pk p l e R s m args below meth c base H0 sp D cA SL xs Qm)) : ab_Pk p l e R s m args below meth c base H0 sp D cA SL xs Qm pc L st ce sl g I J := by
  subst hln
  subst hk0
  have hlink := ab_wd_use B hw
  obtain ⟨x, y, r, rfl, x0, y0, x1, y1, hb1, hb2, hk⟩ := ab_2i_e h
  intro hL H locs ls hR hl hq
  have hsz : H.size = base + (ab_n g - 32) := hR.2.1
  have h32 := hR.1
  have e0 : ab_cv base sp (vR (some (ab_n g))) = .ref H.size := by show Value.ref (ab_ad base sp (ab_n g)) = _; rw [ab_ad_own hR.1, hsz]
  have go : ∀ (ty : FieldType) (dv : Value), ab_aty r1 = .array ty → ab_aty r2 = ty → defaultValue ty = dv → fits ty dv = true → dv.isDefault = true → componentBytes ty ≤ 8 → (Cond.classLink own i ("[" ++ (FieldType.array ty).toString)).before args s = true → (Cond.arrayOver (.array ty)).before #[] s = true → s.vm.findClass (FieldType.array ty).toString = some (cA r2) → s.vm.findClass ("[" ++ (FieldType.array ty).toString) = some (cA r1) →
      (∀ (k j : Nat), ab_n g + 1 ≤ k → k < ab_n g + 1 + x.toNatClampNeg → (r2 = 1 → dv = .int (ab_z I (ab_n g) (ab_n g + 1 + x.toNatClampNeg) 0 k j)) ∧ (r2 = 2 → dv = .long (ab_z J (ab_n g) (ab_n g + 1 + x.toNatClampNeg) 0 k j))) →
      W p l e R s m args below meth c H locs ce sl Qm (F0 m pc ls (.int y :: .int x :: r.map (ab_cv base sp))) := by
    intro ty dv hA1 hA2 hdv hf1 hf2 hcb hcl hov hc2 hc1 hval
    subst hdv
    obtain ⟨comp, c5, k5, q1, -, q3, q4, q5⟩ := arrayOverA_spec hov
    have hcomp : comp = cA r2 := Option.some.inj (q1.symm.trans hc2)
    have hc5 : c5 = cA r1 := Option.some.inj (q5.symm.trans hc1)
    subst hcomp
    subst hc5
    obtain ⟨-, kC, hkC, cc2, hkindC⟩ := ab_arrOf (cA := cA) B.2.2.2.2.1 (t := r2) (by omega) (by omega) 0 (fun _ => .null)
    rw [hA2] at hkindC
    intro T hT X
    obtain ⟨vm₁, X1, step⟩ := mu_step X B.1 B.2.2.1 hcl q5 q3 q4 hkC hkindC (g := F0 m pc ls (.int y :: .int x :: r.map (ab_cv base sp))) rfl (by rw [B.2.1]; exact hd) rfl x0 y0 (by omega)
      (Nat.le_trans (Nat.mul_le_mul_left _ hcb) (by omega)) (by omega) hf1 hf2 (by omega) (by omega)
    obtain ⟨f1, f2, -, -, f5, f6⟩ := mu_st_facts (T.setVm vm₁) (cA r1) (cA r2) x.toNatClampNeg y.toNatClampNeg (defaultValue ty) x.toNatClampNeg
    have hTs : (T.setVm vm₁).heap = H := hT
    rw [hTs] at f1 f2 f5 f6
    have hTs2 : T.heap.size = H.size := by rw [hT]
    have h9 := hk hL (mu_st (T.setVm vm₁) (cA r1) (cA r2) x.toNatClampNeg y.toNatClampNeg (defaultValue ty) x.toNatClampNeg).heap (locs ++ (List.range x.toNatClampNeg).map fun j => ⟨T.heap.size, j⟩) ls (hR.grow (n := 1 + x.toNatClampNeg) (by show g.1 + 1 + x.toNatClampNeg = g.1 + (1 + x.toNatClampNeg); omega) (fun k hk2 => ?_) (fun k hk2 => ?_) (fun k j hk2 => ?_) (fun k j hk2 => ab_z_out (by omega)) (fun k j hk2 => ab_z_out (by omega)) (by omega) f5 (fun k k1 k2 => ?_)) hl (fun q hq2 => ?_)
    · simp only [List.map_cons, e0] at h9
      obtain ⟨t, a1, b1⟩ := h9 _ rfl X1
      rw [hTs2] at step
      exact ⟨t, step t a1, b1⟩
    · show (if k = g.1 then r1 else if g.1 < k ∧ k < g.1 + 1 + x.toNatClampNeg then r2 else g.2.1 k) = g.2.1 k
      unfold ab_n at hk2
      rw [if_neg (by omega), if_neg (by omega)]
    · show (if k = g.1 then x.toNatClampNeg else if g.1 < k ∧ k < g.1 + 1 + x.toNatClampNeg then y.toNatClampNeg else g.2.2.1 k) = g.2.2.1 k
      unfold ab_n at hk2
      rw [if_neg (by omega), if_neg (by omega)]
    · show (if k = g.1 then (if j < x.toNatClampNeg then some (g.1 + 1 + j) else none) else if g.1 < k ∧ k < g.1 + 1 + x.toNatClampNeg then none else g.2.2.2 k j) = g.2.2.2 k j
      unfold ab_n at hk2
      rw [if_neg (by omega), if_neg (by omega)]
    · by_cases ek : k = ab_n g
      · subst ek
        have ety : ab_ty (ab_mk2 g r1 r2 x.toNatClampNeg y.toNatClampNeg) (ab_n g) = r1 := by show (if g.1 = g.1 then r1 else _) = r1; rw [if_pos rfl]
        have eln : ab_ln (ab_mk2 g r1 r2 x.toNatClampNeg y.toNatClampNeg) (ab_n g) = x.toNatClampNeg := by show (if g.1 = g.1 then x.toNatClampNeg else _) = _; rw [if_pos rfl]
        unfold ab_cell
        rw [ety, eln]
        refine ⟨fun z => by omega, fun z => by omega, fun _ _ => ?_, fun c0 hc z => by omega, Or.inl (by omega)⟩
        rw [← hsz, f2]
        unfold mu_out
        congr 2
        funext j
        have eR : ab_R (ab_mk2 g r1 r2 x.toNatClampNeg y.toNatClampNeg) (ab_n g) j = if j < x.toNatClampNeg then some (ab_n g + 1 + j) else none := by show (if g.1 = g.1 then (if j < x.toNatClampNeg then some (g.1 + 1 + j) else none) else _) = _; rw [if_pos rfl]; rfl
        rw [eR]
        by_cases hj : j < x.toNatClampNeg
        · have e7 : H.size + 1 + j = base + (ab_n g + 1 + j - 32) := by omega
          rw [if_pos hj, if_pos hj, ab_rf_some, ab_ad_own (show 32 ≤ ab_n g + 1 + j by omega), ← e7]
        · rw [if_neg hj, if_neg hj, ab_rf_none]
      · have ety : ab_ty (ab_mk2 g r1 r2 x.toNatClampNeg y.toNatClampNeg) k = r2 := by
          show (if k = g.1 then r1 else if g.1 < k ∧ k < g.1 + 1 + x.toNatClampNeg then r2 else _) = r2
          unfold ab_n at k1 k2 ek
          rw [if_neg ek, if_pos (by omega)]
        have eln : ab_ln (ab_mk2 g r1 r2 x.toNatClampNeg y.toNatClampNeg) k = y.toNatClampNeg := by
          show (if k = g.1 then x.toNatClampNeg else if g.1 < k ∧ k < g.1 + 1 + x.toNatClampNeg then y.toNatClampNeg else _) = _
          unfold ab_n at k1 k2 ek
          rw [if_neg ek, if_pos (by omega)]
        have hcell : (mu_st (T.setVm vm₁) (cA r1) (cA r2) x.toNatClampNeg y.toNatClampNeg (defaultValue ty) x.toNatClampNeg).heap[base + (k - 32)]? = some (arrV (cA r2) y.toNatClampNeg (fun _ => defaultValue ty)) := by
          have h8 := f6 (k - (ab_n g + 1)) (by omega)
          rw [show H.size + 1 + (k - (ab_n g + 1)) = base + (k - 32) by omega] at h8
          rw [h8]
          unfold mu_in
          rw [arrV_new]
        unfold ab_cell
        rw [ety, eln]
        refine ⟨fun z => ?_, fun z => ?_, fun z _ => by omega, fun c0 hc z => by omega, Or.inl (by omega)⟩
        · subst z
          rw [hcell]
          congr 2
          funext j
          exact (hval k j (by omega) (by omega)).1 rfl
        · subst z
          rw [hcell]
          congr 2
          funext j
          exact (hval k j (by omega) (by omega)).2 rfl
    · rcases List.mem_append.mp hq2 with h8 | h8
      · exact hq q h8
      · obtain ⟨z, -, hz⟩ := List.mem_map.mp h8
        rw [← hz]
        show base ≤ T.heap.size
        omega
  have ra : ∀ t, 1 ≤ t → t ≤ 6 → va_RA s (cA t) (ab_aty t) := fun t h1 h2 => (B.2.2.2.2.1.2 (t - 1) _ (ab_tys_at (cA := cA) h1 h2)).2
  rcases h56 with ⟨rfl, rfl⟩ | ⟨rfl, rfl⟩
  · refine go .int (.int 0) rfl rfl rfl rfl rfl (by decide) hlink B.2.2.2.2.2.2.2.2.1 (ra 1 (by decide) (by decide)) (ra 5 (by decide) (by decide)) (fun k j k1 k2 => ⟨fun _ => ?_, fun z => by omega⟩)
    rw [ab_z_in (by omega)]
  · refine go .long (.long 0) rfl rfl rfl rfl rfl (by decide) hlink B.2.2.2.2.2.2.2.2.2.1 (ra 2 (by decide) (by decide)) (ra 6 (by decide) (by decide)) (fun k j k1 k2 => ⟨fun z => by omega, fun _ => ?_⟩)
    rw [ab_z_in (by omega)]
end MUL
/-! the methods' own words: kind (0 static, 1 of an object, 2 a constructor), arity, where the words stand -/
def ab_mp : List (Nat × Nat × Nat × Nat × Nat × Nat) := [
  (2, 0, 26, 25, 1, 0), (2, 0, 34, 33, 2, 0), (2, 0, 88, 87, 3, 0), (2, 1, 104, 103, 4, 0), (2, 0, 133, 132, 5, 0), (2, 0, 173, 172, 6, 0), (2, 0, 186, 185, 7, 0), (2, 0, 218, 217, 8, 0),
  (2, 0, 253, 252, 9, 0), (1, 2, 308, 306, 1, 382), (0, 1, 311, 310, 1, 0), (0, 3, 314, 313, 1, 0), (1, 1, 318, 317, 1, 0), (1, 2, 323, 321, 1, 397), (1, 2, 327, 325, 1, 401), (1, 1, 331, 329, 3, 405),
  (1, 0, 335, 333, 1, 409), (1, 0, 339, 337, 3, 413), (1, 0, 343, 341, 1, 417), (1, 0, 347, 345, 4, 421), (1, 0, 351, 350, 4, 1), (1, 0, 355, 354, 4, 2), (0, 1, 358, 357, 4, 0), (1, 0, 362, 361, 4, 3),
  (1, 0, 366, 365, 4, 4), (1, 1, 371, 370, 4, 5), (1, 0, 375, 373, 11, 449), (1, 0, 379, 377, 11, 453), (1, 1, 385, 383, 11, 459), (1, 0, 389, 387, 11, 463), (0, 2, 392, 391, 12, 0), (0, 2, 395, 394, 11, 0),
  (0, 3, 400, 399, 13, 0), (0, 1, 428, 427, 4, 0), (1, 0, 432, 431, 4, 6), (0, 2, 435, 434, 15, 0), (1, 1, 440, 438, 11, 514), (1, 2, 444, 442, 11, 518), (0, 4, 448, 447, 12, 0), (0, 1, 451, 450, 12, 0),
  (0, 2, 454, 453, 15, 0), (0, 4, 458, 457, 12, 0), (1, 1, 497, 496, 4, 7), (1, 0, 501, 500, 4, 8), (1, 1, 505, 504, 4, 9), (1, 1, 509, 508, 4, 10), (1, 1, 513, 512, 4, 11), (1, 1, 517, 516, 4, 12),
  (1, 1, 521, 520, 4, 13), (0, 2, 526, 525, 18, 0), (2, 1, 540, 539, 17, 0), (2, 2, 551, 550, 20, 0), (1, 2, 565, 563, 1, 639), (1, 1, 569, 567, 2, 643), (1, 1, 573, 571, 5, 647), (0, 2, 576, 575, 1, 0),
  (1, 2, 580, 579, 5, 14), (1, 1, 584, 583, 5, 15), (1, 2, 588, 586, 17, 662), (0, 2, 591, 590, 17, 0), (0, 2, 594, 593, 1, 0), (0, 2, 597, 596, 1, 0), (0, 3, 600, 599, 17, 0), (0, 3, 603, 602, 1, 0),
  (1, 2, 609, 607, 5, 683), (1, 3, 613, 611, 1, 687), (0, 3, 616, 615, 1, 0), (1, 4, 620, 618, 8, 694), (1, 2, 624, 623, 8, 16), (1, 1, 628, 626, 2, 702), (1, 2, 632, 630, 1, 706), (1, 1, 636, 634, 2, 710),
  (1, 3, 640, 638, 8, 714), (1, 0, 644, 642, 1, 718), (1, 0, 648, 646, 4, 722), (1, 2, 652, 650, 8, 726), (1, 2, 658, 656, 1, 732), (1, 1, 662, 660, 8, 736), (1, 1, 666, 664, 8, 740), (1, 1, 670, 668, 8, 744),
  (1, 2, 674, 672, 1, 748), (1, 4, 679, 677, 1, 753), (0, 1, 682, 681, 1, 0), (1, 2, 687, 685, 1, 761), (1, 3, 694, 692, 1, 768), (1, 4, 698, 696, 6, 772), (1, 6, 704, 703, 6, 17), (1, 3, 708, 706, 8, 782),
  (1, 3, 712, 710, 8, 786), (1, 1, 718, 717, 1, 18), (1, 2, 722, 721, 1, 19), (0, 2, 725, 724, 1, 0), (1, 2, 729, 727, 2, 803), (1, 2, 734, 732, 5, 808), (1, 1, 739, 737, 1, 813), (1, 2, 743, 741, 5, 817),
  (1, 0, 751, 749, 1, 825), (1, 0, 755, 753, 2, 829), (1, 1, 759, 757, 5, 833), (1, 1, 765, 763, 1, 839), (0, 1, 768, 767, 1, 0), (1, 3, 774, 772, 1, 848), (1, 3, 778, 777, 1, 20), (0, 4, 782, 781, 1, 0),
  (1, 3, 786, 785, 1, 21), (1, 2, 790, 788, 1, 864), (1, 1, 794, 793, 1, 22), (1, 3, 798, 796, 6, 872), (1, 4, 803, 801, 7, 877), (0, 2, 806, 805, 18, 0), (1, 3, 811, 810, 7, 23), (1, 3, 817, 816, 7, 24),
  (1, 2, 821, 820, 7, 25), (0, 2, 824, 823, 15, 0), (1, 2, 828, 826, 1, 902), (1, 3, 832, 831, 1, 26), (1, 2, 836, 834, 1, 910), (1, 2, 840, 839, 1, 27), (1, 2, 844, 842, 1, 918), (1, 1, 848, 846, 1, 922),
  (1, 1, 852, 850, 1, 926), (1, 2, 856, 854, 1, 930), (1, 2, 860, 859, 1, 28), (1, 5, 864, 863, 1, 29), (1, 2, 868, 866, 1, 942), (1, 1, 872, 870, 1, 946), (1, 1, 876, 874, 7, 950), (1, 1, 880, 878, 1, 954),
  (1, 3, 884, 882, 1, 958), (1, 2, 892, 890, 1, 966), (1, 1, 896, 895, 1, 30), (0, 2, 899, 898, 21, 0), (1, 2, 903, 901, 1, 977), (1, 2, 907, 905, 1, 981), (0, 1, 910, 909, 1, 0), (1, 1, 914, 912, 2, 988),
  (0, 2, 917, 916, 1, 0), (1, 3, 922, 920, 1, 996), (1, 3, 926, 924, 1, 1000), (0, 1, 929, 928, 1, 0), (1, 2, 933, 931, 9, 1007), (1, 3, 938, 936, 1, 1012), (1, 0, 942, 940, 9, 1016), (1, 1, 946, 944, 9, 1020),
  (1, 5, 950, 948, 1, 1024), (1, 2, 954, 952, 9, 1028), (1, 2, 959, 957, 1, 1033), (1, 0, 963, 961, 1, 1037), (1, 1, 967, 965, 2, 1041), (1, 0, 972, 970, 1, 1046), (1, 0, 976, 974, 1, 1050), (1, 1, 980, 978, 1, 1054),
  (1, 1, 984, 982, 1, 1058), (2, 0, 989, 988, 10, 0), (1, 0, 1121, 1119, 10, 1195), (0, 2, 1124, 1123, 10, 0), (1, 0, 1128, 1126, 10, 1202), (1, 1, 1132, 1131, 10, 31), (1, 0, 1137, 1135, 10, 1211), (1, 1, 1141, 1139, 10, 1215),
  (0, 3, 1144, 1143, 10, 0), (1, 1, 1148, 1146, 10, 1222), (1, 2, 1152, 1150, 10, 1226), (1, 2, 1156, 1154, 10, 1230), (1, 2, 1160, 1158, 10, 1234), (1, 0, 1164, 1162, 10, 1238), (1, 0, 1168, 1166, 10, 1242), (1, 0, 1172, 1171, 10, 32),
  (1, 0, 1176, 1175, 10, 33), (0, 1, 1179, 1178, 10, 0), (0, 1, 1182, 1181, 10, 0), (0, 1, 1185, 1184, 10, 0), (0, 4, 1188, 1187, 10, 0), (1, 1, 1192, 1191, 10, 34), (1, 0, 1196, 1195, 10, 35), (1, 0, 1200, 1199, 10, 36),
  (1, 1, 1204, 1203, 10, 37), (1, 0, 1208, 1207, 10, 38), (1, 0, 1212, 1211, 10, 39), (1, 0, 1216, 1215, 10, 40), (1, 0, 1220, 1219, 10, 41), (1, 1, 1224, 1223, 10, 42), (1, 1, 1228, 1227, 10, 43), (0, 1, 1231, 1230, 10, 0),
  (1, 0, 1235, 1233, 10, 1309), (1, 4, 1239, 1238, 10, 44), (1, 2, 1243, 1241, 10, 1317), (1, 1, 1247, 1246, 10, 45), (0, 1, 1250, 1249, 10, 0), (1, 2, 1254, 1253, 10, 46), (1, 1, 1258, 1257, 10, 47), (1, 5, 1262, 1261, 10, 48),
  (0, 3, 1265, 1264, 10, 0), (0, 2, 1268, 1267, 10, 0), (1, 1, 1272, 1271, 10, 49), (1, 3, 1276, 1274, 10, 1350), (1, 2, 1280, 1278, 10, 1354), (1, 1, 1284, 1283, 10, 50), (1, 2, 1288, 1286, 10, 1362), (1, 2, 1292, 1291, 10, 51),
  (1, 2, 1296, 1294, 10, 1370), (1, 4, 1300, 1298, 10, 1374), (1, 3, 1304, 1303, 10, 52), (1, 3, 1308, 1307, 10, 53), (1, 2, 1312, 1310, 10, 1386), (0, 1, 1315, 1314, 10, 0), (1, 3, 1319, 1317, 10, 1393), (1, 1, 1323, 1322, 10, 54),
  (1, 3, 1327, 1326, 10, 55), (1, 3, 1332, 1331, 10, 56), (0, 2, 1336, 1335, 15, 0), (1, 1, 1340, 1338, 10, 1414), (1, 3, 1344, 1343, 10, 57), (1, 0, 1349, 1347, 10, 1423), (1, 0, 1353, 1352, 10, 58), (1, 0, 1357, 1356, 10, 59),
  (1, 1, 1361, 1360, 10, 60), (1, 1, 1365, 1364, 10, 61), (1, 2, 1369, 1368, 10, 62), (1, 1, 1373, 1371, 10, 1447), (0, 1, 1376, 1375, 10, 0), (1, 3, 1380, 1378, 10, 1454), (1, 1, 1384, 1383, 10, 63), (1, 1, 1388, 1387, 10, 64),
  (1, 2, 1392, 1391, 10, 65), (1, 2, 1396, 1394, 10, 1470), (1, 1, 1400, 1399, 10, 66), (1, 1, 1404, 1403, 10, 67), (1, 2, 1408, 1407, 10, 68), (1, 2, 1412, 1410, 10, 1486), (1, 2, 1416, 1414, 10, 1490), (1, 2, 1420, 1419, 10, 69),
  (1, 2, 1424, 1422, 10, 1498), (1, 1, 1428, 1426, 10, 1502), (1, 1, 1432, 1431, 10, 70), (1, 1, 1437, 1435, 10, 1511), (1, 2, 1441, 1439, 10, 1515), (1, 2, 1445, 1444, 10, 71), (1, 2, 1449, 1447, 10, 1523), (1, 1, 1453, 1451, 10, 1527),
  (1, 1, 1457, 1456, 10, 72), (1, 1, 1461, 1459, 10, 1535), (1, 3, 1465, 1463, 10, 1539), (1, 2, 1470, 1468, 10, 1544), (1, 3, 1474, 1473, 10, 73), (1, 2, 1478, 1476, 10, 1552), (1, 2, 1482, 1480, 10, 1556), (1, 1, 1486, 1485, 10, 74),
  (1, 3, 1490, 1488, 10, 1564), (1, 3, 1494, 1492, 10, 1568), (0, 1, 1497, 1496, 10, 0), (1, 3, 1501, 1499, 10, 1575), (0, 2, 1504, 1503, 10, 0), (1, 5, 1508, 1506, 10, 1582), (0, 3, 1511, 1510, 10, 0), (1, 2, 1515, 1513, 10, 1589),
  (9, 1, 0, 0, 0, 0)]
def ab_mpN (N : Nat) : Nat × Nat × Nat × Nat × Nat × Nat := ab_mp.getD N (9, 0, 0, 0, 0, 0)
def ab_mok (N : Nat) : Bool :=
  (decide ((ab_meth N).2.2.1 ≤ 45) && (plainName (ab_yN N).cls && (decide ((ab_yN N).cls ≠ "java/lang/invoke/MethodHandle") && (decide ((ab_yN N).cls ≠ "java/lang/invoke/VarHandle") &&
  (decide ((parseMethodDescriptor (ab_yN N).desc).map (fun d => d.parameters.length) = some (ab_mpN N).2.1) && (decide (tables_1[(ab_mpN N).2.2.2.2.1]? = some (.initialized (ab_yN N).cls)) &&
  (match (ab_mpN N).1 with
    | 0 => decide (tables_1[(ab_mpN N).2.2.2.1]? = some (.static (ab_yN N)))
    | 1 => decide (tables_1[(ab_mpN N).2.2.2.1]? = some (.instanceMethod (ab_yN N))) && decide (lw_tbl[(ab_mpN N).2.2.2.2.2]? = some (.selects (ab_yN N).cls (ab_yN N) (ab_yN N)))
    | _ => decide (tables_1[(ab_mpN N).2.2.2.1]? = some (.instanceMethod (ab_yN N))) && (decide ((ab_yN N).name = "<init>") && decide ((ab_meth N).2.2.2.1 = none)))))))))
/-- a method's code, as the tables have it -/
def ab_hasC (N : Nat) : Prop := tables_1[(ab_mpN N).2.2.1]? = some (.code (ab_yN N) (ab_meth N).2.1 (ab_meth N).2.2.1 (ab_meth N).2.2.2.1)
