/-! ===== soundness: arrays of arrays, calls, returns, the whole machine ===== -/
section MUL
variable {p : Program} {l : Launch} {e : Env} {R : Room} {s : State} {m : MethodId} {args : Array Value} {below : List Frame} {meth : Method} {c : Code} {Qm : State → Prop}
variable {base : Nat} {H0 : Heap} {sp : Nat → Nat} {D : va_G} {cA : Nat → ClassId} {SL : Nat} {xs : Nat → Int32} {cc : ByteArray} {own : String}
theorem ab_so_multi (B : ab_Bd p s m args c base H0 sp D cA SL xs cc own) {run : ab_Run} {bud : Nat → Nat × Nat} {mc ms rt pc ln r1 r2 : Nat} {rs : List Nat} {L : ab_L} {st : List ab_V} {ce sl : Nat} {g : ab_G} {I : ab_I} {J : ab_J} {Q : ab_Q} {i k0 : Nat} (hd : decode cc pc = .ok (.multianewarray i k0, ln)) (hln : ln = 4) (hrc : mc ≤ R.cells) (hrs : ms ≤ R.slots) (hk0 : k0 = 2) (h56 : r1 = 5 ∧ r2 = 1 ∨ r1 = 6 ∧ r2 = 2) (hw : ab_wd (rs.getD 1 0) (.classLink own i (if r1 = 5 then "[[I" else "[[J")) = true)
    (h : ab_st run bud mc ms rt (pc, .multianewarray i k0, ln, r1, r2, rs) L st ce sl g I J Q (ab_Pk p l e R s m args below meth c base H0 sp D cA SL xs Qm)) : ab_Pk p l e R s m args below meth c base H0 sp D cA SL xs Qm pc L st ce sl g I J := by
  subst hln
  subst hk0
  have hlink := ab_wd_use B hw
  obtain ⟨x, y, r, rfl, x0, y0, x1, y1, hb1, hb2, hk⟩ := ab_2i_e h
  intro hL H locs ls hR hl hq
  have hsz : H.size = base + (ab_n g - 29) := hR.2.1
  have h32 := hR.1
  have e0 : ab_cv base sp (vR (some (ab_n g))) = .ref H.size := by show Value.ref (ab_ad base sp (ab_n g)) = _; rw [ab_ad_own hR.1, hsz]
  have go : ∀ (ty : FieldType) (dv : Value), ab_aty r1 = .array ty → ab_aty r2 = ty → defaultValue ty = dv → fits ty dv = true → dv.isDefault = true → componentBytes ty ≤ 8 → (Cond.classLink own i ("[" ++ (FieldType.array ty).toString)).before args s = true → (Cond.arrayOver (.array ty)).before #[] s = true → s.vm.findClass (FieldType.array ty).toString = some (cA r2) → s.vm.findClass ("[" ++ (FieldType.array ty).toString) = some (cA r1) →
      (∀ (k j : Nat), ab_n g + 1 ≤ k → k < ab_n g + 1 + x.toNatClampNeg → (r2 = 1 → dv = .int (ab_z I (ab_n g) (ab_n g + 1 + x.toNatClampNeg) 0 k j)) ∧ (r2 = 2 → dv = .long (ab_z J (ab_n g) (ab_n g + 1 + x.toNatClampNeg) 0 k j))) →
      W p l e R s m args below meth c H locs ce sl Qm (F0 m pc ls (.int y :: .int x :: r.map (ab_cv base sp))) := by
    intro ty dv hA1 hA2 hdv hf1 hf2 hcb hcl hov hc2 hc1 hval
    subst hdv
    obtain ⟨comp, c5, k5, q1, -, q3, q4, q5⟩ := arrayOverA_spec hov
    have hcomp : comp = cA r2 := Option.some.inj (q1.symm.trans hc2)
    have hc5 : c5 = cA r1 := Option.some.inj (q5.symm.trans hc1)
    subst hcomp
    subst hc5
    obtain ⟨-, kC, hkC, cc2, hkindC⟩ := ab_arrOf (cA := cA) B.2.2.2.2.1 (t := r2) (by omega) (by omega) 0 (fun _ => .null)
    rw [hA2] at hkindC
    intro T hT X
    obtain ⟨vm₁, X1, step⟩ := mu_step X B.1 B.2.2.1 hcl q5 q3 q4 hkC hkindC (g := F0 m pc ls (.int y :: .int x :: r.map (ab_cv base sp))) rfl (by rw [B.2.1]; exact hd) rfl x0 y0 (by omega)
      (Nat.le_trans (Nat.mul_le_mul_left _ hcb) (by omega)) (by omega) hf1 hf2 (by omega) (by omega)
    obtain ⟨f1, f2, -, -, f5, f6⟩ := mu_st_facts (T.setVm vm₁) (cA r1) (cA r2) x.toNatClampNeg y.toNatClampNeg (defaultValue ty) x.toNatClampNeg
    have hTs : (T.setVm vm₁).heap = H := hT
    rw [hTs] at f1 f2 f5 f6
    have hTs2 : T.heap.size = H.size := by rw [hT]
    have h9 := hk hL (mu_st (T.setVm vm₁) (cA r1) (cA r2) x.toNatClampNeg y.toNatClampNeg (defaultValue ty) x.toNatClampNeg).heap (locs ++ (List.range x.toNatClampNeg).map fun j => ⟨T.heap.size, j⟩) ls (hR.grow (n := 1 + x.toNatClampNeg) (by show g.1 + 1 + x.toNatClampNeg = g.1 + (1 + x.toNatClampNeg); omega) (fun k hk2 => ?_) (fun k hk2 => ?_) (fun k j hk2 => ?_) (fun k j hk2 => ab_z_out (by omega)) (fun k j hk2 => ab_z_out (by omega)) (by omega) f5 (fun k k1 k2 => ?_)) hl (fun q hq2 => ?_)
    · simp only [List.map_cons, e0] at h9
      obtain ⟨t, a1, b1⟩ := h9 _ rfl X1
      rw [hTs2] at step
      exact ⟨t, step t a1, b1⟩
    · show (if k = g.1 then r1 else if g.1 < k ∧ k < g.1 + 1 + x.toNatClampNeg then r2 else g.2.1 k) = g.2.1 k
      unfold ab_n at hk2
      rw [if_neg (by omega), if_neg (by omega)]
    · show (if k = g.1 then x.toNatClampNeg else if g.1 < k ∧ k < g.1 + 1 + x.toNatClampNeg then y.toNatClampNeg else g.2.2.1 k) = g.2.2.1 k
      unfold ab_n at hk2
      rw [if_neg (by omega), if_neg (by omega)]
    · show (if k = g.1 then (if j < x.toNatClampNeg then some (g.1 + 1 + j) else none) else if g.1 < k ∧ k < g.1 + 1 + x.toNatClampNeg then none else g.2.2.2 k j) = g.2.2.2 k j
      unfold ab_n at hk2
      rw [if_neg (by omega), if_neg (by omega)]
    · by_cases ek : k = ab_n g
      · subst ek
        have ety : ab_ty (ab_mk2 g r1 r2 x.toNatClampNeg y.toNatClampNeg) (ab_n g) = r1 := by show (if g.1 = g.1 then r1 else _) = r1; rw [if_pos rfl]
        have eln : ab_ln (ab_mk2 g r1 r2 x.toNatClampNeg y.toNatClampNeg) (ab_n g) = x.toNatClampNeg := by show (if g.1 = g.1 then x.toNatClampNeg else _) = _; rw [if_pos rfl]
        unfold ab_cell
        rw [ety, eln]
        refine ⟨fun z => by omega, fun z => by omega, fun _ _ => ?_, fun c0 hc z => by omega, Or.inl (by omega)⟩
        rw [← hsz, f2]
        unfold mu_out
        congr 2
        funext j
        have eR : ab_R (ab_mk2 g r1 r2 x.toNatClampNeg y.toNatClampNeg) (ab_n g) j = if j < x.toNatClampNeg then some (ab_n g + 1 + j) else none := by show (if g.1 = g.1 then (if j < x.toNatClampNeg then some (g.1 + 1 + j) else none) else _) = _; rw [if_pos rfl]; rfl
        rw [eR]
        by_cases hj : j < x.toNatClampNeg
        · have e7 : H.size + 1 + j = base + (ab_n g + 1 + j - 29) := by omega
          rw [if_pos hj, if_pos hj, ab_rf_some, ab_ad_own (show 29 ≤ ab_n g + 1 + j by omega), ← e7]
        · rw [if_neg hj, if_neg hj, ab_rf_none]
      · have ety : ab_ty (ab_mk2 g r1 r2 x.toNatClampNeg y.toNatClampNeg) k = r2 := by
          show (if k = g.1 then r1 else if g.1 < k ∧ k < g.1 + 1 + x.toNatClampNeg then r2 else _) = r2
          unfold ab_n at k1 k2 ek
          rw [if_neg ek, if_pos (by omega)]
        have eln : ab_ln (ab_mk2 g r1 r2 x.toNatClampNeg y.toNatClampNeg) k = y.toNatClampNeg := by
          show (if k = g.1 then x.toNatClampNeg else if g.1 < k ∧ k < g.1 + 1 + x.toNatClampNeg then y.toNatClampNeg else _) = _
          unfold ab_n at k1 k2 ek
          rw [if_neg ek, if_pos (by omega)]
        have hcell : (mu_st (T.setVm vm₁) (cA r1) (cA r2) x.toNatClampNeg y.toNatClampNeg (defaultValue ty) x.toNatClampNeg).heap[base + (k - 29)]? = some (arrV (cA r2) y.toNatClampNeg (fun _ => defaultValue ty)) := by
          have h8 := f6 (k - (ab_n g + 1)) (by omega)
          rw [show H.size + 1 + (k - (ab_n g + 1)) = base + (k - 29) by omega] at h8
          rw [h8]
          unfold mu_in
          rw [arrV_new]
        unfold ab_cell
        rw [ety, eln]
        refine ⟨fun z => ?_, fun z => ?_, fun z _ => by omega, fun c0 hc z => by omega, Or.inl (by omega)⟩
        · subst z
          rw [hcell]
          congr 2
          funext j
          exact (hval k j (by omega) (by omega)).1 rfl
        · subst z
          rw [hcell]
          congr 2
          funext j
          exact (hval k j (by omega) (by omega)).2 rfl
    · rcases List.mem_append.mp hq2 with h8 | h8
      · exact hq q h8
      · obtain ⟨z, -, hz⟩ := List.mem_map.mp h8
        rw [← hz]
        show base ≤ T.heap.size
        omega
  have ra : ∀ t, 1 ≤ t → t ≤ 6 → va_RA s (cA t) (ab_aty t) := fun t h1 h2 => (B.2.2.2.2.1.2 (t - 1) _ (ab_tys_at (cA := cA) h1 h2)).2
  rcases h56 with ⟨rfl, rfl⟩ | ⟨rfl, rfl⟩
  · refine go .int (.int 0) rfl rfl rfl rfl rfl (by decide) hlink B.2.2.2.2.2.2.2.2.1 (ra 1 (by decide) (by decide)) (ra 5 (by decide) (by decide)) (fun k j k1 k2 => ⟨fun _ => ?_, fun z => by omega⟩)
    rw [ab_z_in (by omega)]
  · refine go .long (.long 0) rfl rfl rfl rfl rfl (by decide) hlink B.2.2.2.2.2.2.2.2.2.1 (ra 2 (by decide) (by decide)) (ra 6 (by decide) (by decide)) (fun k j k1 k2 => ⟨fun z => by omega, fun _ => ?_⟩)
    rw [ab_z_in (by omega)]
end MUL
/-! the methods' own words: kind (0 static, 1 of an object, 2 a constructor), arity, where the words stand -/
def ab_mp : List (Nat × Nat × Nat × Nat × Nat × Nat) := [
  (2, 0, 26, 25, 1, 0), (2, 0, 34, 33, 2, 0), (2, 0, 88, 87, 3, 0), (2, 1, 104, 103, 4, 0), (2, 0, 135, 134, 5, 0), (2, 0, 175, 174, 6, 0), (2, 0, 188, 187, 7, 0), (2, 0, 220, 219, 8, 0),
  (2, 0, 255, 254, 9, 0), (1, 2, 310, 308, 1, 385), (0, 1, 313, 312, 1, 0), (0, 3, 316, 315, 1, 0), (1, 1, 320, 319, 1, 0), (1, 2, 325, 323, 1, 400), (1, 2, 329, 327, 1, 404), (1, 1, 333, 331, 3, 408),
  (1, 0, 337, 335, 1, 412), (1, 0, 341, 339, 3, 416), (1, 0, 345, 343, 1, 420), (1, 0, 349, 347, 4, 424), (1, 0, 353, 352, 4, 1), (1, 1, 367, 366, 4, 3), (0, 1, 360, 359, 4, 0), (1, 1, 357, 356, 4, 2),
  (0, 1, 370, 369, 4, 0), (1, 3, 379, 378, 4, 5), (1, 0, 383, 381, 11, 458), (1, 0, 387, 385, 11, 462), (1, 1, 393, 391, 11, 468), (1, 0, 397, 395, 11, 472), (0, 2, 400, 399, 12, 0), (0, 2, 403, 402, 11, 0),
  (0, 3, 408, 407, 13, 0), (0, 1, 363, 362, 4, 0), (1, 2, 437, 436, 4, 7), (0, 2, 440, 439, 15, 0), (1, 1, 445, 443, 11, 520), (1, 2, 449, 447, 11, 524), (0, 4, 453, 452, 12, 0), (0, 1, 456, 455, 12, 0),
  (0, 2, 459, 458, 15, 0), (0, 4, 463, 462, 12, 0), (1, 1, 502, 501, 4, 8), (1, 0, 506, 505, 4, 9), (1, 1, 510, 509, 4, 10), (1, 1, 514, 513, 4, 11), (1, 1, 518, 517, 4, 12), (1, 1, 522, 521, 4, 13),
  (1, 1, 526, 525, 4, 14), (0, 2, 531, 530, 18, 0), (2, 1, 545, 544, 17, 0), (2, 2, 556, 555, 20, 0), (1, 2, 574, 572, 1, 649), (1, 1, 578, 576, 2, 653), (1, 1, 582, 580, 5, 657), (0, 2, 585, 584, 1, 0),
  (1, 2, 589, 588, 5, 15), (1, 1, 593, 592, 5, 16), (1, 2, 597, 595, 17, 672), (0, 2, 600, 599, 17, 0), (0, 2, 706, 705, 1, 0), (0, 2, 779, 778, 1, 0), (0, 3, 603, 602, 17, 0), (0, 3, 606, 605, 1, 0),
  (1, 2, 612, 610, 5, 687), (1, 3, 618, 616, 1, 693), (0, 3, 621, 620, 1, 0), (1, 4, 625, 623, 8, 700), (1, 2, 629, 628, 8, 17), (1, 1, 633, 631, 2, 708), (1, 2, 637, 635, 1, 712), (1, 1, 641, 639, 2, 716),
  (1, 3, 645, 643, 8, 720), (1, 0, 649, 647, 1, 724), (1, 0, 653, 651, 4, 728), (1, 2, 657, 655, 8, 732), (1, 2, 663, 661, 1, 738), (1, 1, 667, 665, 8, 742), (1, 1, 671, 669, 8, 746), (1, 1, 675, 673, 8, 750),
  (1, 2, 679, 677, 1, 754), (1, 4, 684, 682, 1, 759), (0, 1, 687, 686, 1, 0), (1, 2, 692, 690, 1, 767), (1, 3, 699, 697, 1, 774), (1, 4, 703, 701, 6, 778), (1, 6, 711, 710, 6, 18), (1, 3, 715, 713, 8, 790),
  (1, 3, 719, 717, 8, 794), (1, 1, 725, 724, 1, 19), (1, 2, 729, 728, 1, 20), (0, 2, 732, 731, 1, 0), (1, 2, 736, 734, 2, 811), (1, 2, 741, 739, 5, 816), (1, 1, 746, 744, 1, 821), (1, 2, 750, 748, 5, 825),
  (1, 0, 758, 756, 1, 833), (1, 0, 762, 760, 2, 837), (1, 1, 766, 764, 5, 841), (1, 1, 772, 770, 1, 847), (0, 1, 775, 774, 1, 0), (1, 3, 783, 781, 1, 858), (1, 3, 787, 786, 1, 21), (0, 4, 791, 790, 1, 0),
  (1, 3, 795, 794, 1, 22), (1, 2, 799, 797, 1, 874), (1, 1, 803, 802, 1, 23), (1, 3, 807, 805, 6, 882), (1, 4, 812, 810, 7, 887), (0, 2, 815, 814, 18, 0), (1, 3, 820, 819, 7, 24), (1, 3, 826, 825, 7, 25),
  (1, 2, 830, 829, 7, 26), (0, 2, 833, 832, 15, 0), (1, 2, 837, 835, 1, 912), (1, 3, 841, 840, 1, 27), (1, 2, 845, 843, 1, 920), (1, 2, 849, 848, 1, 28), (1, 2, 853, 851, 1, 928), (1, 1, 857, 855, 1, 932),
  (1, 1, 861, 859, 1, 936), (1, 2, 865, 863, 1, 940), (1, 2, 869, 868, 1, 29), (1, 5, 873, 872, 1, 30), (1, 2, 877, 875, 1, 952), (1, 1, 881, 879, 1, 956), (1, 1, 885, 883, 7, 960), (1, 1, 889, 887, 1, 964),
  (1, 3, 893, 891, 1, 968), (1, 2, 901, 899, 1, 976), (1, 1, 905, 904, 1, 31), (0, 2, 908, 907, 21, 0), (1, 2, 912, 910, 1, 987), (1, 2, 916, 914, 1, 991), (0, 1, 919, 918, 1, 0), (1, 1, 923, 921, 2, 998),
  (0, 2, 926, 925, 1, 0), (1, 3, 931, 929, 1, 1006), (1, 3, 935, 933, 1, 1010), (0, 1, 938, 937, 1, 0), (1, 2, 942, 940, 9, 1017), (1, 3, 947, 945, 1, 1022), (1, 0, 951, 949, 9, 1026), (1, 1, 955, 953, 9, 1030),
  (1, 5, 959, 957, 1, 1034), (1, 2, 963, 961, 9, 1038), (1, 2, 968, 966, 1, 1043), (1, 0, 972, 970, 1, 1047), (1, 1, 976, 974, 2, 1051), (1, 0, 981, 979, 1, 1056), (1, 0, 985, 983, 1, 1060), (1, 1, 989, 987, 1, 1064),
  (1, 1, 993, 991, 1, 1068), (2, 0, 998, 997, 10, 0), (1, 0, 1130, 1128, 10, 1205), (0, 2, 1133, 1132, 10, 0), (1, 0, 1137, 1135, 10, 1212), (1, 1, 1141, 1140, 10, 32), (1, 0, 1146, 1144, 10, 1221), (1, 1, 1150, 1148, 10, 1225),
  (0, 3, 1153, 1152, 10, 0), (1, 1, 1157, 1155, 10, 1232), (1, 2, 1161, 1159, 10, 1236), (1, 2, 1165, 1163, 10, 1240), (1, 2, 1169, 1167, 10, 1244), (1, 0, 1173, 1171, 10, 1248), (1, 0, 1177, 1175, 10, 1252), (1, 0, 1181, 1180, 10, 33),
  (1, 0, 1185, 1184, 10, 34), (0, 1, 1188, 1187, 10, 0), (0, 1, 1191, 1190, 10, 0), (0, 1, 1194, 1193, 10, 0), (0, 4, 1197, 1196, 10, 0), (1, 1, 1201, 1200, 10, 35), (1, 0, 1205, 1204, 10, 36), (1, 0, 1209, 1208, 10, 37),
  (1, 1, 1213, 1212, 10, 38), (1, 0, 1217, 1216, 10, 39), (1, 0, 1221, 1220, 10, 40), (1, 0, 1225, 1224, 10, 41), (1, 0, 1229, 1228, 10, 42), (1, 1, 1233, 1232, 10, 43), (1, 1, 1237, 1236, 10, 44), (0, 1, 1240, 1239, 10, 0),
  (1, 0, 1244, 1242, 10, 1319), (1, 4, 1248, 1247, 10, 45), (1, 2, 1252, 1250, 10, 1327), (1, 1, 1256, 1255, 10, 46), (0, 1, 1259, 1258, 10, 0), (1, 2, 1263, 1262, 10, 47), (1, 1, 1267, 1266, 10, 48), (1, 5, 1271, 1270, 10, 49),
  (0, 3, 1274, 1273, 10, 0), (0, 2, 1277, 1276, 10, 0), (1, 1, 1281, 1280, 10, 50), (1, 3, 1285, 1283, 10, 1360), (1, 2, 1289, 1287, 10, 1364), (1, 1, 1293, 1292, 10, 51), (1, 2, 1297, 1295, 10, 1372), (1, 2, 1301, 1300, 10, 52),
  (1, 2, 1305, 1303, 10, 1380), (1, 4, 1309, 1307, 10, 1384), (1, 3, 1313, 1312, 10, 53), (1, 3, 1317, 1316, 10, 54), (1, 2, 1321, 1319, 10, 1396), (0, 1, 1324, 1323, 10, 0), (1, 3, 1328, 1326, 10, 1403), (1, 1, 1332, 1331, 10, 55),
  (1, 3, 1336, 1335, 10, 56), (1, 3, 1341, 1340, 10, 57), (0, 2, 1345, 1344, 15, 0), (1, 1, 1349, 1347, 10, 1424), (1, 3, 1353, 1352, 10, 58), (1, 0, 1358, 1356, 10, 1433), (1, 0, 1362, 1361, 10, 59), (1, 0, 1366, 1365, 10, 60),
  (1, 1, 1370, 1369, 10, 61), (1, 1, 1374, 1373, 10, 62), (1, 2, 1378, 1377, 10, 63), (1, 1, 1382, 1380, 10, 1457), (0, 1, 1385, 1384, 10, 0), (1, 3, 1389, 1387, 10, 1464), (1, 1, 1393, 1392, 10, 64), (1, 1, 1397, 1396, 10, 65),
  (1, 2, 1401, 1400, 10, 66), (1, 2, 1405, 1403, 10, 1480), (1, 1, 1409, 1408, 10, 67), (1, 1, 1413, 1412, 10, 68), (1, 2, 1417, 1416, 10, 69), (1, 2, 1421, 1419, 10, 1496), (1, 2, 1425, 1423, 10, 1500), (1, 2, 1429, 1428, 10, 70),
  (1, 2, 1433, 1431, 10, 1508), (1, 1, 1437, 1435, 10, 1512), (1, 1, 1441, 1440, 10, 71), (1, 1, 1446, 1444, 10, 1521), (1, 2, 1450, 1448, 10, 1525), (1, 2, 1454, 1453, 10, 72), (1, 2, 1458, 1456, 10, 1533), (1, 1, 1462, 1460, 10, 1537),
  (1, 1, 1466, 1465, 10, 73), (1, 1, 1470, 1468, 10, 1545), (1, 3, 1474, 1472, 10, 1549), (1, 2, 1479, 1477, 10, 1554), (1, 3, 1483, 1482, 10, 74), (1, 2, 1487, 1485, 10, 1562), (1, 2, 1491, 1489, 10, 1566), (1, 1, 1495, 1494, 10, 75),
  (1, 3, 1499, 1497, 10, 1574), (1, 3, 1503, 1501, 10, 1578), (0, 1, 1506, 1505, 10, 0), (1, 3, 1510, 1508, 10, 1585), (0, 2, 1513, 1512, 10, 0), (1, 5, 1517, 1515, 10, 1592), (0, 3, 1520, 1519, 10, 0), (1, 2, 1524, 1522, 10, 1599),
  (1, 2, 374, 373, 4, 4), (1, 3, 433, 432, 4, 6), (1, 0, 570, 568, 4, 645), (9, 1, 0, 0, 0, 0)]
def ab_mpN (N : Nat) : Nat × Nat × Nat × Nat × Nat × Nat := ab_mp.getD N (9, 0, 0, 0, 0, 0)
def ab_mok (N : Nat) : Bool :=
  (decide ((ab_meth N).2.2.1 ≤ 45) && (plainName (ab_yN N).cls && (decide ((ab_yN N).cls ≠ "java/lang/invoke/MethodHandle") && (decide ((ab_yN N).cls ≠ "java/lang/invoke/VarHandle") &&
  (decide ((parseMethodDescriptor (ab_yN N).desc).map (fun d => d.parameters.length) = some (ab_mpN N).2.1) && (decide (tables_1[(ab_mpN N).2.2.2.2.1]? = some (.initialized (ab_yN N).cls)) &&
  (match (ab_mpN N).1 with
    | 0 => decide (tables_1[(ab_mpN N).2.2.2.1]? = some (.static (ab_yN N)))
    | 1 => decide (tables_1[(ab_mpN N).2.2.2.1]? = some (.instanceMethod (ab_yN N))) && decide (lw_tbl[(ab_mpN N).2.2.2.2.2]? = some (.selects (ab_yN N).cls (ab_yN N) (ab_yN N)))
    | _ => decide (tables_1[(ab_mpN N).2.2.2.1]? = some (.instanceMethod (ab_yN N))) && (decide ((ab_yN N).name = "<init>") && decide ((ab_meth N).2.2.2.1 = none)))))))))
/-- a method's code, as the tables have it -/
def ab_hasC (N : Nat) : Prop := tables_1[(ab_mpN N).2.2.1]? = some (.code (ab_yN N) (ab_meth N).2.1 (ab_meth N).2.2.1 (ab_meth N).2.2.2.1)
