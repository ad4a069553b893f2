/-! ===== the fixed cells (printed by gen/geo.py) ===== -/
def gx_tab : List (Nat × Nat × Nat) := [(29, 10, 0), (30, 11, 0), (31, 1, 2), (32, 5, 2), (33, 1, 8), (34, 1, 8), (35, 1, 2), (36, 5, 2), (37, 1, 4), (38, 1, 4), (39, 1, 5), (40, 1, 8), (41, 3, 20), (42, 11, 0), (43, 1, 2), (44, 5, 2), (45, 1, 8), (46, 1, 8), (47, 1, 2), (48, 5, 2), (49, 1, 4), (50, 1, 4), (51, 1, 5), (52, 1, 8), (53, 3, 20), (54, 12, 0), (55, 1, 120), (56, 13, 0), (57, 1, 121), (58, 1, 121), (59, 1, 121), (60, 1, 120), (61, 14, 0), (62, 1, 1024), (63, 1, 1024), (64, 1, 1024), (65, 1, 1024), (66, 1, 120), (67, 15, 0), (68, 5, 3), (69, 1, 1024), (70, 1, 1024), (71, 1, 1024), (72, 15, 0), (73, 5, 3), (74, 1, 1024), (75, 1, 1024), (76, 1, 1024), (77, 16, 0), (78, 6, 2), (79, 2, 1024), (80, 2, 1024), (81, 1, 1024), (82, 6, 2), (83, 2, 32), (84, 2, 32), (85, 6, 2), (86, 2, 32), (87, 2, 32), (88, 17, 0), (89, 1, 64), (90, 1, 64), (91, 4, 4), (92, 18, 0), (93, 2, 40), (94, 18, 0), (95, 2, 40), (96, 18, 0), (97, 2, 40), (98, 18, 0), (99, 2, 40), (100, 1, 7), (101, 21, 0), (102, 1, 7), (103, 1, 19), (104, 1, 16), (105, 1, 8), (106, 1, 80), (107, 1, 2750), (108, 1, 19), (109, 1, 16), (110, 1, 8), (111, 1, 80), (112, 1, 2750), (113, 1, 120), (114, 1, 250), (115, 1, 125), (116, 1, 20), (117, 1, 128), (118, 2, 3), (119, 2, 3), (120, 2, 1024), (121, 1, 1024), (122, 2, 1024), (123, 2, 1024), (124, 2, 1024), (125, 1, 4), (126, 1, 4), (127, 2, 160)]
def gx_ref : List (Nat × Nat × Nat) := [(29, 0, 30), (29, 1, 42), (29, 3, 54), (29, 4, 56), (29, 5, 61), (29, 6, 67), (29, 7, 72), (29, 8, 77), (29, 9, 88), (29, 10, 91), (29, 11, 100), (30, 0, 31), (30, 1, 32), (30, 2, 35), (30, 3, 36), (30, 4, 39), (30, 5, 40), (30, 6, 41), (32, 0, 33), (32, 1, 34), (36, 0, 37), (36, 1, 38), (42, 0, 43), (42, 1, 44), (42, 2, 47), (42, 3, 48), (42, 4, 51), (42, 5, 52), (42, 6, 53), (44, 0, 45), (44, 1, 46), (48, 0, 49), (48, 1, 50), (54, 0, 55), (56, 0, 54), (56, 1, 57), (56, 2, 58), (56, 3, 59), (56, 6, 60), (61, 0, 62), (61, 1, 63), (61, 2, 64), (61, 3, 65), (61, 4, 66), (67, 0, 68), (68, 0, 69), (68, 1, 70), (68, 2, 71), (72, 0, 73), (73, 0, 74), (73, 1, 75), (73, 2, 76), (77, 0, 78), (77, 1, 81), (77, 4, 82), (77, 5, 85), (78, 0, 79), (78, 1, 80), (82, 0, 83), (82, 1, 84), (85, 0, 86), (85, 1, 87), (88, 0, 89), (88, 1, 90), (91, 0, 92), (91, 1, 94), (91, 2, 96), (91, 3, 98), (92, 0, 93), (94, 0, 95), (96, 0, 97), (98, 0, 99), (101, 0, 102), (101, 1, 103), (101, 2, 104), (101, 3, 105), (101, 4, 106), (101, 5, 107), (101, 6, 108), (101, 7, 109), (101, 8, 110), (101, 9, 111), (101, 10, 112), (101, 12, 113), (101, 22, 114), (101, 23, 115), (101, 26, 116), (101, 27, 117), (101, 28, 118), (101, 29, 119), (101, 30, 120), (101, 31, 121), (101, 32, 122), (101, 33, 123), (101, 34, 124), (101, 39, 125), (101, 40, 126), (101, 41, 127)]
/-- the cells that both constructors make stand where they were made -/
def gx (g : ab_G) : Prop := (∀ q ∈ gx_tab, ab_ty g q.1 = q.2.1 ∧ ab_ln g q.1 = q.2.2) ∧ (∀ q ∈ gx_ref, ab_R g q.1 q.2.1 = some q.2.2) ∧ 128 ≤ ab_n g
theorem gt29 {g : ab_G} (h : gx g) : ab_ty g 29 = 10 := (h.1 (29, 10, 0) (by decide)).1
theorem gt30 {g : ab_G} (h : gx g) : ab_ty g 30 = 11 := (h.1 (30, 11, 0) (by decide)).1
theorem gt31 {g : ab_G} (h : gx g) : ab_ty g 31 = 1 := (h.1 (31, 1, 2) (by decide)).1
theorem gl31 {g : ab_G} (h : gx g) : ab_ln g 31 = 2 := (h.1 (31, 1, 2) (by decide)).2
theorem gt32 {g : ab_G} (h : gx g) : ab_ty g 32 = 5 := (h.1 (32, 5, 2) (by decide)).1
theorem gl32 {g : ab_G} (h : gx g) : ab_ln g 32 = 2 := (h.1 (32, 5, 2) (by decide)).2
theorem gt33 {g : ab_G} (h : gx g) : ab_ty g 33 = 1 := (h.1 (33, 1, 8) (by decide)).1
theorem gl33 {g : ab_G} (h : gx g) : ab_ln g 33 = 8 := (h.1 (33, 1, 8) (by decide)).2
theorem gt34 {g : ab_G} (h : gx g) : ab_ty g 34 = 1 := (h.1 (34, 1, 8) (by decide)).1
theorem gl34 {g : ab_G} (h : gx g) : ab_ln g 34 = 8 := (h.1 (34, 1, 8) (by decide)).2
theorem gt35 {g : ab_G} (h : gx g) : ab_ty g 35 = 1 := (h.1 (35, 1, 2) (by decide)).1
theorem gl35 {g : ab_G} (h : gx g) : ab_ln g 35 = 2 := (h.1 (35, 1, 2) (by decide)).2
theorem gt36 {g : ab_G} (h : gx g) : ab_ty g 36 = 5 := (h.1 (36, 5, 2) (by decide)).1
theorem gl36 {g : ab_G} (h : gx g) : ab_ln g 36 = 2 := (h.1 (36, 5, 2) (by decide)).2
theorem gt37 {g : ab_G} (h : gx g) : ab_ty g 37 = 1 := (h.1 (37, 1, 4) (by decide)).1
theorem gl37 {g : ab_G} (h : gx g) : ab_ln g 37 = 4 := (h.1 (37, 1, 4) (by decide)).2
theorem gt38 {g : ab_G} (h : gx g) : ab_ty g 38 = 1 := (h.1 (38, 1, 4) (by decide)).1
theorem gl38 {g : ab_G} (h : gx g) : ab_ln g 38 = 4 := (h.1 (38, 1, 4) (by decide)).2
theorem gt39 {g : ab_G} (h : gx g) : ab_ty g 39 = 1 := (h.1 (39, 1, 5) (by decide)).1
theorem gl39 {g : ab_G} (h : gx g) : ab_ln g 39 = 5 := (h.1 (39, 1, 5) (by decide)).2
theorem gt40 {g : ab_G} (h : gx g) : ab_ty g 40 = 1 := (h.1 (40, 1, 8) (by decide)).1
theorem gl40 {g : ab_G} (h : gx g) : ab_ln g 40 = 8 := (h.1 (40, 1, 8) (by decide)).2
theorem gt41 {g : ab_G} (h : gx g) : ab_ty g 41 = 3 := (h.1 (41, 3, 20) (by decide)).1
theorem gl41 {g : ab_G} (h : gx g) : ab_ln g 41 = 20 := (h.1 (41, 3, 20) (by decide)).2
theorem gt42 {g : ab_G} (h : gx g) : ab_ty g 42 = 11 := (h.1 (42, 11, 0) (by decide)).1
theorem gt43 {g : ab_G} (h : gx g) : ab_ty g 43 = 1 := (h.1 (43, 1, 2) (by decide)).1
theorem gl43 {g : ab_G} (h : gx g) : ab_ln g 43 = 2 := (h.1 (43, 1, 2) (by decide)).2
theorem gt44 {g : ab_G} (h : gx g) : ab_ty g 44 = 5 := (h.1 (44, 5, 2) (by decide)).1
theorem gl44 {g : ab_G} (h : gx g) : ab_ln g 44 = 2 := (h.1 (44, 5, 2) (by decide)).2
theorem gt45 {g : ab_G} (h : gx g) : ab_ty g 45 = 1 := (h.1 (45, 1, 8) (by decide)).1
theorem gl45 {g : ab_G} (h : gx g) : ab_ln g 45 = 8 := (h.1 (45, 1, 8) (by decide)).2
theorem gt46 {g : ab_G} (h : gx g) : ab_ty g 46 = 1 := (h.1 (46, 1, 8) (by decide)).1
theorem gl46 {g : ab_G} (h : gx g) : ab_ln g 46 = 8 := (h.1 (46, 1, 8) (by decide)).2
theorem gt47 {g : ab_G} (h : gx g) : ab_ty g 47 = 1 := (h.1 (47, 1, 2) (by decide)).1
theorem gl47 {g : ab_G} (h : gx g) : ab_ln g 47 = 2 := (h.1 (47, 1, 2) (by decide)).2
theorem gt48 {g : ab_G} (h : gx g) : ab_ty g 48 = 5 := (h.1 (48, 5, 2) (by decide)).1
theorem gl48 {g : ab_G} (h : gx g) : ab_ln g 48 = 2 := (h.1 (48, 5, 2) (by decide)).2
theorem gt49 {g : ab_G} (h : gx g) : ab_ty g 49 = 1 := (h.1 (49, 1, 4) (by decide)).1
theorem gl49 {g : ab_G} (h : gx g) : ab_ln g 49 = 4 := (h.1 (49, 1, 4) (by decide)).2
theorem gt50 {g : ab_G} (h : gx g) : ab_ty g 50 = 1 := (h.1 (50, 1, 4) (by decide)).1
theorem gl50 {g : ab_G} (h : gx g) : ab_ln g 50 = 4 := (h.1 (50, 1, 4) (by decide)).2
theorem gt51 {g : ab_G} (h : gx g) : ab_ty g 51 = 1 := (h.1 (51, 1, 5) (by decide)).1
theorem gl51 {g : ab_G} (h : gx g) : ab_ln g 51 = 5 := (h.1 (51, 1, 5) (by decide)).2
theorem gt52 {g : ab_G} (h : gx g) : ab_ty g 52 = 1 := (h.1 (52, 1, 8) (by decide)).1
theorem gl52 {g : ab_G} (h : gx g) : ab_ln g 52 = 8 := (h.1 (52, 1, 8) (by decide)).2
theorem gt53 {g : ab_G} (h : gx g) : ab_ty g 53 = 3 := (h.1 (53, 3, 20) (by decide)).1
theorem gl53 {g : ab_G} (h : gx g) : ab_ln g 53 = 20 := (h.1 (53, 3, 20) (by decide)).2
theorem gt54 {g : ab_G} (h : gx g) : ab_ty g 54 = 12 := (h.1 (54, 12, 0) (by decide)).1
theorem gt55 {g : ab_G} (h : gx g) : ab_ty g 55 = 1 := (h.1 (55, 1, 120) (by decide)).1
theorem gl55 {g : ab_G} (h : gx g) : ab_ln g 55 = 120 := (h.1 (55, 1, 120) (by decide)).2
theorem gt56 {g : ab_G} (h : gx g) : ab_ty g 56 = 13 := (h.1 (56, 13, 0) (by decide)).1
theorem gt57 {g : ab_G} (h : gx g) : ab_ty g 57 = 1 := (h.1 (57, 1, 121) (by decide)).1
theorem gl57 {g : ab_G} (h : gx g) : ab_ln g 57 = 121 := (h.1 (57, 1, 121) (by decide)).2
theorem gt58 {g : ab_G} (h : gx g) : ab_ty g 58 = 1 := (h.1 (58, 1, 121) (by decide)).1
theorem gl58 {g : ab_G} (h : gx g) : ab_ln g 58 = 121 := (h.1 (58, 1, 121) (by decide)).2
theorem gt59 {g : ab_G} (h : gx g) : ab_ty g 59 = 1 := (h.1 (59, 1, 121) (by decide)).1
theorem gl59 {g : ab_G} (h : gx g) : ab_ln g 59 = 121 := (h.1 (59, 1, 121) (by decide)).2
theorem gt60 {g : ab_G} (h : gx g) : ab_ty g 60 = 1 := (h.1 (60, 1, 120) (by decide)).1
theorem gl60 {g : ab_G} (h : gx g) : ab_ln g 60 = 120 := (h.1 (60, 1, 120) (by decide)).2
theorem gt61 {g : ab_G} (h : gx g) : ab_ty g 61 = 14 := (h.1 (61, 14, 0) (by decide)).1
theorem gt62 {g : ab_G} (h : gx g) : ab_ty g 62 = 1 := (h.1 (62, 1, 1024) (by decide)).1
theorem gl62 {g : ab_G} (h : gx g) : ab_ln g 62 = 1024 := (h.1 (62, 1, 1024) (by decide)).2
theorem gt63 {g : ab_G} (h : gx g) : ab_ty g 63 = 1 := (h.1 (63, 1, 1024) (by decide)).1
theorem gl63 {g : ab_G} (h : gx g) : ab_ln g 63 = 1024 := (h.1 (63, 1, 1024) (by decide)).2
theorem gt64 {g : ab_G} (h : gx g) : ab_ty g 64 = 1 := (h.1 (64, 1, 1024) (by decide)).1
theorem gl64 {g : ab_G} (h : gx g) : ab_ln g 64 = 1024 := (h.1 (64, 1, 1024) (by decide)).2
theorem gt65 {g : ab_G} (h : gx g) : ab_ty g 65 = 1 := (h.1 (65, 1, 1024) (by decide)).1
theorem gl65 {g : ab_G} (h : gx g) : ab_ln g 65 = 1024 := (h.1 (65, 1, 1024) (by decide)).2
theorem gt66 {g : ab_G} (h : gx g) : ab_ty g 66 = 1 := (h.1 (66, 1, 120) (by decide)).1
theorem gl66 {g : ab_G} (h : gx g) : ab_ln g 66 = 120 := (h.1 (66, 1, 120) (by decide)).2
theorem gt67 {g : ab_G} (h : gx g) : ab_ty g 67 = 15 := (h.1 (67, 15, 0) (by decide)).1
theorem gt68 {g : ab_G} (h : gx g) : ab_ty g 68 = 5 := (h.1 (68, 5, 3) (by decide)).1
theorem gl68 {g : ab_G} (h : gx g) : ab_ln g 68 = 3 := (h.1 (68, 5, 3) (by decide)).2
theorem gt69 {g : ab_G} (h : gx g) : ab_ty g 69 = 1 := (h.1 (69, 1, 1024) (by decide)).1
theorem gl69 {g : ab_G} (h : gx g) : ab_ln g 69 = 1024 := (h.1 (69, 1, 1024) (by decide)).2
theorem gt70 {g : ab_G} (h : gx g) : ab_ty g 70 = 1 := (h.1 (70, 1, 1024) (by decide)).1
theorem gl70 {g : ab_G} (h : gx g) : ab_ln g 70 = 1024 := (h.1 (70, 1, 1024) (by decide)).2
theorem gt71 {g : ab_G} (h : gx g) : ab_ty g 71 = 1 := (h.1 (71, 1, 1024) (by decide)).1
theorem gl71 {g : ab_G} (h : gx g) : ab_ln g 71 = 1024 := (h.1 (71, 1, 1024) (by decide)).2
theorem gt72 {g : ab_G} (h : gx g) : ab_ty g 72 = 15 := (h.1 (72, 15, 0) (by decide)).1
theorem gt73 {g : ab_G} (h : gx g) : ab_ty g 73 = 5 := (h.1 (73, 5, 3) (by decide)).1
theorem gl73 {g : ab_G} (h : gx g) : ab_ln g 73 = 3 := (h.1 (73, 5, 3) (by decide)).2
theorem gt74 {g : ab_G} (h : gx g) : ab_ty g 74 = 1 := (h.1 (74, 1, 1024) (by decide)).1
theorem gl74 {g : ab_G} (h : gx g) : ab_ln g 74 = 1024 := (h.1 (74, 1, 1024) (by decide)).2
theorem gt75 {g : ab_G} (h : gx g) : ab_ty g 75 = 1 := (h.1 (75, 1, 1024) (by decide)).1
theorem gl75 {g : ab_G} (h : gx g) : ab_ln g 75 = 1024 := (h.1 (75, 1, 1024) (by decide)).2
theorem gt76 {g : ab_G} (h : gx g) : ab_ty g 76 = 1 := (h.1 (76, 1, 1024) (by decide)).1
theorem gl76 {g : ab_G} (h : gx g) : ab_ln g 76 = 1024 := (h.1 (76, 1, 1024) (by decide)).2
theorem gt77 {g : ab_G} (h : gx g) : ab_ty g 77 = 16 := (h.1 (77, 16, 0) (by decide)).1
theorem gt78 {g : ab_G} (h : gx g) : ab_ty g 78 = 6 := (h.1 (78, 6, 2) (by decide)).1
theorem gl78 {g : ab_G} (h : gx g) : ab_ln g 78 = 2 := (h.1 (78, 6, 2) (by decide)).2
theorem gt79 {g : ab_G} (h : gx g) : ab_ty g 79 = 2 := (h.1 (79, 2, 1024) (by decide)).1
theorem gl79 {g : ab_G} (h : gx g) : ab_ln g 79 = 1024 := (h.1 (79, 2, 1024) (by decide)).2
theorem gt80 {g : ab_G} (h : gx g) : ab_ty g 80 = 2 := (h.1 (80, 2, 1024) (by decide)).1
theorem gl80 {g : ab_G} (h : gx g) : ab_ln g 80 = 1024 := (h.1 (80, 2, 1024) (by decide)).2
theorem gt81 {g : ab_G} (h : gx g) : ab_ty g 81 = 1 := (h.1 (81, 1, 1024) (by decide)).1
theorem gl81 {g : ab_G} (h : gx g) : ab_ln g 81 = 1024 := (h.1 (81, 1, 1024) (by decide)).2
theorem gt82 {g : ab_G} (h : gx g) : ab_ty g 82 = 6 := (h.1 (82, 6, 2) (by decide)).1
theorem gl82 {g : ab_G} (h : gx g) : ab_ln g 82 = 2 := (h.1 (82, 6, 2) (by decide)).2
theorem gt83 {g : ab_G} (h : gx g) : ab_ty g 83 = 2 := (h.1 (83, 2, 32) (by decide)).1
theorem gl83 {g : ab_G} (h : gx g) : ab_ln g 83 = 32 := (h.1 (83, 2, 32) (by decide)).2
theorem gt84 {g : ab_G} (h : gx g) : ab_ty g 84 = 2 := (h.1 (84, 2, 32) (by decide)).1
theorem gl84 {g : ab_G} (h : gx g) : ab_ln g 84 = 32 := (h.1 (84, 2, 32) (by decide)).2
theorem gt85 {g : ab_G} (h : gx g) : ab_ty g 85 = 6 := (h.1 (85, 6, 2) (by decide)).1
theorem gl85 {g : ab_G} (h : gx g) : ab_ln g 85 = 2 := (h.1 (85, 6, 2) (by decide)).2
theorem gt86 {g : ab_G} (h : gx g) : ab_ty g 86 = 2 := (h.1 (86, 2, 32) (by decide)).1
theorem gl86 {g : ab_G} (h : gx g) : ab_ln g 86 = 32 := (h.1 (86, 2, 32) (by decide)).2
theorem gt87 {g : ab_G} (h : gx g) : ab_ty g 87 = 2 := (h.1 (87, 2, 32) (by decide)).1
theorem gl87 {g : ab_G} (h : gx g) : ab_ln g 87 = 32 := (h.1 (87, 2, 32) (by decide)).2
theorem gt88 {g : ab_G} (h : gx g) : ab_ty g 88 = 17 := (h.1 (88, 17, 0) (by decide)).1
theorem gt89 {g : ab_G} (h : gx g) : ab_ty g 89 = 1 := (h.1 (89, 1, 64) (by decide)).1
theorem gl89 {g : ab_G} (h : gx g) : ab_ln g 89 = 64 := (h.1 (89, 1, 64) (by decide)).2
theorem gt90 {g : ab_G} (h : gx g) : ab_ty g 90 = 1 := (h.1 (90, 1, 64) (by decide)).1
theorem gl90 {g : ab_G} (h : gx g) : ab_ln g 90 = 64 := (h.1 (90, 1, 64) (by decide)).2
theorem gt91 {g : ab_G} (h : gx g) : ab_ty g 91 = 4 := (h.1 (91, 4, 4) (by decide)).1
theorem gl91 {g : ab_G} (h : gx g) : ab_ln g 91 = 4 := (h.1 (91, 4, 4) (by decide)).2
theorem gt92 {g : ab_G} (h : gx g) : ab_ty g 92 = 18 := (h.1 (92, 18, 0) (by decide)).1
theorem gt93 {g : ab_G} (h : gx g) : ab_ty g 93 = 2 := (h.1 (93, 2, 40) (by decide)).1
theorem gl93 {g : ab_G} (h : gx g) : ab_ln g 93 = 40 := (h.1 (93, 2, 40) (by decide)).2
theorem gt94 {g : ab_G} (h : gx g) : ab_ty g 94 = 18 := (h.1 (94, 18, 0) (by decide)).1
theorem gt95 {g : ab_G} (h : gx g) : ab_ty g 95 = 2 := (h.1 (95, 2, 40) (by decide)).1
theorem gl95 {g : ab_G} (h : gx g) : ab_ln g 95 = 40 := (h.1 (95, 2, 40) (by decide)).2
theorem gt96 {g : ab_G} (h : gx g) : ab_ty g 96 = 18 := (h.1 (96, 18, 0) (by decide)).1
theorem gt97 {g : ab_G} (h : gx g) : ab_ty g 97 = 2 := (h.1 (97, 2, 40) (by decide)).1
theorem gl97 {g : ab_G} (h : gx g) : ab_ln g 97 = 40 := (h.1 (97, 2, 40) (by decide)).2
theorem gt98 {g : ab_G} (h : gx g) : ab_ty g 98 = 18 := (h.1 (98, 18, 0) (by decide)).1
theorem gt99 {g : ab_G} (h : gx g) : ab_ty g 99 = 2 := (h.1 (99, 2, 40) (by decide)).1
theorem gl99 {g : ab_G} (h : gx g) : ab_ln g 99 = 40 := (h.1 (99, 2, 40) (by decide)).2
theorem gt100 {g : ab_G} (h : gx g) : ab_ty g 100 = 1 := (h.1 (100, 1, 7) (by decide)).1
theorem gl100 {g : ab_G} (h : gx g) : ab_ln g 100 = 7 := (h.1 (100, 1, 7) (by decide)).2
theorem gt101 {g : ab_G} (h : gx g) : ab_ty g 101 = 21 := (h.1 (101, 21, 0) (by decide)).1
theorem gt102 {g : ab_G} (h : gx g) : ab_ty g 102 = 1 := (h.1 (102, 1, 7) (by decide)).1
theorem gl102 {g : ab_G} (h : gx g) : ab_ln g 102 = 7 := (h.1 (102, 1, 7) (by decide)).2
theorem gt103 {g : ab_G} (h : gx g) : ab_ty g 103 = 1 := (h.1 (103, 1, 19) (by decide)).1
theorem gl103 {g : ab_G} (h : gx g) : ab_ln g 103 = 19 := (h.1 (103, 1, 19) (by decide)).2
theorem gt104 {g : ab_G} (h : gx g) : ab_ty g 104 = 1 := (h.1 (104, 1, 16) (by decide)).1
theorem gl104 {g : ab_G} (h : gx g) : ab_ln g 104 = 16 := (h.1 (104, 1, 16) (by decide)).2
theorem gt105 {g : ab_G} (h : gx g) : ab_ty g 105 = 1 := (h.1 (105, 1, 8) (by decide)).1
theorem gl105 {g : ab_G} (h : gx g) : ab_ln g 105 = 8 := (h.1 (105, 1, 8) (by decide)).2
theorem gt106 {g : ab_G} (h : gx g) : ab_ty g 106 = 1 := (h.1 (106, 1, 80) (by decide)).1
theorem gl106 {g : ab_G} (h : gx g) : ab_ln g 106 = 80 := (h.1 (106, 1, 80) (by decide)).2
theorem gt107 {g : ab_G} (h : gx g) : ab_ty g 107 = 1 := (h.1 (107, 1, 2750) (by decide)).1
theorem gl107 {g : ab_G} (h : gx g) : ab_ln g 107 = 2750 := (h.1 (107, 1, 2750) (by decide)).2
theorem gt108 {g : ab_G} (h : gx g) : ab_ty g 108 = 1 := (h.1 (108, 1, 19) (by decide)).1
theorem gl108 {g : ab_G} (h : gx g) : ab_ln g 108 = 19 := (h.1 (108, 1, 19) (by decide)).2
theorem gt109 {g : ab_G} (h : gx g) : ab_ty g 109 = 1 := (h.1 (109, 1, 16) (by decide)).1
theorem gl109 {g : ab_G} (h : gx g) : ab_ln g 109 = 16 := (h.1 (109, 1, 16) (by decide)).2
theorem gt110 {g : ab_G} (h : gx g) : ab_ty g 110 = 1 := (h.1 (110, 1, 8) (by decide)).1
theorem gl110 {g : ab_G} (h : gx g) : ab_ln g 110 = 8 := (h.1 (110, 1, 8) (by decide)).2
theorem gt111 {g : ab_G} (h : gx g) : ab_ty g 111 = 1 := (h.1 (111, 1, 80) (by decide)).1
theorem gl111 {g : ab_G} (h : gx g) : ab_ln g 111 = 80 := (h.1 (111, 1, 80) (by decide)).2
theorem gt112 {g : ab_G} (h : gx g) : ab_ty g 112 = 1 := (h.1 (112, 1, 2750) (by decide)).1
theorem gl112 {g : ab_G} (h : gx g) : ab_ln g 112 = 2750 := (h.1 (112, 1, 2750) (by decide)).2
theorem gt113 {g : ab_G} (h : gx g) : ab_ty g 113 = 1 := (h.1 (113, 1, 120) (by decide)).1
theorem gl113 {g : ab_G} (h : gx g) : ab_ln g 113 = 120 := (h.1 (113, 1, 120) (by decide)).2
theorem gt114 {g : ab_G} (h : gx g) : ab_ty g 114 = 1 := (h.1 (114, 1, 250) (by decide)).1
theorem gl114 {g : ab_G} (h : gx g) : ab_ln g 114 = 250 := (h.1 (114, 1, 250) (by decide)).2
theorem gt115 {g : ab_G} (h : gx g) : ab_ty g 115 = 1 := (h.1 (115, 1, 125) (by decide)).1
theorem gl115 {g : ab_G} (h : gx g) : ab_ln g 115 = 125 := (h.1 (115, 1, 125) (by decide)).2
theorem gt116 {g : ab_G} (h : gx g) : ab_ty g 116 = 1 := (h.1 (116, 1, 20) (by decide)).1
theorem gl116 {g : ab_G} (h : gx g) : ab_ln g 116 = 20 := (h.1 (116, 1, 20) (by decide)).2
theorem gt117 {g : ab_G} (h : gx g) : ab_ty g 117 = 1 := (h.1 (117, 1, 128) (by decide)).1
theorem gl117 {g : ab_G} (h : gx g) : ab_ln g 117 = 128 := (h.1 (117, 1, 128) (by decide)).2
theorem gt118 {g : ab_G} (h : gx g) : ab_ty g 118 = 2 := (h.1 (118, 2, 3) (by decide)).1
theorem gl118 {g : ab_G} (h : gx g) : ab_ln g 118 = 3 := (h.1 (118, 2, 3) (by decide)).2
theorem gt119 {g : ab_G} (h : gx g) : ab_ty g 119 = 2 := (h.1 (119, 2, 3) (by decide)).1
theorem gl119 {g : ab_G} (h : gx g) : ab_ln g 119 = 3 := (h.1 (119, 2, 3) (by decide)).2
theorem gt120 {g : ab_G} (h : gx g) : ab_ty g 120 = 2 := (h.1 (120, 2, 1024) (by decide)).1
theorem gl120 {g : ab_G} (h : gx g) : ab_ln g 120 = 1024 := (h.1 (120, 2, 1024) (by decide)).2
theorem gt121 {g : ab_G} (h : gx g) : ab_ty g 121 = 1 := (h.1 (121, 1, 1024) (by decide)).1
theorem gl121 {g : ab_G} (h : gx g) : ab_ln g 121 = 1024 := (h.1 (121, 1, 1024) (by decide)).2
theorem gt122 {g : ab_G} (h : gx g) : ab_ty g 122 = 2 := (h.1 (122, 2, 1024) (by decide)).1
theorem gl122 {g : ab_G} (h : gx g) : ab_ln g 122 = 1024 := (h.1 (122, 2, 1024) (by decide)).2
theorem gt123 {g : ab_G} (h : gx g) : ab_ty g 123 = 2 := (h.1 (123, 2, 1024) (by decide)).1
theorem gl123 {g : ab_G} (h : gx g) : ab_ln g 123 = 1024 := (h.1 (123, 2, 1024) (by decide)).2
theorem gt124 {g : ab_G} (h : gx g) : ab_ty g 124 = 2 := (h.1 (124, 2, 1024) (by decide)).1
theorem gl124 {g : ab_G} (h : gx g) : ab_ln g 124 = 1024 := (h.1 (124, 2, 1024) (by decide)).2
theorem gt125 {g : ab_G} (h : gx g) : ab_ty g 125 = 1 := (h.1 (125, 1, 4) (by decide)).1
theorem gl125 {g : ab_G} (h : gx g) : ab_ln g 125 = 4 := (h.1 (125, 1, 4) (by decide)).2
theorem gt126 {g : ab_G} (h : gx g) : ab_ty g 126 = 1 := (h.1 (126, 1, 4) (by decide)).1
theorem gl126 {g : ab_G} (h : gx g) : ab_ln g 126 = 4 := (h.1 (126, 1, 4) (by decide)).2
theorem gt127 {g : ab_G} (h : gx g) : ab_ty g 127 = 2 := (h.1 (127, 2, 160) (by decide)).1
theorem gl127 {g : ab_G} (h : gx g) : ab_ln g 127 = 160 := (h.1 (127, 2, 160) (by decide)).2
theorem gr29_0 {g : ab_G} (h : gx g) : ab_R g 29 0 = some 30 := h.2.1 (29, 0, 30) (by decide)
theorem gr29_1 {g : ab_G} (h : gx g) : ab_R g 29 1 = some 42 := h.2.1 (29, 1, 42) (by decide)
theorem gr29_3 {g : ab_G} (h : gx g) : ab_R g 29 3 = some 54 := h.2.1 (29, 3, 54) (by decide)
theorem gr29_4 {g : ab_G} (h : gx g) : ab_R g 29 4 = some 56 := h.2.1 (29, 4, 56) (by decide)
theorem gr29_5 {g : ab_G} (h : gx g) : ab_R g 29 5 = some 61 := h.2.1 (29, 5, 61) (by decide)
theorem gr29_6 {g : ab_G} (h : gx g) : ab_R g 29 6 = some 67 := h.2.1 (29, 6, 67) (by decide)
theorem gr29_7 {g : ab_G} (h : gx g) : ab_R g 29 7 = some 72 := h.2.1 (29, 7, 72) (by decide)
theorem gr29_8 {g : ab_G} (h : gx g) : ab_R g 29 8 = some 77 := h.2.1 (29, 8, 77) (by decide)
theorem gr29_9 {g : ab_G} (h : gx g) : ab_R g 29 9 = some 88 := h.2.1 (29, 9, 88) (by decide)
theorem gr29_10 {g : ab_G} (h : gx g) : ab_R g 29 10 = some 91 := h.2.1 (29, 10, 91) (by decide)
theorem gr29_11 {g : ab_G} (h : gx g) : ab_R g 29 11 = some 100 := h.2.1 (29, 11, 100) (by decide)
theorem gr30_0 {g : ab_G} (h : gx g) : ab_R g 30 0 = some 31 := h.2.1 (30, 0, 31) (by decide)
theorem gr30_1 {g : ab_G} (h : gx g) : ab_R g 30 1 = some 32 := h.2.1 (30, 1, 32) (by decide)
theorem gr30_2 {g : ab_G} (h : gx g) : ab_R g 30 2 = some 35 := h.2.1 (30, 2, 35) (by decide)
theorem gr30_3 {g : ab_G} (h : gx g) : ab_R g 30 3 = some 36 := h.2.1 (30, 3, 36) (by decide)
theorem gr30_4 {g : ab_G} (h : gx g) : ab_R g 30 4 = some 39 := h.2.1 (30, 4, 39) (by decide)
theorem gr30_5 {g : ab_G} (h : gx g) : ab_R g 30 5 = some 40 := h.2.1 (30, 5, 40) (by decide)
theorem gr30_6 {g : ab_G} (h : gx g) : ab_R g 30 6 = some 41 := h.2.1 (30, 6, 41) (by decide)
theorem gr32_0 {g : ab_G} (h : gx g) : ab_R g 32 0 = some 33 := h.2.1 (32, 0, 33) (by decide)
theorem gr32_1 {g : ab_G} (h : gx g) : ab_R g 32 1 = some 34 := h.2.1 (32, 1, 34) (by decide)
theorem gr36_0 {g : ab_G} (h : gx g) : ab_R g 36 0 = some 37 := h.2.1 (36, 0, 37) (by decide)
theorem gr36_1 {g : ab_G} (h : gx g) : ab_R g 36 1 = some 38 := h.2.1 (36, 1, 38) (by decide)
theorem gr42_0 {g : ab_G} (h : gx g) : ab_R g 42 0 = some 43 := h.2.1 (42, 0, 43) (by decide)
theorem gr42_1 {g : ab_G} (h : gx g) : ab_R g 42 1 = some 44 := h.2.1 (42, 1, 44) (by decide)
theorem gr42_2 {g : ab_G} (h : gx g) : ab_R g 42 2 = some 47 := h.2.1 (42, 2, 47) (by decide)
theorem gr42_3 {g : ab_G} (h : gx g) : ab_R g 42 3 = some 48 := h.2.1 (42, 3, 48) (by decide)
theorem gr42_4 {g : ab_G} (h : gx g) : ab_R g 42 4 = some 51 := h.2.1 (42, 4, 51) (by decide)
theorem gr42_5 {g : ab_G} (h : gx g) : ab_R g 42 5 = some 52 := h.2.1 (42, 5, 52) (by decide)
theorem gr42_6 {g : ab_G} (h : gx g) : ab_R g 42 6 = some 53 := h.2.1 (42, 6, 53) (by decide)
theorem gr44_0 {g : ab_G} (h : gx g) : ab_R g 44 0 = some 45 := h.2.1 (44, 0, 45) (by decide)
theorem gr44_1 {g : ab_G} (h : gx g) : ab_R g 44 1 = some 46 := h.2.1 (44, 1, 46) (by decide)
theorem gr48_0 {g : ab_G} (h : gx g) : ab_R g 48 0 = some 49 := h.2.1 (48, 0, 49) (by decide)
theorem gr48_1 {g : ab_G} (h : gx g) : ab_R g 48 1 = some 50 := h.2.1 (48, 1, 50) (by decide)
theorem gr54_0 {g : ab_G} (h : gx g) : ab_R g 54 0 = some 55 := h.2.1 (54, 0, 55) (by decide)
theorem gr56_0 {g : ab_G} (h : gx g) : ab_R g 56 0 = some 54 := h.2.1 (56, 0, 54) (by decide)
theorem gr56_1 {g : ab_G} (h : gx g) : ab_R g 56 1 = some 57 := h.2.1 (56, 1, 57) (by decide)
theorem gr56_2 {g : ab_G} (h : gx g) : ab_R g 56 2 = some 58 := h.2.1 (56, 2, 58) (by decide)
theorem gr56_3 {g : ab_G} (h : gx g) : ab_R g 56 3 = some 59 := h.2.1 (56, 3, 59) (by decide)
theorem gr56_6 {g : ab_G} (h : gx g) : ab_R g 56 6 = some 60 := h.2.1 (56, 6, 60) (by decide)
theorem gr61_0 {g : ab_G} (h : gx g) : ab_R g 61 0 = some 62 := h.2.1 (61, 0, 62) (by decide)
theorem gr61_1 {g : ab_G} (h : gx g) : ab_R g 61 1 = some 63 := h.2.1 (61, 1, 63) (by decide)
theorem gr61_2 {g : ab_G} (h : gx g) : ab_R g 61 2 = some 64 := h.2.1 (61, 2, 64) (by decide)
theorem gr61_3 {g : ab_G} (h : gx g) : ab_R g 61 3 = some 65 := h.2.1 (61, 3, 65) (by decide)
theorem gr61_4 {g : ab_G} (h : gx g) : ab_R g 61 4 = some 66 := h.2.1 (61, 4, 66) (by decide)
theorem gr67_0 {g : ab_G} (h : gx g) : ab_R g 67 0 = some 68 := h.2.1 (67, 0, 68) (by decide)
theorem gr68_0 {g : ab_G} (h : gx g) : ab_R g 68 0 = some 69 := h.2.1 (68, 0, 69) (by decide)
theorem gr68_1 {g : ab_G} (h : gx g) : ab_R g 68 1 = some 70 := h.2.1 (68, 1, 70) (by decide)
theorem gr68_2 {g : ab_G} (h : gx g) : ab_R g 68 2 = some 71 := h.2.1 (68, 2, 71) (by decide)
theorem gr72_0 {g : ab_G} (h : gx g) : ab_R g 72 0 = some 73 := h.2.1 (72, 0, 73) (by decide)
theorem gr73_0 {g : ab_G} (h : gx g) : ab_R g 73 0 = some 74 := h.2.1 (73, 0, 74) (by decide)
theorem gr73_1 {g : ab_G} (h : gx g) : ab_R g 73 1 = some 75 := h.2.1 (73, 1, 75) (by decide)
theorem gr73_2 {g : ab_G} (h : gx g) : ab_R g 73 2 = some 76 := h.2.1 (73, 2, 76) (by decide)
theorem gr77_0 {g : ab_G} (h : gx g) : ab_R g 77 0 = some 78 := h.2.1 (77, 0, 78) (by decide)
theorem gr77_1 {g : ab_G} (h : gx g) : ab_R g 77 1 = some 81 := h.2.1 (77, 1, 81) (by decide)
theorem gr77_4 {g : ab_G} (h : gx g) : ab_R g 77 4 = some 82 := h.2.1 (77, 4, 82) (by decide)
theorem gr77_5 {g : ab_G} (h : gx g) : ab_R g 77 5 = some 85 := h.2.1 (77, 5, 85) (by decide)
theorem gr78_0 {g : ab_G} (h : gx g) : ab_R g 78 0 = some 79 := h.2.1 (78, 0, 79) (by decide)
theorem gr78_1 {g : ab_G} (h : gx g) : ab_R g 78 1 = some 80 := h.2.1 (78, 1, 80) (by decide)
theorem gr82_0 {g : ab_G} (h : gx g) : ab_R g 82 0 = some 83 := h.2.1 (82, 0, 83) (by decide)
theorem gr82_1 {g : ab_G} (h : gx g) : ab_R g 82 1 = some 84 := h.2.1 (82, 1, 84) (by decide)
theorem gr85_0 {g : ab_G} (h : gx g) : ab_R g 85 0 = some 86 := h.2.1 (85, 0, 86) (by decide)
theorem gr85_1 {g : ab_G} (h : gx g) : ab_R g 85 1 = some 87 := h.2.1 (85, 1, 87) (by decide)
theorem gr88_0 {g : ab_G} (h : gx g) : ab_R g 88 0 = some 89 := h.2.1 (88, 0, 89) (by decide)
theorem gr88_1 {g : ab_G} (h : gx g) : ab_R g 88 1 = some 90 := h.2.1 (88, 1, 90) (by decide)
theorem gr91_0 {g : ab_G} (h : gx g) : ab_R g 91 0 = some 92 := h.2.1 (91, 0, 92) (by decide)
theorem gr91_1 {g : ab_G} (h : gx g) : ab_R g 91 1 = some 94 := h.2.1 (91, 1, 94) (by decide)
theorem gr91_2 {g : ab_G} (h : gx g) : ab_R g 91 2 = some 96 := h.2.1 (91, 2, 96) (by decide)
theorem gr91_3 {g : ab_G} (h : gx g) : ab_R g 91 3 = some 98 := h.2.1 (91, 3, 98) (by decide)
theorem gr92_0 {g : ab_G} (h : gx g) : ab_R g 92 0 = some 93 := h.2.1 (92, 0, 93) (by decide)
theorem gr94_0 {g : ab_G} (h : gx g) : ab_R g 94 0 = some 95 := h.2.1 (94, 0, 95) (by decide)
theorem gr96_0 {g : ab_G} (h : gx g) : ab_R g 96 0 = some 97 := h.2.1 (96, 0, 97) (by decide)
theorem gr98_0 {g : ab_G} (h : gx g) : ab_R g 98 0 = some 99 := h.2.1 (98, 0, 99) (by decide)
theorem gr101_0 {g : ab_G} (h : gx g) : ab_R g 101 0 = some 102 := h.2.1 (101, 0, 102) (by decide)
theorem gr101_1 {g : ab_G} (h : gx g) : ab_R g 101 1 = some 103 := h.2.1 (101, 1, 103) (by decide)
theorem gr101_2 {g : ab_G} (h : gx g) : ab_R g 101 2 = some 104 := h.2.1 (101, 2, 104) (by decide)
theorem gr101_3 {g : ab_G} (h : gx g) : ab_R g 101 3 = some 105 := h.2.1 (101, 3, 105) (by decide)
theorem gr101_4 {g : ab_G} (h : gx g) : ab_R g 101 4 = some 106 := h.2.1 (101, 4, 106) (by decide)
theorem gr101_5 {g : ab_G} (h : gx g) : ab_R g 101 5 = some 107 := h.2.1 (101, 5, 107) (by decide)
theorem gr101_6 {g : ab_G} (h : gx g) : ab_R g 101 6 = some 108 := h.2.1 (101, 6, 108) (by decide)
theorem gr101_7 {g : ab_G} (h : gx g) : ab_R g 101 7 = some 109 := h.2.1 (101, 7, 109) (by decide)
theorem gr101_8 {g : ab_G} (h : gx g) : ab_R g 101 8 = some 110 := h.2.1 (101, 8, 110) (by decide)
theorem gr101_9 {g : ab_G} (h : gx g) : ab_R g 101 9 = some 111 := h.2.1 (101, 9, 111) (by decide)
theorem gr101_10 {g : ab_G} (h : gx g) : ab_R g 101 10 = some 112 := h.2.1 (101, 10, 112) (by decide)
theorem gr101_12 {g : ab_G} (h : gx g) : ab_R g 101 12 = some 113 := h.2.1 (101, 12, 113) (by decide)
theorem gr101_22 {g : ab_G} (h : gx g) : ab_R g 101 22 = some 114 := h.2.1 (101, 22, 114) (by decide)
theorem gr101_23 {g : ab_G} (h : gx g) : ab_R g 101 23 = some 115 := h.2.1 (101, 23, 115) (by decide)
theorem gr101_26 {g : ab_G} (h : gx g) : ab_R g 101 26 = some 116 := h.2.1 (101, 26, 116) (by decide)
theorem gr101_27 {g : ab_G} (h : gx g) : ab_R g 101 27 = some 117 := h.2.1 (101, 27, 117) (by decide)
theorem gr101_28 {g : ab_G} (h : gx g) : ab_R g 101 28 = some 118 := h.2.1 (101, 28, 118) (by decide)
theorem gr101_29 {g : ab_G} (h : gx g) : ab_R g 101 29 = some 119 := h.2.1 (101, 29, 119) (by decide)
theorem gr101_30 {g : ab_G} (h : gx g) : ab_R g 101 30 = some 120 := h.2.1 (101, 30, 120) (by decide)
theorem gr101_31 {g : ab_G} (h : gx g) : ab_R g 101 31 = some 121 := h.2.1 (101, 31, 121) (by decide)
theorem gr101_32 {g : ab_G} (h : gx g) : ab_R g 101 32 = some 122 := h.2.1 (101, 32, 122) (by decide)
theorem gr101_33 {g : ab_G} (h : gx g) : ab_R g 101 33 = some 123 := h.2.1 (101, 33, 123) (by decide)
theorem gr101_34 {g : ab_G} (h : gx g) : ab_R g 101 34 = some 124 := h.2.1 (101, 34, 124) (by decide)
theorem gr101_39 {g : ab_G} (h : gx g) : ab_R g 101 39 = some 125 := h.2.1 (101, 39, 125) (by decide)
theorem gr101_40 {g : ab_G} (h : gx g) : ab_R g 101 40 = some 126 := h.2.1 (101, 40, 126) (by decide)
theorem gr101_41 {g : ab_G} (h : gx g) : ab_R g 101 41 = some 127 := h.2.1 (101, 41, 127) (by decide)
theorem tn0 : (0 : Int32).toNatClampNeg = 0 := rfl
theorem tn1 : (1 : Int32).toNatClampNeg = 1 := rfl
theorem tn2 : (2 : Int32).toNatClampNeg = 2 := rfl
theorem tn3 : (3 : Int32).toNatClampNeg = 3 := rfl
theorem tn4 : (4 : Int32).toNatClampNeg = 4 := rfl
theorem tn5 : (5 : Int32).toNatClampNeg = 5 := rfl
theorem tn6 : (6 : Int32).toNatClampNeg = 6 := rfl
theorem tn7 : (7 : Int32).toNatClampNeg = 7 := rfl
theorem tn8 : (8 : Int32).toNatClampNeg = 8 := rfl
theorem tn9 : (9 : Int32).toNatClampNeg = 9 := rfl
theorem tn10 : (10 : Int32).toNatClampNeg = 10 := rfl
theorem tn11 : (11 : Int32).toNatClampNeg = 11 := rfl
theorem tn12 : (12 : Int32).toNatClampNeg = 12 := rfl
theorem tn13 : (13 : Int32).toNatClampNeg = 13 := rfl
theorem tn14 : (14 : Int32).toNatClampNeg = 14 := rfl
theorem tn15 : (15 : Int32).toNatClampNeg = 15 := rfl
theorem tn16 : (16 : Int32).toNatClampNeg = 16 := rfl
theorem tn17 : (17 : Int32).toNatClampNeg = 17 := rfl
theorem tn18 : (18 : Int32).toNatClampNeg = 18 := rfl
theorem tn19 : (19 : Int32).toNatClampNeg = 19 := rfl
theorem tn20 : (20 : Int32).toNatClampNeg = 20 := rfl
theorem tn21 : (21 : Int32).toNatClampNeg = 21 := rfl
theorem tn22 : (22 : Int32).toNatClampNeg = 22 := rfl
theorem tn23 : (23 : Int32).toNatClampNeg = 23 := rfl
theorem tn24 : (24 : Int32).toNatClampNeg = 24 := rfl
theorem tn25 : (25 : Int32).toNatClampNeg = 25 := rfl
theorem tn26 : (26 : Int32).toNatClampNeg = 26 := rfl
theorem tn27 : (27 : Int32).toNatClampNeg = 27 := rfl
theorem tn28 : (28 : Int32).toNatClampNeg = 28 := rfl
theorem tn29 : (29 : Int32).toNatClampNeg = 29 := rfl
theorem tn30 : (30 : Int32).toNatClampNeg = 30 := rfl
theorem tn31 : (31 : Int32).toNatClampNeg = 31 := rfl
theorem tn32 : (32 : Int32).toNatClampNeg = 32 := rfl
theorem tn33 : (33 : Int32).toNatClampNeg = 33 := rfl
theorem tn34 : (34 : Int32).toNatClampNeg = 34 := rfl
theorem tn35 : (35 : Int32).toNatClampNeg = 35 := rfl
theorem tn36 : (36 : Int32).toNatClampNeg = 36 := rfl
theorem tn37 : (37 : Int32).toNatClampNeg = 37 := rfl
theorem tn38 : (38 : Int32).toNatClampNeg = 38 := rfl
theorem tn39 : (39 : Int32).toNatClampNeg = 39 := rfl
theorem tn40 : (40 : Int32).toNatClampNeg = 40 := rfl
theorem tn41 : (41 : Int32).toNatClampNeg = 41 := rfl
theorem tn42 : (42 : Int32).toNatClampNeg = 42 := rfl
theorem tn43 : (43 : Int32).toNatClampNeg = 43 := rfl
theorem tn44 : (44 : Int32).toNatClampNeg = 44 := rfl
theorem tn45 : (45 : Int32).toNatClampNeg = 45 := rfl
theorem tn46 : (46 : Int32).toNatClampNeg = 46 := rfl
theorem tn47 : (47 : Int32).toNatClampNeg = 47 := rfl
theorem tn48 : (48 : Int32).toNatClampNeg = 48 := rfl
theorem tn49 : (49 : Int32).toNatClampNeg = 49 := rfl
theorem tn50 : (50 : Int32).toNatClampNeg = 50 := rfl
theorem tn51 : (51 : Int32).toNatClampNeg = 51 := rfl
theorem tn52 : (52 : Int32).toNatClampNeg = 52 := rfl
theorem tn53 : (53 : Int32).toNatClampNeg = 53 := rfl
theorem tn54 : (54 : Int32).toNatClampNeg = 54 := rfl
theorem tn55 : (55 : Int32).toNatClampNeg = 55 := rfl
theorem tn56 : (56 : Int32).toNatClampNeg = 56 := rfl
theorem tn57 : (57 : Int32).toNatClampNeg = 57 := rfl
theorem tn58 : (58 : Int32).toNatClampNeg = 58 := rfl
theorem tn59 : (59 : Int32).toNatClampNeg = 59 := rfl
theorem tn60 : (60 : Int32).toNatClampNeg = 60 := rfl
theorem tn61 : (61 : Int32).toNatClampNeg = 61 := rfl
theorem tn62 : (62 : Int32).toNatClampNeg = 62 := rfl
theorem tn63 : (63 : Int32).toNatClampNeg = 63 := rfl
theorem tn64 : (64 : Int32).toNatClampNeg = 64 := rfl
theorem tn65 : (65 : Int32).toNatClampNeg = 65 := rfl
theorem tn66 : (66 : Int32).toNatClampNeg = 66 := rfl
theorem tn67 : (67 : Int32).toNatClampNeg = 67 := rfl
theorem tn68 : (68 : Int32).toNatClampNeg = 68 := rfl
theorem tn69 : (69 : Int32).toNatClampNeg = 69 := rfl
theorem tn80 : (80 : Int32).toNatClampNeg = 80 := rfl
theorem tn100 : (100 : Int32).toNatClampNeg = 100 := rfl
theorem tn119 : (119 : Int32).toNatClampNeg = 119 := rfl
theorem tn120 : (120 : Int32).toNatClampNeg = 120 := rfl
theorem tn124 : (124 : Int32).toNatClampNeg = 124 := rfl
theorem tn125 : (125 : Int32).toNatClampNeg = 125 := rfl
theorem tn126 : (126 : Int32).toNatClampNeg = 126 := rfl
theorem tn127 : (127 : Int32).toNatClampNeg = 127 := rfl
theorem tn128 : (128 : Int32).toNatClampNeg = 128 := rfl
theorem tn160 : (160 : Int32).toNatClampNeg = 160 := rfl
theorem tn250 : (250 : Int32).toNatClampNeg = 250 := rfl
theorem tn999 : (999 : Int32).toNatClampNeg = 999 := rfl
theorem tn1023 : (1023 : Int32).toNatClampNeg = 1023 := rfl
theorem tn1024 : (1024 : Int32).toNatClampNeg = 1024 := rfl
theorem tn2500 : (2500 : Int32).toNatClampNeg = 2500 := rfl
theorem tn2625 : (2625 : Int32).toNatClampNeg = 2625 := rfl
theorem tn9999 : (9999 : Int32).toNatClampNeg = 9999 := rfl
