set_option maxRecDepth 20000 in
theorem ggL_law_L_charged : GoodIn wsL_law wsL_charged := goodIn_ca (goodIn_r _ [911, 207, 912, 913, 914, 2, 915, 375, 376, 377, 378, 18, 379, 123, 124, 125, 16, 126, 127, 220, 221, 222, 223, 224, 225, 226, 227, 228, 229, 230, 231, 232, 233, 234, 235, 236, 237, 238, 239, 240, 41, 916, 917, 918, 339, 919, 346, 347, 1062, 1063, 1064, 1065, 1066, 1067, 1068, 1069, 1070, 1071, 1072, 1121, 1122, 1123, 1131, 1132, 1133, 1134, 1135, 1136, 1137, 1138, 1139, 1140] (by decide +kernel) (by decide +kernel)) (goodIn_sub (fun _ h => List.mem_append_left _ (List.mem_append_left _ (List.mem_append_right _ h))) (by decide +kernel))
set_option maxRecDepth 20000 in
theorem gL_law_L_charged : GoodIn wsL_law (va_wsS RL 213 yL_charged wsL_charged) := goodIn_app (goodIn_of _ (by decide +kernel)) ggL_law_L_charged
set_option maxRecDepth 20000 in
theorem ggL_law_X11_charged : GoodIn wsL_law wsX11_charged := goodIn_r _ [923, 194, 404, 405, 406, 5, 407, 359, 196, 197, 198, 199, 924, 925, 926, 927, 77, 652, 905, 906, 907, 908, 104, 100, 80, 96, 835, 836, 837, 838, 106, 107, 103, 839, 840, 841, 842, 843, 844, 845, 846, 847, 848, 849, 850, 90, 87, 89, 88, 820, 821, 822, 823, 86, 85, 84, 1073, 1074, 1075, 1076, 1077, 1078, 1079, 1080, 1081, 1082, 1083, 1084, 1085, 1086, 1087, 1088, 1089, 1090, 1091, 1092, 1093, 1094, 1095, 1096, 1097, 1098, 1099, 1100, 1101, 1102, 1103, 1104, 1105, 1106, 1107, 1108, 1109, 1110, 1111, 1112, 1113, 1114, 1115, 1116, 1117, 1118, 1119, 1120] (by decide +kernel) (by decide +kernel)
set_option maxRecDepth 20000 in
theorem gL_law_X11_charged : GoodIn wsL_law (wsV RL 215 RX11 yX11_charged wsX11_charged) := goodIn_app (goodIn_of _ (by decide +kernel)) ggL_law_X11_charged
theorem dL_law_1702 : decode cL_law 1702 = .ok (.aload_n 1, 1) := by decide +kernel
theorem dL_law_1703 : decode cL_law 1703 = .ok (.aload_n 0, 1) := by decide +kernel
theorem dL_law_1704 : decode cL_law 1704 = .ok (.iload 4, 2) := by decide +kernel
theorem dL_law_1706 : decode cL_law 1706 = .ok (.iconst 1, 1) := by decide +kernel
theorem dL_law_1707 : decode cL_law 1707 = .ok (.iadd, 1) := by decide +kernel
theorem dL_law_1708 : decode cL_law 1708 = .ok (.iaload, 1) := by decide +kernel
theorem dL_law_1709 : decode cL_law 1709 = .ok (.aload_n 3, 1) := by decide +kernel
theorem dL_law_1710 : decode cL_law 1710 = .ok (.invokestatic 213, 3) := by decide +kernel
theorem dL_law_1713 : decode cL_law 1713 = .ok (.istore 5, 2) := by decide +kernel
theorem dL_law_1715 : decode cL_law 1715 = .ok (.aload_n 2, 1) := by decide +kernel
theorem dL_law_1716 : decode cL_law 1716 = .ok (.aload_n 0, 1) := by decide +kernel
theorem dL_law_1717 : decode cL_law 1717 = .ok (.iload 4, 2) := by decide +kernel
theorem dL_law_1719 : decode cL_law 1719 = .ok (.iconst 1, 1) := by decide +kernel
theorem dL_law_1720 : decode cL_law 1720 = .ok (.iadd, 1) := by decide +kernel
theorem dL_law_1721 : decode cL_law 1721 = .ok (.iaload, 1) := by decide +kernel
theorem dL_law_1722 : decode cL_law 1722 = .ok (.invokevirtual 215, 3) := by decide +kernel
theorem dL_law_1725 : decode cL_law 1725 = .ok (.lstore 6, 2) := by decide +kernel
theorem dL_law_1727 : decode cL_law 1727 = .ok (.aload_n 2, 1) := by decide +kernel
theorem dL_law_1728 : decode cL_law 1728 = .ok (.invokevirtual 136, 3) := by decide +kernel
theorem dL_law_1731 : decode cL_law 1731 = .ok (.iload 5, 2) := by decide +kernel
theorem dL_law_1733 : decode cL_law 1733 = .ok (.if_icmp .eq 5, 3) := by decide +kernel
theorem dL_law_1736 : decode cL_law 1736 = .ok (.iconst 0, 1) := by decide +kernel
theorem dL_law_1737 : decode cL_law 1737 = .ok (.ireturn, 1) := by decide +kernel
theorem dL_law_1738 : decode cL_law 1738 = .ok (.iload 5, 2) := by decide +kernel
theorem dL_law_1740 : decode cL_law 1740 = .ok (.ifCond .ne 14, 3) := by decide +kernel
theorem dL_law_1743 : decode cL_law 1743 = .ok (.aload_n 3, 1) := by decide +kernel
theorem dL_law_1744 : decode cL_law 1744 = .ok (.iconst 0, 1) := by decide +kernel
theorem dL_law_1745 : decode cL_law 1745 = .ok (.laload, 1) := by decide +kernel
theorem dL_law_1746 : decode cL_law 1746 = .ok (.lload 6, 2) := by decide +kernel
theorem dL_law_1748 : decode cL_law 1748 = .ok (.lcmp, 1) := by decide +kernel
theorem dL_law_1749 : decode cL_law 1749 = .ok (.ifCond .eq 5, 3) := by decide +kernel
theorem dL_law_1752 : decode cL_law 1752 = .ok (.iconst 0, 1) := by decide +kernel
theorem dL_law_1753 : decode cL_law 1753 = .ok (.ireturn, 1) := by decide +kernel
theorem dL_law_1754 : decode cL_law 1754 = .ok (.goto 579, 3) := by decide +kernel
set_option maxRecDepth 20000 in
set_option maxHeartbeats 4000000 in
theorem lc_charged {p : Program} {l : Launch} {e : Env} {s : State} {m : MethodId} {below : List Frame} {meth : Method} {c : Code} {H : Heap} {locs : List Loc} {cells slots : Nat} {Q : State → Prop} {ls : Array Slot} {D : va_G} {cy : Nat → ClassId} {d0 : Nat} {la : Nat → Int → Nat} {σ : MS} {o a b L x : Nat} {ad : Nat → Nat} {xs : Nat → Int32} {n i : Int} (hlt : l.stackTraces = false) (G : lG p s m c b L xs D cy d0 a o ad) (hB : lB D cy d0 (lA s a o ad) o ad a x n la σ H) (hS : va_S (l9 s) s.heap H locs) (hn : n + 1 ≤ 600) (hi : 0 ≤ i ∧ i + 5 ≤ L) (hf : cells + 24 ≤ room_1.cells ∧ slots + 2100 ≤ room_1.slots) (hl : lv_has ls 8 (lL b x o a i)) (kk : lNext p l e s m below meth c Q D cy d0 a o ad b x i n cells slots) : W p l e room_1 s m #[Value.ref b] below meth c H locs cells slots Q (F0 m 1702 ls []) := by
  have B := G.1.1
  have hts := G.1.2.2.2.1
  obtain ⟨hCP, hM, I, hcp, ho, rfl⟩ := id hB
  refine x_aload_n B hl dL_law_1702 rfl ?_
  refine ls_rd (k := 1) G hS hl rfl rfl hi ⟨by decide, by decide⟩ dL_law_1703 dL_law_1704 dL_law_1706 dL_law_1707 dL_law_1708 ?_
  refine x_aload_n B hl dL_law_1709 rfl ?_
  refine ls_w (av := [.ref (la 0 0), .int (iI (lX xs i 1)), .ref a]) (rest := []) G hB hS hl (wr_charged l hlt D cy d0 (lA s a o ad) la σ (lX_r xs i 1) I hn hCP.2.2.2.2.2.1 hcp (fun h => h.2.1 rfl)) (vx_cwSW 3 hts gL_law_L_charged rfl rfl rfl (by decide +kernel) ⟨Nat.le_of_ble_eq_true rfl, Nat.le_of_ble_eq_true rfl⟩) rfl rfl (by decide) dL_law_1710 ⟨by decide, by decide⟩ hf (fun H1 locs1 hQ hM1 hS1 => ?_)
  refine x_istore B hl dL_law_1713 (by decide) (fun ls hl => ?_)
  refine x_aload_n B hl dL_law_1715 rfl ?_
  refine ls_rd (k := 1) G hS1 hl rfl rfl hi ⟨by decide, by decide⟩ dL_law_1716 dL_law_1717 dL_law_1719 dL_law_1720 dL_law_1721 ?_
  refine ls_m (av := [.int (iI (lX xs i 1))]) (rest := []) G hQ hM1 I hn hcp hS1 hl (m_p_charged l D cy o ad σ I.s (lX_r xs i 1)) (cwV 1 hts gL_law_X11_charged rfl rfl rfl (by decide +kernel) ⟨Nat.le_of_ble_eq_true rfl, Nat.le_of_ble_eq_true rfl⟩) rfl rfl (by decide) dL_law_1722 hf (fun H2 locs2 la2 σ2 hB2 e0 ho2 hS2 => ?_)
  refine x_lstore B hl dL_law_1725 (by decide) (fun ls hl => ?_)
  exact ls_endL G hB2 e0 ho2 hS2 (lv_key hl [(6, _), (5, _), (0, _), (1, _), (2, _), (3, _), (4, _)] rfl) (cwV 0 hts gL_law_X11_thrown rfl rfl rfl (by decide +kernel) ⟨Nat.le_of_ble_eq_true rfl, Nat.le_of_ble_eq_true rfl⟩) hf dL_law_1727 dL_law_1728 dL_law_1731 dL_law_1733 dL_law_1738 dL_law_1740 dL_law_1743 dL_law_1744 dL_law_1745 dL_law_1746 dL_law_1748 dL_law_1749 dL_law_1754 (by decide) (fun H3 locs3 ls3 h1 h2 h3 => kk H3 locs3 la2 σ2 ls3 h1 h2 h3)
set_option maxRecDepth 20000 in
theorem ggL_law_L_bill : GoodIn wsL_law wsL_bill := goodIn_ca (goodIn_r _ [930, 207, 931, 932, 933, 2, 934, 935, 375, 376, 377, 378, 18, 379, 123, 124, 125, 16, 126, 127, 220, 221, 222, 223, 224, 225, 226, 227, 228, 229, 230, 231, 232, 233, 234, 235, 236, 237, 238, 239, 240, 41, 916, 917, 918, 339, 919, 346, 347, 1131, 1132, 1133, 1134, 1135, 1136, 1137, 1138, 1139, 1140, 1062, 1063, 1064, 1065, 1066, 1067, 1068, 1069, 1070, 1071, 1072, 1121, 1122, 1123] (by decide +kernel) (by decide +kernel)) (goodIn_sub (fun _ h => List.mem_append_left _ (List.mem_append_left _ (List.mem_append_right _ h))) (by decide +kernel))
set_option maxRecDepth 20000 in
theorem gL_law_L_bill : GoodIn wsL_law (va_wsS RL 216 yL_bill wsL_bill) := goodIn_app (goodIn_of _ (by decide +kernel)) ggL_law_L_bill
set_option maxRecDepth 20000 in
theorem ggL_law_X11_bill : GoodIn wsL_law wsX11_bill := goodIn_r _ [939, 194, 78, 404, 405, 406, 5, 407, 359, 196, 197, 198, 199, 924, 925, 926, 927, 77, 652, 905, 906, 907, 908, 104, 100, 80, 96, 835, 836, 837, 838, 106, 107, 103, 839, 840, 841, 842, 843, 844, 845, 846, 847, 848, 849, 850, 90, 87, 89, 88, 820, 821, 822, 823, 86, 85, 84, 1073, 1074, 1075, 1076, 1077, 1078, 1079, 1080, 1081, 1082, 1083, 1084, 1085, 1086, 1087, 1088, 1089, 1090, 1091, 1092, 1093, 1094, 1095, 1096, 1097, 1098, 1099, 1100, 1101, 1102, 1103, 1104, 1105, 1106, 1107, 1108, 1109, 1110, 1111, 1112, 1113, 1114, 1115, 1116, 1117, 1118, 1119, 1120] (by decide +kernel) (by decide +kernel)
set_option maxRecDepth 20000 in
theorem gL_law_X11_bill : GoodIn wsL_law (wsV RL 218 RX11 yX11_bill wsX11_bill) := goodIn_app (goodIn_of _ (by decide +kernel)) ggL_law_X11_bill
theorem dL_law_1757 : decode cL_law 1757 = .ok (.aload_n 1, 1) := by decide +kernel
theorem dL_law_1758 : decode cL_law 1758 = .ok (.aload_n 0, 1) := by decide +kernel
theorem dL_law_1759 : decode cL_law 1759 = .ok (.iload 4, 2) := by decide +kernel
theorem dL_law_1761 : decode cL_law 1761 = .ok (.iconst 1, 1) := by decide +kernel
theorem dL_law_1762 : decode cL_law 1762 = .ok (.iadd, 1) := by decide +kernel
theorem dL_law_1763 : decode cL_law 1763 = .ok (.iaload, 1) := by decide +kernel
theorem dL_law_1764 : decode cL_law 1764 = .ok (.aload_n 3, 1) := by decide +kernel
theorem dL_law_1765 : decode cL_law 1765 = .ok (.invokestatic 216, 3) := by decide +kernel
theorem dL_law_1768 : decode cL_law 1768 = .ok (.istore 5, 2) := by decide +kernel
theorem dL_law_1770 : decode cL_law 1770 = .ok (.aload_n 2, 1) := by decide +kernel
theorem dL_law_1771 : decode cL_law 1771 = .ok (.aload_n 0, 1) := by decide +kernel
theorem dL_law_1772 : decode cL_law 1772 = .ok (.iload 4, 2) := by decide +kernel
theorem dL_law_1774 : decode cL_law 1774 = .ok (.iconst 1, 1) := by decide +kernel
theorem dL_law_1775 : decode cL_law 1775 = .ok (.iadd, 1) := by decide +kernel
theorem dL_law_1776 : decode cL_law 1776 = .ok (.iaload, 1) := by decide +kernel
theorem dL_law_1777 : decode cL_law 1777 = .ok (.invokevirtual 218, 3) := by decide +kernel
theorem dL_law_1780 : decode cL_law 1780 = .ok (.lstore 6, 2) := by decide +kernel
theorem dL_law_1782 : decode cL_law 1782 = .ok (.aload_n 2, 1) := by decide +kernel
theorem dL_law_1783 : decode cL_law 1783 = .ok (.invokevirtual 136, 3) := by decide +kernel
theorem dL_law_1786 : decode cL_law 1786 = .ok (.iload 5, 2) := by decide +kernel
theorem dL_law_1788 : decode cL_law 1788 = .ok (.if_icmp .eq 5, 3) := by decide +kernel
theorem dL_law_1791 : decode cL_law 1791 = .ok (.iconst 0, 1) := by decide +kernel
theorem dL_law_1792 : decode cL_law 1792 = .ok (.ireturn, 1) := by decide +kernel
theorem dL_law_1793 : decode cL_law 1793 = .ok (.iload 5, 2) := by decide +kernel
theorem dL_law_1795 : decode cL_law 1795 = .ok (.ifCond .ne 14, 3) := by decide +kernel
theorem dL_law_1798 : decode cL_law 1798 = .ok (.aload_n 3, 1) := by decide +kernel
theorem dL_law_1799 : decode cL_law 1799 = .ok (.iconst 0, 1) := by decide +kernel
theorem dL_law_1800 : decode cL_law 1800 = .ok (.laload, 1) := by decide +kernel
theorem dL_law_1801 : decode cL_law 1801 = .ok (.lload 6, 2) := by decide +kernel
theorem dL_law_1803 : decode cL_law 1803 = .ok (.lcmp, 1) := by decide +kernel
theorem dL_law_1804 : decode cL_law 1804 = .ok (.ifCond .eq 5, 3) := by decide +kernel
theorem dL_law_1807 : decode cL_law 1807 = .ok (.iconst 0, 1) := by decide +kernel
theorem dL_law_1808 : decode cL_law 1808 = .ok (.ireturn, 1) := by decide +kernel
theorem dL_law_1809 : decode cL_law 1809 = .ok (.goto 524, 3) := by decide +kernel
set_option maxRecDepth 20000 in
set_option maxHeartbeats 4000000 in
theorem lc_bill {p : Program} {l : Launch} {e : Env} {s : State} {m : MethodId} {below : List Frame} {meth : Method} {c : Code} {H : Heap} {locs : List Loc} {cells slots : Nat} {Q : State → Prop} {ls : Array Slot} {D : va_G} {cy : Nat → ClassId} {d0 : Nat} {la : Nat → Int → Nat} {σ : MS} {o a b L x : Nat} {ad : Nat → Nat} {xs : Nat → Int32} {n i : Int} (hlt : l.stackTraces = false) (G : lG p s m c b L xs D cy d0 a o ad) (hB : lB D cy d0 (lA s a o ad) o ad a x n la σ H) (hS : va_S (l9 s) s.heap H locs) (hn : n + 1 ≤ 600) (hi : 0 ≤ i ∧ i + 5 ≤ L) (hf : cells + 24 ≤ room_1.cells ∧ slots + 2100 ≤ room_1.slots) (hl : lv_has ls 8 (lL b x o a i)) (kk : lNext p l e s m below meth c Q D cy d0 a o ad b x i n cells slots) : W p l e room_1 s m #[Value.ref b] below meth c H locs cells slots Q (F0 m 1757 ls []) := by
  have B := G.1.1
  have hts := G.1.2.2.2.1
  obtain ⟨hCP, hM, I, hcp, ho, rfl⟩ := id hB
  refine x_aload_n B hl dL_law_1757 rfl ?_
  refine ls_rd (k := 1) G hS hl rfl rfl hi ⟨by decide, by decide⟩ dL_law_1758 dL_law_1759 dL_law_1761 dL_law_1762 dL_law_1763 ?_
  refine x_aload_n B hl dL_law_1764 rfl ?_
  refine ls_w (av := [.ref (la 0 0), .int (iI (lX xs i 1)), .ref a]) (rest := []) G hB hS hl (wr_bill l hlt D cy d0 (lA s a o ad) la σ (lX_r xs i 1) I hn hCP.2.2.2.2.2.1 hcp (fun h => h.2.1 rfl)) (vx_cwSW 3 hts gL_law_L_bill rfl rfl rfl (by decide +kernel) ⟨Nat.le_of_ble_eq_true rfl, Nat.le_of_ble_eq_true rfl⟩) rfl rfl (by decide) dL_law_1765 ⟨by decide, by decide⟩ hf (fun H1 locs1 hQ hM1 hS1 => ?_)
  refine x_istore B hl dL_law_1768 (by decide) (fun ls hl => ?_)
  refine x_aload_n B hl dL_law_1770 rfl ?_
  refine ls_rd (k := 1) G hS1 hl rfl rfl hi ⟨by decide, by decide⟩ dL_law_1771 dL_law_1772 dL_law_1774 dL_law_1775 dL_law_1776 ?_
  refine ls_m (av := [.int (iI (lX xs i 1))]) (rest := []) G hQ hM1 I hn hcp hS1 hl (m_p_bill l D cy o ad σ I.s (lX_r xs i 1)) (cwV 1 hts gL_law_X11_bill rfl rfl rfl (by decide +kernel) ⟨Nat.le_of_ble_eq_true rfl, Nat.le_of_ble_eq_true rfl⟩) rfl rfl (by decide) dL_law_1777 hf (fun H2 locs2 la2 σ2 hB2 e0 ho2 hS2 => ?_)
  refine x_lstore B hl dL_law_1780 (by decide) (fun ls hl => ?_)
  exact ls_endL G hB2 e0 ho2 hS2 (lv_key hl [(6, _), (5, _), (0, _), (1, _), (2, _), (3, _), (4, _)] rfl) (cwV 0 hts gL_law_X11_thrown rfl rfl rfl (by decide +kernel) ⟨Nat.le_of_ble_eq_true rfl, Nat.le_of_ble_eq_true rfl⟩) hf dL_law_1782 dL_law_1783 dL_law_1786 dL_law_1788 dL_law_1793 dL_law_1795 dL_law_1798 dL_law_1799 dL_law_1800 dL_law_1801 dL_law_1803 dL_law_1804 dL_law_1809 (by decide) (fun H3 locs3 ls3 h1 h2 h3 => kk H3 locs3 la2 σ2 ls3 h1 h2 h3)
set_option maxRecDepth 20000 in
theorem ggL_law_L_middle : GoodIn wsL_law wsL_middle := goodIn_ca (goodIn_r _ [956, 207, 957, 958, 959, 2, 960, 417, 418, 419, 420, 19, 421, 123, 124, 125, 16, 126, 127, 220, 221, 222, 223, 224, 225, 226, 227, 228, 229, 230, 231, 232, 233, 234, 235, 236, 237, 238, 239, 240, 41, 620, 621, 622, 623, 33, 21, 624, 590, 589, 591, 625, 626, 627, 32, 628, 67, 629, 630, 631, 632, 66, 633, 634, 635, 636, 637, 638, 639, 640, 641, 1062, 1063, 1064, 1065, 1066, 1067, 1068, 1069, 1070, 1071, 1072, 1121, 1122, 1123, 1159, 1160, 1161, 1162, 1163, 1164, 1165, 1166, 1167, 1168, 1169, 1170, 1171, 1127, 1128] (by decide +kernel) (by decide +kernel)) (goodIn_sub (fun _ h => List.mem_append_left _ (List.mem_append_left _ (List.mem_append_right _ h))) (by decide +kernel))
set_option maxRecDepth 20000 in
theorem gL_law_L_middle : GoodIn wsL_law (va_wsS RL 225 yL_middle wsL_middle) := goodIn_app (goodIn_of _ (by decide +kernel)) ggL_law_L_middle
set_option maxRecDepth 20000 in
theorem ggL_law_X11_middle : GoodIn wsL_law wsX11_middle := goodIn_r _ [964, 194, 434, 435, 436, 5, 437, 403, 196, 197, 198, 199, 657, 658, 659, 660, 652, 100, 102, 109, 99, 1073, 1074, 1075, 1076, 1077, 1078, 1079, 1080, 1081, 1082, 1083, 1084, 1085, 1086, 1087, 1088, 1089, 1090, 1091, 1092, 1093, 1094, 1095, 1096, 1097, 1098, 1099, 1100, 1101, 1102, 1103, 1104, 1105, 1106, 1107, 1108, 1109, 1110, 1111, 1112, 1113, 1114, 1115, 1116, 1117, 1118, 1119, 1120] (by decide +kernel) (by decide +kernel)
set_option maxRecDepth 20000 in
theorem gL_law_X11_middle : GoodIn wsL_law (wsV RL 227 RX11 yX11_middle wsX11_middle) := goodIn_app (goodIn_of _ (by decide +kernel)) ggL_law_X11_middle
theorem dL_law_1911 : decode cL_law 1911 = .ok (.aload_n 1, 1) := by decide +kernel
theorem dL_law_1912 : decode cL_law 1912 = .ok (.aload_n 0, 1) := by decide +kernel
theorem dL_law_1913 : decode cL_law 1913 = .ok (.iload 4, 2) := by decide +kernel
theorem dL_law_1915 : decode cL_law 1915 = .ok (.iconst 1, 1) := by decide +kernel
theorem dL_law_1916 : decode cL_law 1916 = .ok (.iadd, 1) := by decide +kernel
theorem dL_law_1917 : decode cL_law 1917 = .ok (.iaload, 1) := by decide +kernel
theorem dL_law_1918 : decode cL_law 1918 = .ok (.aload_n 3, 1) := by decide +kernel
theorem dL_law_1919 : decode cL_law 1919 = .ok (.invokestatic 225, 3) := by decide +kernel
theorem dL_law_1922 : decode cL_law 1922 = .ok (.istore 5, 2) := by decide +kernel
theorem dL_law_1924 : decode cL_law 1924 = .ok (.aload_n 2, 1) := by decide +kernel
theorem dL_law_1925 : decode cL_law 1925 = .ok (.aload_n 0, 1) := by decide +kernel
theorem dL_law_1926 : decode cL_law 1926 = .ok (.iload 4, 2) := by decide +kernel
theorem dL_law_1928 : decode cL_law 1928 = .ok (.iconst 1, 1) := by decide +kernel
theorem dL_law_1929 : decode cL_law 1929 = .ok (.iadd, 1) := by decide +kernel
theorem dL_law_1930 : decode cL_law 1930 = .ok (.iaload, 1) := by decide +kernel
theorem dL_law_1931 : decode cL_law 1931 = .ok (.invokevirtual 227, 3) := by decide +kernel
theorem dL_law_1934 : decode cL_law 1934 = .ok (.istore 6, 2) := by decide +kernel
theorem dL_law_1936 : decode cL_law 1936 = .ok (.aload_n 2, 1) := by decide +kernel
theorem dL_law_1937 : decode cL_law 1937 = .ok (.invokevirtual 136, 3) := by decide +kernel
theorem dL_law_1940 : decode cL_law 1940 = .ok (.iload 5, 2) := by decide +kernel
theorem dL_law_1942 : decode cL_law 1942 = .ok (.if_icmp .eq 5, 3) := by decide +kernel
theorem dL_law_1945 : decode cL_law 1945 = .ok (.iconst 0, 1) := by decide +kernel
theorem dL_law_1946 : decode cL_law 1946 = .ok (.ireturn, 1) := by decide +kernel
theorem dL_law_1947 : decode cL_law 1947 = .ok (.iload 5, 2) := by decide +kernel
theorem dL_law_1949 : decode cL_law 1949 = .ok (.ifCond .ne 15, 3) := by decide +kernel
theorem dL_law_1952 : decode cL_law 1952 = .ok (.aload_n 3, 1) := by decide +kernel
theorem dL_law_1953 : decode cL_law 1953 = .ok (.iconst 0, 1) := by decide +kernel
theorem dL_law_1954 : decode cL_law 1954 = .ok (.laload, 1) := by decide +kernel
theorem dL_law_1955 : decode cL_law 1955 = .ok (.iload 6, 2) := by decide +kernel
theorem dL_law_1957 : decode cL_law 1957 = .ok (.i2l, 1) := by decide +kernel
theorem dL_law_1958 : decode cL_law 1958 = .ok (.lcmp, 1) := by decide +kernel
theorem dL_law_1959 : decode cL_law 1959 = .ok (.ifCond .eq 5, 3) := by decide +kernel
theorem dL_law_1962 : decode cL_law 1962 = .ok (.iconst 0, 1) := by decide +kernel
theorem dL_law_1963 : decode cL_law 1963 = .ok (.ireturn, 1) := by decide +kernel
theorem dL_law_1964 : decode cL_law 1964 = .ok (.goto 369, 3) := by decide +kernel
set_option maxRecDepth 20000 in
set_option maxHeartbeats 4000000 in
theorem lc_middle {p : Program} {l : Launch} {e : Env} {s : State} {m : MethodId} {below : List Frame} {meth : Method} {c : Code} {H : Heap} {locs : List Loc} {cells slots : Nat} {Q : State → Prop} {ls : Array Slot} {D : va_G} {cy : Nat → ClassId} {d0 : Nat} {la : Nat → Int → Nat} {σ : MS} {o a b L x : Nat} {ad : Nat → Nat} {xs : Nat → Int32} {n i : Int} (hlt : l.stackTraces = false) (G : lG p s m c b L xs D cy d0 a o ad) (hB : lB D cy d0 (lA s a o ad) o ad a x n la σ H) (hS : va_S (l9 s) s.heap H locs) (hn : n + 1 ≤ 600) (hi : 0 ≤ i ∧ i + 5 ≤ L) (hf : cells + 24 ≤ room_1.cells ∧ slots + 2100 ≤ room_1.slots) (hl : lv_has ls 8 (lL b x o a i)) (kk : lNext p l e s m below meth c Q D cy d0 a o ad b x i n cells slots) : W p l e room_1 s m #[Value.ref b] below meth c H locs cells slots Q (F0 m 1911 ls []) := by
  have B := G.1.1
  have hts := G.1.2.2.2.1
  obtain ⟨hCP, hM, I, hcp, ho, rfl⟩ := id hB
  refine x_aload_n B hl dL_law_1911 rfl ?_
  refine ls_rd (k := 1) G hS hl rfl rfl hi ⟨by decide, by decide⟩ dL_law_1912 dL_law_1913 dL_law_1915 dL_law_1916 dL_law_1917 ?_
  refine x_aload_n B hl dL_law_1918 rfl ?_
  refine ls_w (av := [.ref (la 0 0), .int (iI (lX xs i 1)), .ref a]) (rest := []) G hB hS hl (wr_middle l hlt D cy d0 (lA s a o ad) la σ (lX_r xs i 1) I hn hCP.2.2.2.2.2.1 hcp (fun h => h.2.1 rfl)) (vx_cwSW 3 hts gL_law_L_middle rfl rfl rfl (by decide +kernel) ⟨Nat.le_of_ble_eq_true rfl, Nat.le_of_ble_eq_true rfl⟩) rfl rfl (by decide) dL_law_1919 ⟨by decide, by decide⟩ hf (fun H1 locs1 hQ hM1 hS1 => ?_)
  refine x_istore B hl dL_law_1922 (by decide) (fun ls hl => ?_)
  refine x_aload_n B hl dL_law_1924 rfl ?_
  refine ls_rd (k := 1) G hS1 hl rfl rfl hi ⟨by decide, by decide⟩ dL_law_1925 dL_law_1926 dL_law_1928 dL_law_1929 dL_law_1930 ?_
  refine ls_m (av := [.int (iI (lX xs i 1))]) (rest := []) G hQ hM1 I hn hcp hS1 hl (m_p_middle l D cy o ad σ I.s (lX_r xs i 1)) (cwV 1 hts gL_law_X11_middle rfl rfl rfl (by decide +kernel) ⟨Nat.le_of_ble_eq_true rfl, Nat.le_of_ble_eq_true rfl⟩) rfl rfl (by decide) dL_law_1931 hf (fun H2 locs2 la2 σ2 hB2 e0 ho2 hS2 => ?_)
  refine x_istore B hl dL_law_1934 (by decide) (fun ls hl => ?_)
  exact ls_endI G hB2 e0 ho2 hS2 (lv_key hl [(6, _), (5, _), (0, _), (1, _), (2, _), (3, _), (4, _)] rfl) (cwV 0 hts gL_law_X11_thrown rfl rfl rfl (by decide +kernel) ⟨Nat.le_of_ble_eq_true rfl, Nat.le_of_ble_eq_true rfl⟩) hf dL_law_1936 dL_law_1937 dL_law_1940 dL_law_1942 dL_law_1947 dL_law_1949 dL_law_1952 dL_law_1953 dL_law_1954 dL_law_1955 dL_law_1957 dL_law_1958 dL_law_1959 dL_law_1964 (by decide) (fun H3 locs3 ls3 h1 h2 h3 => kk H3 locs3 la2 σ2 ls3 h1 h2 h3)
set_option maxRecDepth 20000 in
theorem ggL_law_L_fill : GoodIn wsL_law wsL_fill := goodIn_ca (goodIn_ca (goodIn_r _ [967, 207, 208, 968, 969, 970, 2, 971, 18, 379, 972, 973, 592, 593, 594, 595, 20, 596, 123, 124, 125, 16, 126, 127, 220, 221, 222, 223, 224, 225, 226, 227, 228, 229, 230, 231, 232, 233, 234, 235, 236, 237, 238, 239, 240, 41, 215, 216, 217, 218, 17, 219, 241, 242, 243, 244, 245, 246, 247, 248, 249, 250, 251, 252, 725, 726, 727, 728, 21, 624, 709, 591, 729, 730, 731, 732, 669, 34, 974, 975, 976, 977, 19, 421, 978, 979, 980, 369, 981, 390, 754, 755, 756, 757, 385, 465, 466, 758, 471, 472, 620, 621, 622, 623, 33, 590, 589, 625, 626, 627, 32, 628, 67, 629, 630, 631, 632, 66, 633, 634, 635, 636, 637, 638, 639, 640, 641, 1062, 1063, 1064, 1065, 1066, 1067, 1068, 1069, 1070, 1071, 1072, 1131, 1132, 1133, 1134, 1135, 1136, 1137, 1138, 1139, 1140, 1153, 1154, 1155, 1156, 1157, 1158, 1121, 1122, 1123, 1159, 1160, 1161, 1162, 1163, 1164, 1165, 1166, 1167, 1168, 1169, 1170, 1171, 1141, 1142, 1143, 1144, 1145, 1146, 1147, 1148, 1149, 1127, 1128] (by decide +kernel) (by decide +kernel)) (goodIn_sub (fun _ h => List.mem_append_left _ (List.mem_append_left _ (List.mem_append_right _ h))) (by decide +kernel))) (goodIn_sub (fun _ h => List.mem_append_left _ (List.mem_append_right _ h)) (by decide +kernel))
set_option maxRecDepth 20000 in
theorem gL_law_L_fill : GoodIn wsL_law (va_wsS RL 228 yL_fill wsL_fill) := goodIn_app (goodIn_of _ (by decide +kernel)) ggL_law_L_fill
set_option maxRecDepth 20000 in
theorem ggL_law_X11_fill : GoodIn wsL_law wsX11_fill := goodIn_r _ [985, 194, 261, 359, 75, 403, 80, 287, 91, 653, 654, 655, 5, 656, 535, 264, 265, 266, 267, 195, 196, 197, 198, 199, 268, 269, 270, 812, 813, 814, 815, 652, 96, 97, 99, 986, 987, 988, 820, 821, 822, 823, 86, 85, 84, 657, 658, 659, 660, 100, 102, 109, 1073, 1074, 1075, 1076, 1077, 1078, 1079, 1080, 1081, 1082, 1083, 1084, 1085, 1086, 1087, 1088, 1089, 1090, 1091, 1092, 1093, 1094, 1095, 1096, 1097, 1098, 1099, 1100, 1101, 1102, 1103, 1104, 1105, 1106, 1107, 1108, 1109, 1110, 1111, 1112, 1113, 1114, 1115, 1116, 1117, 1118, 1119, 1120] (by decide +kernel) (by decide +kernel)
set_option maxRecDepth 20000 in
theorem gL_law_X11_fill : GoodIn wsL_law (wsV RL 230 RX11 yX11_fill wsX11_fill) := goodIn_app (goodIn_of _ (by decide +kernel)) ggL_law_X11_fill
theorem dL_law_1967 : decode cL_law 1967 = .ok (.aload_n 1, 1) := by decide +kernel
theorem dL_law_1968 : decode cL_law 1968 = .ok (.aload_n 0, 1) := by decide +kernel
theorem dL_law_1969 : decode cL_law 1969 = .ok (.iload 4, 2) := by decide +kernel
theorem dL_law_1971 : decode cL_law 1971 = .ok (.iconst 1, 1) := by decide +kernel
theorem dL_law_1972 : decode cL_law 1972 = .ok (.iadd, 1) := by decide +kernel
theorem dL_law_1973 : decode cL_law 1973 = .ok (.iaload, 1) := by decide +kernel
theorem dL_law_1974 : decode cL_law 1974 = .ok (.aload_n 0, 1) := by decide +kernel
theorem dL_law_1975 : decode cL_law 1975 = .ok (.iload 4, 2) := by decide +kernel
theorem dL_law_1977 : decode cL_law 1977 = .ok (.iconst 2, 1) := by decide +kernel
theorem dL_law_1978 : decode cL_law 1978 = .ok (.iadd, 1) := by decide +kernel
theorem dL_law_1979 : decode cL_law 1979 = .ok (.iaload, 1) := by decide +kernel
theorem dL_law_1980 : decode cL_law 1980 = .ok (.aload_n 0, 1) := by decide +kernel
theorem dL_law_1981 : decode cL_law 1981 = .ok (.iload 4, 2) := by decide +kernel
theorem dL_law_1983 : decode cL_law 1983 = .ok (.iconst 3, 1) := by decide +kernel
theorem dL_law_1984 : decode cL_law 1984 = .ok (.iadd, 1) := by decide +kernel
theorem dL_law_1985 : decode cL_law 1985 = .ok (.iaload, 1) := by decide +kernel
theorem dL_law_1986 : decode cL_law 1986 = .ok (.aload_n 3, 1) := by decide +kernel
theorem dL_law_1987 : decode cL_law 1987 = .ok (.invokestatic 228, 3) := by decide +kernel
theorem dL_law_1990 : decode cL_law 1990 = .ok (.istore 5, 2) := by decide +kernel
theorem dL_law_1992 : decode cL_law 1992 = .ok (.aload_n 2, 1) := by decide +kernel
theorem dL_law_1993 : decode cL_law 1993 = .ok (.aload_n 0, 1) := by decide +kernel
theorem dL_law_1994 : decode cL_law 1994 = .ok (.iload 4, 2) := by decide +kernel
theorem dL_law_1996 : decode cL_law 1996 = .ok (.iconst 1, 1) := by decide +kernel
theorem dL_law_1997 : decode cL_law 1997 = .ok (.iadd, 1) := by decide +kernel
theorem dL_law_1998 : decode cL_law 1998 = .ok (.iaload, 1) := by decide +kernel
theorem dL_law_1999 : decode cL_law 1999 = .ok (.aload_n 0, 1) := by decide +kernel
theorem dL_law_2000 : decode cL_law 2000 = .ok (.iload 4, 2) := by decide +kernel
theorem dL_law_2002 : decode cL_law 2002 = .ok (.iconst 2, 1) := by decide +kernel
theorem dL_law_2003 : decode cL_law 2003 = .ok (.iadd, 1) := by decide +kernel
theorem dL_law_2004 : decode cL_law 2004 = .ok (.iaload, 1) := by decide +kernel
theorem dL_law_2005 : decode cL_law 2005 = .ok (.aload_n 0, 1) := by decide +kernel
theorem dL_law_2006 : decode cL_law 2006 = .ok (.iload 4, 2) := by decide +kernel
theorem dL_law_2008 : decode cL_law 2008 = .ok (.iconst 3, 1) := by decide +kernel
theorem dL_law_2009 : decode cL_law 2009 = .ok (.iadd, 1) := by decide +kernel
theorem dL_law_2010 : decode cL_law 2010 = .ok (.iaload, 1) := by decide +kernel
theorem dL_law_2011 : decode cL_law 2011 = .ok (.invokevirtual 230, 3) := by decide +kernel
theorem dL_law_2014 : decode cL_law 2014 = .ok (.istore 6, 2) := by decide +kernel
theorem dL_law_2016 : decode cL_law 2016 = .ok (.aload_n 2, 1) := by decide +kernel
theorem dL_law_2017 : decode cL_law 2017 = .ok (.invokevirtual 136, 3) := by decide +kernel
theorem dL_law_2020 : decode cL_law 2020 = .ok (.iload 5, 2) := by decide +kernel
theorem dL_law_2022 : decode cL_law 2022 = .ok (.if_icmp .eq 5, 3) := by decide +kernel
theorem dL_law_2025 : decode cL_law 2025 = .ok (.iconst 0, 1) := by decide +kernel
theorem dL_law_2026 : decode cL_law 2026 = .ok (.ireturn, 1) := by decide +kernel
theorem dL_law_2027 : decode cL_law 2027 = .ok (.iload 5, 2) := by decide +kernel
theorem dL_law_2029 : decode cL_law 2029 = .ok (.ifCond .ne 15, 3) := by decide +kernel
theorem dL_law_2032 : decode cL_law 2032 = .ok (.aload_n 3, 1) := by decide +kernel
theorem dL_law_2033 : decode cL_law 2033 = .ok (.iconst 0, 1) := by decide +kernel
theorem dL_law_2034 : decode cL_law 2034 = .ok (.laload, 1) := by decide +kernel
theorem dL_law_2035 : decode cL_law 2035 = .ok (.iload 6, 2) := by decide +kernel
theorem dL_law_2037 : decode cL_law 2037 = .ok (.i2l, 1) := by decide +kernel
theorem dL_law_2038 : decode cL_law 2038 = .ok (.lcmp, 1) := by decide +kernel
theorem dL_law_2039 : decode cL_law 2039 = .ok (.ifCond .eq 5, 3) := by decide +kernel
theorem dL_law_2042 : decode cL_law 2042 = .ok (.iconst 0, 1) := by decide +kernel
theorem dL_law_2043 : decode cL_law 2043 = .ok (.ireturn, 1) := by decide +kernel
theorem dL_law_2044 : decode cL_law 2044 = .ok (.goto 289, 3) := by decide +kernel
set_option maxRecDepth 20000 in
set_option maxHeartbeats 4000000 in
theorem lc_fill {p : Program} {l : Launch} {e : Env} {s : State} {m : MethodId} {below : List Frame} {meth : Method} {c : Code} {H : Heap} {locs : List Loc} {cells slots : Nat} {Q : State → Prop} {ls : Array Slot} {D : va_G} {cy : Nat → ClassId} {d0 : Nat} {la : Nat → Int → Nat} {σ : MS} {o a b L x : Nat} {ad : Nat → Nat} {xs : Nat → Int32} {n i : Int} (hlt : l.stackTraces = false) (G : lG p s m c b L xs D cy d0 a o ad) (hB : lB D cy d0 (lA s a o ad) o ad a x n la σ H) (hS : va_S (l9 s) s.heap H locs) (hn : n + 1 ≤ 600) (hi : 0 ≤ i ∧ i + 5 ≤ L) (hf : cells + 24 ≤ room_1.cells ∧ slots + 2100 ≤ room_1.slots) (hl : lv_has ls 8 (lL b x o a i)) (kk : lNext p l e s m below meth c Q D cy d0 a o ad b x i n cells slots) : W p l e room_1 s m #[Value.ref b] below meth c H locs cells slots Q (F0 m 1967 ls []) := by
  have B := G.1.1
  have hts := G.1.2.2.2.1
  obtain ⟨hCP, hM, I, hcp, ho, rfl⟩ := id hB
  refine x_aload_n B hl dL_law_1967 rfl ?_
  refine ls_rd (k := 1) G hS hl rfl rfl hi ⟨by decide, by decide⟩ dL_law_1968 dL_law_1969 dL_law_1971 dL_law_1972 dL_law_1973 ?_
  refine ls_rd (k := 2) G hS hl rfl rfl hi ⟨by decide, by decide⟩ dL_law_1974 dL_law_1975 dL_law_1977 dL_law_1978 dL_law_1979 ?_
  refine ls_rd (k := 3) G hS hl rfl rfl hi ⟨by decide, by decide⟩ dL_law_1980 dL_law_1981 dL_law_1983 dL_law_1984 dL_law_1985 ?_
  refine x_aload_n B hl dL_law_1986 rfl ?_
  refine ls_w (av := [.ref (la 0 0), .int (iI (lX xs i 1)), .int (iI (lX xs i 2)), .int (iI (lX xs i 3)), .ref a]) (rest := []) G hB hS hl (wr_fill l hlt D cy d0 (lA s a o ad) la σ (lX_r xs i 1) (lX_r xs i 2) (lX_r xs i 3) I hn hCP.2.2.2.2.2.1 hcp (fun h => h.2.1 rfl)) (vx_cwSW 5 hts gL_law_L_fill rfl rfl rfl (by decide +kernel) ⟨Nat.le_of_ble_eq_true rfl, Nat.le_of_ble_eq_true rfl⟩) rfl rfl (by decide) dL_law_1987 ⟨by decide, by decide⟩ hf (fun H1 locs1 hQ hM1 hS1 => ?_)
  refine x_istore B hl dL_law_1990 (by decide) (fun ls hl => ?_)
  refine x_aload_n B hl dL_law_1992 rfl ?_
  refine ls_rd (k := 1) G hS1 hl rfl rfl hi ⟨by decide, by decide⟩ dL_law_1993 dL_law_1994 dL_law_1996 dL_law_1997 dL_law_1998 ?_
  refine ls_rd (k := 2) G hS1 hl rfl rfl hi ⟨by decide, by decide⟩ dL_law_1999 dL_law_2000 dL_law_2002 dL_law_2003 dL_law_2004 ?_
  refine ls_rd (k := 3) G hS1 hl rfl rfl hi ⟨by decide, by decide⟩ dL_law_2005 dL_law_2006 dL_law_2008 dL_law_2009 dL_law_2010 ?_
  refine ls_m (av := [.int (iI (lX xs i 1)), .int (iI (lX xs i 2)), .int (iI (lX xs i 3))]) (rest := []) G hQ hM1 I hn hcp hS1 hl (m_p_fill l D cy o ad σ I.s (lX_r xs i 1) (lX_r xs i 2) (lX_r xs i 3)) (cwV 3 hts gL_law_X11_fill rfl rfl rfl (by decide +kernel) ⟨Nat.le_of_ble_eq_true rfl, Nat.le_of_ble_eq_true rfl⟩) rfl rfl (by decide) dL_law_2011 hf (fun H2 locs2 la2 σ2 hB2 e0 ho2 hS2 => ?_)
  refine x_istore B hl dL_law_2014 (by decide) (fun ls hl => ?_)
  exact ls_endI G hB2 e0 ho2 hS2 (lv_key hl [(6, _), (5, _), (0, _), (1, _), (2, _), (3, _), (4, _)] rfl) (cwV 0 hts gL_law_X11_thrown rfl rfl rfl (by decide +kernel) ⟨Nat.le_of_ble_eq_true rfl, Nat.le_of_ble_eq_true rfl⟩) hf dL_law_2016 dL_law_2017 dL_law_2020 dL_law_2022 dL_law_2027 dL_law_2029 dL_law_2032 dL_law_2033 dL_law_2034 dL_law_2035 dL_law_2037 dL_law_2038 dL_law_2039 dL_law_2044 (by decide) (fun H3 locs3 ls3 h1 h2 h3 => kk H3 locs3 la2 σ2 ls3 h1 h2 h3)
