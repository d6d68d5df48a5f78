/-! Facts about classes, pool rows and methods, written by gen_names.py. -/
set_option maxRecDepth 100000 in
theorem cu_Recv : ∀ w ∈ u_ws "PageReceiver" T_Recv 6, w ∈ pg_ws := by
  intro w hw
  obtain ⟨k, hk, rfl⟩ := List.mem_map.mp hw
  have hk := List.mem_range.mp hk
  rcases (show k = 0 ∨ k = 1 ∨ k = 2 ∨ k = 3 ∨ k = 4 ∨ k = 5 by omega) with rfl | rfl | rfl | rfl | rfl | rfl
  · exact pg_tb 265 rfl rfl
  · exact pg_tb 267 rfl rfl
  · exact pg_tb 269 rfl rfl
  · exact pg_tb 271 rfl rfl
  · exact pg_tb 273 rfl rfl
  · exact pg_tb 275 rfl rfl
set_option maxRecDepth 100000 in
theorem cf_Recv : pg_cf 0 "PageReceiver" T_Recv 6 t_Recv := ⟨rfl, cu_Recv, by decide +kernel, by decide +kernel⟩
set_option maxRecDepth 100000 in
theorem cn_Recv : pg_cn 0 "PageReceiver" := ⟨T_Recv, 6, t_Recv, cf_Recv⟩
set_option maxRecDepth 100000 in
theorem cu_Packet : ∀ w ∈ u_ws "PageReceiver$Packet" T_Packet 3, w ∈ pg_ws := by
  intro w hw
  obtain ⟨k, hk, rfl⟩ := List.mem_map.mp hw
  have hk := List.mem_range.mp hk
  rcases (show k = 0 ∨ k = 1 ∨ k = 2 by omega) with rfl | rfl | rfl
  · exact pg_tb 32 rfl rfl
  · exact pg_tb 34 rfl rfl
  · exact pg_tb 36 rfl rfl
set_option maxRecDepth 100000 in
theorem cf_Packet : pg_cf 1 "PageReceiver$Packet" T_Packet 3 t_Packet := ⟨rfl, cu_Packet, by decide +kernel, by decide +kernel⟩
set_option maxRecDepth 100000 in
theorem cn_Packet : pg_cn 1 "PageReceiver$Packet" := ⟨T_Packet, 3, t_Packet, cf_Packet⟩
set_option maxRecDepth 100000 in
theorem cu_Page : ∀ w ∈ u_ws "PageReceiver$Page" T_Page 8, w ∈ pg_ws := by
  intro w hw
  obtain ⟨k, hk, rfl⟩ := List.mem_map.mp hw
  have hk := List.mem_range.mp hk
  rcases (show k = 0 ∨ k = 1 ∨ k = 2 ∨ k = 3 ∨ k = 4 ∨ k = 5 ∨ k = 6 ∨ k = 7 by omega) with rfl | rfl | rfl | rfl | rfl | rfl | rfl | rfl
  · exact pg_tb 78 rfl rfl
  · exact pg_tb 80 rfl rfl
  · exact pg_tb 82 rfl rfl
  · exact pg_tb 84 rfl rfl
  · exact pg_tb 86 rfl rfl
  · exact pg_tb 88 rfl rfl
  · exact pg_tb 90 rfl rfl
  · exact pg_tb 92 rfl rfl
set_option maxRecDepth 100000 in
theorem cf_Page : pg_cf 2 "PageReceiver$Page" T_Page 8 t_Page := ⟨rfl, cu_Page, by decide +kernel, by decide +kernel⟩
set_option maxRecDepth 100000 in
theorem cn_Page : pg_cn 2 "PageReceiver$Page" := ⟨T_Page, 8, t_Page, cf_Page⟩
set_option maxRecDepth 100000 in
theorem cu_Shelf : ∀ w ∈ u_ws "PageReceiver$Shelf" T_Shelf 2, w ∈ pg_ws := by
  intro w hw
  obtain ⟨k, hk, rfl⟩ := List.mem_map.mp hw
  have hk := List.mem_range.mp hk
  rcases (show k = 0 ∨ k = 1 by omega) with rfl | rfl
  · exact pg_tb 97 rfl rfl
  · exact pg_tb 99 rfl rfl
set_option maxRecDepth 100000 in
theorem cf_Shelf : pg_cf 3 "PageReceiver$Shelf" T_Shelf 2 t_Shelf := ⟨rfl, cu_Shelf, by decide +kernel, by decide +kernel⟩
set_option maxRecDepth 100000 in
theorem cn_Shelf : pg_cn 3 "PageReceiver$Shelf" := ⟨T_Shelf, 2, t_Shelf, cf_Shelf⟩
set_option maxRecDepth 100000 in
theorem cu_Remote : ∀ w ∈ u_ws "PageReceiver$Remote" T_Remote 7, w ∈ pg_ws := by
  intro w hw
  obtain ⟨k, hk, rfl⟩ := List.mem_map.mp hw
  have hk := List.mem_range.mp hk
  rcases (show k = 0 ∨ k = 1 ∨ k = 2 ∨ k = 3 ∨ k = 4 ∨ k = 5 ∨ k = 6 by omega) with rfl | rfl | rfl | rfl | rfl | rfl | rfl
  · exact pg_tb 124 rfl rfl
  · exact pg_tb 126 rfl rfl
  · exact pg_tb 128 rfl rfl
  · exact pg_tb 130 rfl rfl
  · exact pg_tb 132 rfl rfl
  · exact pg_tb 134 rfl rfl
  · exact pg_tb 136 rfl rfl
set_option maxRecDepth 100000 in
theorem cf_Remote : pg_cf 4 "PageReceiver$Remote" T_Remote 7 t_Remote := ⟨rfl, cu_Remote, by decide +kernel, by decide +kernel⟩
set_option maxRecDepth 100000 in
theorem cn_Remote : pg_cn 4 "PageReceiver$Remote" := ⟨T_Remote, 7, t_Remote, cf_Remote⟩
set_option maxRecDepth 100000 in
theorem cu_Tuner : ∀ w ∈ u_ws "PageReceiver$Tuner" T_Tuner 7, w ∈ pg_ws := by
  intro w hw
  obtain ⟨k, hk, rfl⟩ := List.mem_map.mp hw
  have hk := List.mem_range.mp hk
  rcases (show k = 0 ∨ k = 1 ∨ k = 2 ∨ k = 3 ∨ k = 4 ∨ k = 5 ∨ k = 6 by omega) with rfl | rfl | rfl | rfl | rfl | rfl | rfl
  · exact pg_tb 158 rfl rfl
  · exact pg_tb 160 rfl rfl
  · exact pg_tb 162 rfl rfl
  · exact pg_tb 164 rfl rfl
  · exact pg_tb 166 rfl rfl
  · exact pg_tb 168 rfl rfl
  · exact pg_tb 170 rfl rfl
set_option maxRecDepth 100000 in
theorem cf_Tuner : pg_cf 5 "PageReceiver$Tuner" T_Tuner 7 t_Tuner := ⟨rfl, cu_Tuner, by decide +kernel, by decide +kernel⟩
set_option maxRecDepth 100000 in
theorem cn_Tuner : pg_cn 5 "PageReceiver$Tuner" := ⟨T_Tuner, 7, t_Tuner, cf_Tuner⟩
set_option maxRecDepth 100000 in
theorem cu_States : ∀ w ∈ u_ws "PageReceiver$States" T_States 11, w ∈ pg_ws := by
  intro w hw
  obtain ⟨k, hk, rfl⟩ := List.mem_map.mp hw
  have hk := List.mem_range.mp hk
  rcases (show k = 0 ∨ k = 1 ∨ k = 2 ∨ k = 3 ∨ k = 4 ∨ k = 5 ∨ k = 6 ∨ k = 7 ∨ k = 8 ∨ k = 9 ∨ k = 10 by omega) with rfl | rfl | rfl | rfl | rfl | rfl | rfl | rfl | rfl | rfl | rfl
  · exact pg_tb 206 rfl rfl
  · exact pg_tb 208 rfl rfl
  · exact pg_tb 210 rfl rfl
  · exact pg_tb 212 rfl rfl
  · exact pg_tb 214 rfl rfl
  · exact pg_tb 216 rfl rfl
  · exact pg_tb 218 rfl rfl
  · exact pg_tb 220 rfl rfl
  · exact pg_tb 222 rfl rfl
  · exact pg_tb 224 rfl rfl
  · exact pg_tb 226 rfl rfl
set_option maxRecDepth 100000 in
theorem cf_States : pg_cf 6 "PageReceiver$States" T_States 11 t_States := ⟨rfl, cu_States, by decide +kernel, by decide +kernel⟩
set_option maxRecDepth 100000 in
theorem cn_States : pg_cn 6 "PageReceiver$States" := ⟨T_States, 11, t_States, cf_States⟩
set_option maxRecDepth 100000 in
theorem cu_Screen : ∀ w ∈ u_ws "PageReceiver$Screen" T_Screen 8, w ∈ pg_ws := by
  intro w hw
  obtain ⟨k, hk, rfl⟩ := List.mem_map.mp hw
  have hk := List.mem_range.mp hk
  rcases (show k = 0 ∨ k = 1 ∨ k = 2 ∨ k = 3 ∨ k = 4 ∨ k = 5 ∨ k = 6 ∨ k = 7 by omega) with rfl | rfl | rfl | rfl | rfl | rfl | rfl | rfl
  · exact pg_tb 242 rfl rfl
  · exact pg_tb 244 rfl rfl
  · exact pg_tb 246 rfl rfl
  · exact pg_tb 248 rfl rfl
  · exact pg_tb 250 rfl rfl
  · exact pg_tb 252 rfl rfl
  · exact pg_tb 254 rfl rfl
  · exact pg_tb 256 rfl rfl
set_option maxRecDepth 100000 in
theorem cf_Screen : pg_cf 7 "PageReceiver$Screen" T_Screen 8 t_Screen := ⟨rfl, cu_Screen, by decide +kernel, by decide +kernel⟩
set_option maxRecDepth 100000 in
theorem cn_Screen : pg_cn 7 "PageReceiver$Screen" := ⟨T_Screen, 8, t_Screen, cf_Screen⟩
set_option maxRecDepth 100000 in
theorem cu_Mod : ∀ w ∈ u_ws "PageReceiverModel" T_Mod 37, w ∈ pg_ws := by
  intro w hw
  obtain ⟨k, hk, rfl⟩ := List.mem_map.mp hw
  have hk := List.mem_range.mp hk
  rcases (show k = 0 ∨ k = 1 ∨ k = 2 ∨ k = 3 ∨ k = 4 ∨ k = 5 ∨ k = 6 ∨ k = 7 ∨ k = 8 ∨ k = 9 ∨ k = 10 ∨ k = 11 ∨ k = 12 ∨ k = 13 ∨ k = 14 ∨ k = 15 ∨ k = 16 ∨ k = 17 ∨ k = 18 ∨ k = 19 ∨ k = 20 ∨ k = 21 ∨ k = 22 ∨ k = 23 ∨ k = 24 ∨ k = 25 ∨ k = 26 ∨ k = 27 ∨ k = 28 ∨ k = 29 ∨ k = 30 ∨ k = 31 ∨ k = 32 ∨ k = 33 ∨ k = 34 ∨ k = 35 ∨ k = 36 by omega) with rfl | rfl | rfl | rfl | rfl | rfl | rfl | rfl | rfl | rfl | rfl | rfl | rfl | rfl | rfl | rfl | rfl | rfl | rfl | rfl | rfl | rfl | rfl | rfl | rfl | rfl | rfl | rfl | rfl | rfl | rfl | rfl | rfl | rfl | rfl | rfl | rfl
  · exact pg_tb 651 rfl rfl
  · exact pg_tb 653 rfl rfl
  · exact pg_tb 655 rfl rfl
  · exact pg_tb 657 rfl rfl
  · exact pg_tb 659 rfl rfl
  · exact pg_tb 661 rfl rfl
  · exact pg_tb 663 rfl rfl
  · exact pg_tb 665 rfl rfl
  · exact pg_tb 667 rfl rfl
  · exact pg_tb 669 rfl rfl
  · exact pg_tb 671 rfl rfl
  · exact pg_tb 673 rfl rfl
  · exact pg_tb 675 rfl rfl
  · exact pg_tb 677 rfl rfl
  · exact pg_tb 679 rfl rfl
  · exact pg_tb 681 rfl rfl
  · exact pg_tb 683 rfl rfl
  · exact pg_tb 685 rfl rfl
  · exact pg_tb 687 rfl rfl
  · exact pg_tb 689 rfl rfl
  · exact pg_tb 691 rfl rfl
  · exact pg_tb 693 rfl rfl
  · exact pg_tb 695 rfl rfl
  · exact pg_tb 697 rfl rfl
  · exact pg_tb 699 rfl rfl
  · exact pg_tb 701 rfl rfl
  · exact pg_tb 703 rfl rfl
  · exact pg_tb 705 rfl rfl
  · exact pg_tb 707 rfl rfl
  · exact pg_tb 709 rfl rfl
  · exact pg_tb 711 rfl rfl
  · exact pg_tb 713 rfl rfl
  · exact pg_tb 715 rfl rfl
  · exact pg_tb 717 rfl rfl
  · exact pg_tb 719 rfl rfl
  · exact pg_tb 721 rfl rfl
  · exact pg_tb 723 rfl rfl
set_option maxRecDepth 100000 in
theorem cf_Mod : pg_cf 8 "PageReceiverModel" T_Mod 37 t_Mod := ⟨rfl, cu_Mod, by decide +kernel, by decide +kernel⟩
set_option maxRecDepth 100000 in
theorem cn_Mod : pg_cn 8 "PageReceiverModel" := ⟨T_Mod, 37, t_Mod, cf_Mod⟩
set_option maxRecDepth 100000 in
theorem fl_Recv_9 : pg_fl "PageReceiver" 9 T_Recv 0 := Or.inl (pg_tb 259 rfl rfl)
set_option maxRecDepth 100000 in
theorem f_Recv_9 : pg_fs "PageReceiver" 9 0 0 := ⟨"PageReceiver", T_Recv, 6, t_Recv, cf_Recv, fl_Recv_9, by decide⟩
set_option maxRecDepth 100000 in
theorem fl_Recv_18 : pg_fl "PageReceiver" 18 T_Recv 1 := Or.inl (pg_tb 260 rfl rfl)
set_option maxRecDepth 100000 in
theorem f_Recv_18 : pg_fs "PageReceiver" 18 0 1 := ⟨"PageReceiver", T_Recv, 6, t_Recv, cf_Recv, fl_Recv_18, by decide⟩
set_option maxRecDepth 100000 in
theorem fl_Recv_36 : pg_fl "PageReceiver" 36 T_Recv 2 := Or.inl (pg_tb 261 rfl rfl)
set_option maxRecDepth 100000 in
theorem f_Recv_36 : pg_fs "PageReceiver" 36 0 2 := ⟨"PageReceiver", T_Recv, 6, t_Recv, cf_Recv, fl_Recv_36, by decide⟩
set_option maxRecDepth 100000 in
theorem fl_Recv_45 : pg_fl "PageReceiver" 45 T_Recv 3 := Or.inl (pg_tb 262 rfl rfl)
set_option maxRecDepth 100000 in
theorem f_Recv_45 : pg_fs "PageReceiver" 45 0 3 := ⟨"PageReceiver", T_Recv, 6, t_Recv, cf_Recv, fl_Recv_45, by decide⟩
set_option maxRecDepth 100000 in
theorem fl_Recv_54 : pg_fl "PageReceiver" 54 T_Recv 4 := Or.inl (pg_tb 263 rfl rfl)
set_option maxRecDepth 100000 in
theorem f_Recv_54 : pg_fs "PageReceiver" 54 0 4 := ⟨"PageReceiver", T_Recv, 6, t_Recv, cf_Recv, fl_Recv_54, by decide⟩
set_option maxRecDepth 100000 in
theorem fl_Recv_60 : pg_fl "PageReceiver" 60 T_Tuner 5 := Or.inr ⟨"PageReceiver", List.mem_of_getElem? (i := 19) rfl⟩
set_option maxRecDepth 100000 in
theorem f_Recv_60 : pg_fs "PageReceiver" 60 5 5 := ⟨"PageReceiver$Tuner", T_Tuner, 7, t_Tuner, cf_Tuner, fl_Recv_60, by decide⟩
set_option maxRecDepth 100000 in
theorem fl_Recv_66 : pg_fl "PageReceiver" 66 T_Recv 5 := Or.inl (pg_tb 264 rfl rfl)
set_option maxRecDepth 100000 in
theorem f_Recv_66 : pg_fs "PageReceiver" 66 0 5 := ⟨"PageReceiver", T_Recv, 6, t_Recv, cf_Recv, fl_Recv_66, by decide⟩
set_option maxRecDepth 100000 in
theorem fl_Recv_85 : pg_fl "PageReceiver" 85 T_Packet 2 := Or.inr ⟨"PageReceiver", List.mem_of_getElem? (i := 0) rfl⟩
set_option maxRecDepth 100000 in
theorem f_Recv_85 : pg_fs "PageReceiver" 85 1 2 := ⟨"PageReceiver$Packet", T_Packet, 3, t_Packet, cf_Packet, fl_Recv_85, by decide⟩
set_option maxRecDepth 100000 in
theorem fw_Recv_85 : pg_fw "PageReceiver" 85 1 2 (.int) := ⟨"PageReceiver$Packet", T_Packet, 3, t_Packet, cf_Packet, fl_Recv_85, by decide, rfl, rfl⟩
set_option maxRecDepth 100000 in
theorem fl_Recv_96 : pg_fl "PageReceiver" 96 T_Screen 3 := Or.inr ⟨"PageReceiver", List.mem_of_getElem? (i := 30) rfl⟩
set_option maxRecDepth 100000 in
theorem f_Recv_96 : pg_fs "PageReceiver" 96 7 3 := ⟨"PageReceiver$Screen", T_Screen, 8, t_Screen, cf_Screen, fl_Recv_96, by decide⟩
set_option maxRecDepth 100000 in
theorem fw_Recv_96 : pg_fw "PageReceiver" 96 7 3 (.boolean) := ⟨"PageReceiver$Screen", T_Screen, 8, t_Screen, cf_Screen, fl_Recv_96, by decide, rfl, rfl⟩
set_option maxRecDepth 100000 in
theorem fl_Recv_104 : pg_fl "PageReceiver" 104 T_Page 1 := Or.inr ⟨"PageReceiver", List.mem_of_getElem? (i := 6) rfl⟩
set_option maxRecDepth 100000 in
theorem f_Recv_104 : pg_fs "PageReceiver" 104 2 1 := ⟨"PageReceiver$Page", T_Page, 8, t_Page, cf_Page, fl_Recv_104, by decide⟩
set_option maxRecDepth 100000 in
theorem fw_Recv_104 : pg_fw "PageReceiver" 104 2 1 (.int) := ⟨"PageReceiver$Page", T_Page, 8, t_Page, cf_Page, fl_Recv_104, by decide, rfl, rfl⟩
set_option maxRecDepth 100000 in
theorem fl_Recv_109 : pg_fl "PageReceiver" 109 T_Remote 2 := Or.inr ⟨"PageReceiver", List.mem_of_getElem? (i := 15) rfl⟩
set_option maxRecDepth 100000 in
theorem f_Recv_109 : pg_fs "PageReceiver" 109 4 2 := ⟨"PageReceiver$Remote", T_Remote, 7, t_Remote, cf_Remote, fl_Recv_109, by decide⟩
set_option maxRecDepth 100000 in
theorem fw_Recv_109 : pg_fw "PageReceiver" 109 4 2 (.int) := ⟨"PageReceiver$Remote", T_Remote, 7, t_Remote, cf_Remote, fl_Recv_109, by decide, rfl, rfl⟩
set_option maxRecDepth 100000 in
theorem fl_Recv_112 : pg_fl "PageReceiver" 112 T_Remote 3 := Or.inr ⟨"PageReceiver", List.mem_of_getElem? (i := 16) rfl⟩
set_option maxRecDepth 100000 in
theorem f_Recv_112 : pg_fs "PageReceiver" 112 4 3 := ⟨"PageReceiver$Remote", T_Remote, 7, t_Remote, cf_Remote, fl_Recv_112, by decide⟩
set_option maxRecDepth 100000 in
theorem fw_Recv_112 : pg_fw "PageReceiver" 112 4 3 (.int) := ⟨"PageReceiver$Remote", T_Remote, 7, t_Remote, cf_Remote, fl_Recv_112, by decide, rfl, rfl⟩
set_option maxRecDepth 100000 in
theorem fl_Recv_115 : pg_fl "PageReceiver" 115 T_Remote 1 := Or.inr ⟨"PageReceiver", List.mem_of_getElem? (i := 12) rfl⟩
set_option maxRecDepth 100000 in
theorem f_Recv_115 : pg_fs "PageReceiver" 115 4 1 := ⟨"PageReceiver$Remote", T_Remote, 7, t_Remote, cf_Remote, fl_Recv_115, by decide⟩
set_option maxRecDepth 100000 in
theorem fl_Recv_119 : pg_fl "PageReceiver" 119 T_Page 0 := Or.inr ⟨"PageReceiver", List.mem_of_getElem? (i := 4) rfl⟩
set_option maxRecDepth 100000 in
theorem f_Recv_119 : pg_fs "PageReceiver" 119 2 0 := ⟨"PageReceiver$Page", T_Page, 8, t_Page, cf_Page, fl_Recv_119, by decide⟩
set_option maxRecDepth 100000 in
theorem fw_Recv_119 : pg_fw "PageReceiver" 119 2 0 (.boolean) := ⟨"PageReceiver$Page", T_Page, 8, t_Page, cf_Page, fl_Recv_119, by decide, rfl, rfl⟩
set_option maxRecDepth 100000 in
theorem fl_Recv_122 : pg_fl "PageReceiver" 122 T_Remote 6 := Or.inr ⟨"PageReceiver", List.mem_of_getElem? (i := 17) rfl⟩
set_option maxRecDepth 100000 in
theorem f_Recv_122 : pg_fs "PageReceiver" 122 4 6 := ⟨"PageReceiver$Remote", T_Remote, 7, t_Remote, cf_Remote, fl_Recv_122, by decide⟩
set_option maxRecDepth 100000 in
theorem fw_Recv_122 : pg_fw "PageReceiver" 122 4 6 (.boolean) := ⟨"PageReceiver$Remote", T_Remote, 7, t_Remote, cf_Remote, fl_Recv_122, by decide, rfl, rfl⟩
set_option maxRecDepth 100000 in
theorem fl_Recv_141 : pg_fl "PageReceiver" 141 T_Screen 4 := Or.inr ⟨"PageReceiver", List.mem_of_getElem? (i := 31) rfl⟩
set_option maxRecDepth 100000 in
theorem f_Recv_141 : pg_fs "PageReceiver" 141 7 4 := ⟨"PageReceiver$Screen", T_Screen, 8, t_Screen, cf_Screen, fl_Recv_141, by decide⟩
set_option maxRecDepth 100000 in
theorem fw_Recv_141 : pg_fw "PageReceiver" 141 7 4 (.int) := ⟨"PageReceiver$Screen", T_Screen, 8, t_Screen, cf_Screen, fl_Recv_141, by decide, rfl, rfl⟩
set_option maxRecDepth 100000 in
theorem fl_Recv_144 : pg_fl "PageReceiver" 144 T_Screen 5 := Or.inr ⟨"PageReceiver", List.mem_of_getElem? (i := 32) rfl⟩
set_option maxRecDepth 100000 in
theorem f_Recv_144 : pg_fs "PageReceiver" 144 7 5 := ⟨"PageReceiver$Screen", T_Screen, 8, t_Screen, cf_Screen, fl_Recv_144, by decide⟩
set_option maxRecDepth 100000 in
theorem fw_Recv_144 : pg_fw "PageReceiver" 144 7 5 (.int) := ⟨"PageReceiver$Screen", T_Screen, 8, t_Screen, cf_Screen, fl_Recv_144, by decide, rfl, rfl⟩
set_option maxRecDepth 100000 in
theorem fl_Recv_147 : pg_fl "PageReceiver" 147 T_Screen 6 := Or.inr ⟨"PageReceiver", List.mem_of_getElem? (i := 33) rfl⟩
set_option maxRecDepth 100000 in
theorem f_Recv_147 : pg_fs "PageReceiver" 147 7 6 := ⟨"PageReceiver$Screen", T_Screen, 8, t_Screen, cf_Screen, fl_Recv_147, by decide⟩
set_option maxRecDepth 100000 in
theorem fw_Recv_147 : pg_fw "PageReceiver" 147 7 6 (.int) := ⟨"PageReceiver$Screen", T_Screen, 8, t_Screen, cf_Screen, fl_Recv_147, by decide, rfl, rfl⟩
set_option maxRecDepth 100000 in
theorem fl_Recv_150 : pg_fl "PageReceiver" 150 T_Screen 7 := Or.inr ⟨"PageReceiver", List.mem_of_getElem? (i := 34) rfl⟩
set_option maxRecDepth 100000 in
theorem f_Recv_150 : pg_fs "PageReceiver" 150 7 7 := ⟨"PageReceiver$Screen", T_Screen, 8, t_Screen, cf_Screen, fl_Recv_150, by decide⟩
set_option maxRecDepth 100000 in
theorem fw_Recv_150 : pg_fw "PageReceiver" 150 7 7 (.int) := ⟨"PageReceiver$Screen", T_Screen, 8, t_Screen, cf_Screen, fl_Recv_150, by decide, rfl, rfl⟩
set_option maxRecDepth 100000 in
theorem fl_Packet_9 : pg_fl "PageReceiver$Packet" 9 T_Packet 0 := Or.inl (pg_tb 28 rfl rfl)
set_option maxRecDepth 100000 in
theorem f_Packet_9 : pg_fs "PageReceiver$Packet" 9 1 0 := ⟨"PageReceiver$Packet", T_Packet, 3, t_Packet, cf_Packet, fl_Packet_9, by decide⟩
set_option maxRecDepth 100000 in
theorem fl_Packet_15 : pg_fl "PageReceiver$Packet" 15 T_Packet 1 := Or.inl (pg_tb 29 rfl rfl)
set_option maxRecDepth 100000 in
theorem f_Packet_15 : pg_fs "PageReceiver$Packet" 15 1 1 := ⟨"PageReceiver$Packet", T_Packet, 3, t_Packet, cf_Packet, fl_Packet_15, by decide⟩
set_option maxRecDepth 100000 in
theorem fl_Packet_18 : pg_fl "PageReceiver$Packet" 18 T_Packet 2 := Or.inl (pg_tb 30 rfl rfl)
set_option maxRecDepth 100000 in
theorem f_Packet_18 : pg_fs "PageReceiver$Packet" 18 1 2 := ⟨"PageReceiver$Packet", T_Packet, 3, t_Packet, cf_Packet, fl_Packet_18, by decide⟩
set_option maxRecDepth 100000 in
theorem fw_Packet_18 : pg_fw "PageReceiver$Packet" 18 1 2 (.int) := ⟨"PageReceiver$Packet", T_Packet, 3, t_Packet, cf_Packet, fl_Packet_18, by decide, rfl, rfl⟩
set_option maxRecDepth 100000 in
theorem fl_Page_9 : pg_fl "PageReceiver$Page" 9 T_Page 5 := Or.inl (pg_tb 74 rfl rfl)
set_option maxRecDepth 100000 in
theorem f_Page_9 : pg_fs "PageReceiver$Page" 9 2 5 := ⟨"PageReceiver$Page", T_Page, 8, t_Page, cf_Page, fl_Page_9, by decide⟩
set_option maxRecDepth 100000 in
theorem fl_Page_15 : pg_fl "PageReceiver$Page" 15 T_Page 6 := Or.inl (pg_tb 75 rfl rfl)
set_option maxRecDepth 100000 in
theorem f_Page_15 : pg_fs "PageReceiver$Page" 15 2 6 := ⟨"PageReceiver$Page", T_Page, 8, t_Page, cf_Page, fl_Page_15, by decide⟩
set_option maxRecDepth 100000 in
theorem fl_Page_18 : pg_fl "PageReceiver$Page" 18 T_Page 7 := Or.inl (pg_tb 76 rfl rfl)
set_option maxRecDepth 100000 in
theorem f_Page_18 : pg_fs "PageReceiver$Page" 18 2 7 := ⟨"PageReceiver$Page", T_Page, 8, t_Page, cf_Page, fl_Page_18, by decide⟩
set_option maxRecDepth 100000 in
theorem fl_Page_21 : pg_fl "PageReceiver$Page" 21 T_Page 0 := Or.inl (pg_tb 59 rfl rfl)
set_option maxRecDepth 100000 in
theorem f_Page_21 : pg_fs "PageReceiver$Page" 21 2 0 := ⟨"PageReceiver$Page", T_Page, 8, t_Page, cf_Page, fl_Page_21, by decide⟩
set_option maxRecDepth 100000 in
theorem fw_Page_21 : pg_fw "PageReceiver$Page" 21 2 0 (.boolean) := ⟨"PageReceiver$Page", T_Page, 8, t_Page, cf_Page, fl_Page_21, by decide, rfl, rfl⟩
set_option maxRecDepth 100000 in
theorem fl_Page_25 : pg_fl "PageReceiver$Page" 25 T_Page 1 := Or.inl (pg_tb 64 rfl rfl)
set_option maxRecDepth 100000 in
theorem f_Page_25 : pg_fs "PageReceiver$Page" 25 2 1 := ⟨"PageReceiver$Page", T_Page, 8, t_Page, cf_Page, fl_Page_25, by decide⟩
set_option maxRecDepth 100000 in
theorem fw_Page_25 : pg_fw "PageReceiver$Page" 25 2 1 (.int) := ⟨"PageReceiver$Page", T_Page, 8, t_Page, cf_Page, fl_Page_25, by decide, rfl, rfl⟩
set_option maxRecDepth 100000 in
theorem fl_Page_35 : pg_fl "PageReceiver$Page" 35 T_Page 2 := Or.inl (pg_tb 67 rfl rfl)
set_option maxRecDepth 100000 in
theorem f_Page_35 : pg_fs "PageReceiver$Page" 35 2 2 := ⟨"PageReceiver$Page", T_Page, 8, t_Page, cf_Page, fl_Page_35, by decide⟩
set_option maxRecDepth 100000 in
theorem fw_Page_35 : pg_fw "PageReceiver$Page" 35 2 2 (.int) := ⟨"PageReceiver$Page", T_Page, 8, t_Page, cf_Page, fl_Page_35, by decide, rfl, rfl⟩
set_option maxRecDepth 100000 in
theorem fl_Page_38 : pg_fl "PageReceiver$Page" 38 T_Page 3 := Or.inl (pg_tb 69 rfl rfl)
set_option maxRecDepth 100000 in
theorem f_Page_38 : pg_fs "PageReceiver$Page" 38 2 3 := ⟨"PageReceiver$Page", T_Page, 8, t_Page, cf_Page, fl_Page_38, by decide⟩
set_option maxRecDepth 100000 in
theorem fw_Page_38 : pg_fw "PageReceiver$Page" 38 2 3 (.int) := ⟨"PageReceiver$Page", T_Page, 8, t_Page, cf_Page, fl_Page_38, by decide, rfl, rfl⟩
set_option maxRecDepth 100000 in
theorem fl_Page_41 : pg_fl "PageReceiver$Page" 41 T_Page 4 := Or.inl (pg_tb 72 rfl rfl)
set_option maxRecDepth 100000 in
theorem f_Page_41 : pg_fs "PageReceiver$Page" 41 2 4 := ⟨"PageReceiver$Page", T_Page, 8, t_Page, cf_Page, fl_Page_41, by decide⟩
set_option maxRecDepth 100000 in
theorem fw_Page_41 : pg_fw "PageReceiver$Page" 41 2 4 (.int) := ⟨"PageReceiver$Page", T_Page, 8, t_Page, cf_Page, fl_Page_41, by decide, rfl, rfl⟩
set_option maxRecDepth 100000 in
theorem fl_Remote_12 : pg_fl "PageReceiver$Remote" 12 T_Remote 1 := Or.inl (pg_tb 111 rfl rfl)
set_option maxRecDepth 100000 in
theorem f_Remote_12 : pg_fs "PageReceiver$Remote" 12 4 1 := ⟨"PageReceiver$Remote", T_Remote, 7, t_Remote, cf_Remote, fl_Remote_12, by decide⟩
set_option maxRecDepth 100000 in
theorem fl_Remote_18 : pg_fl "PageReceiver$Remote" 18 T_Remote 2 := Or.inl (pg_tb 113 rfl rfl)
set_option maxRecDepth 100000 in
theorem f_Remote_18 : pg_fs "PageReceiver$Remote" 18 4 2 := ⟨"PageReceiver$Remote", T_Remote, 7, t_Remote, cf_Remote, fl_Remote_18, by decide⟩
set_option maxRecDepth 100000 in
theorem fw_Remote_18 : pg_fw "PageReceiver$Remote" 18 4 2 (.int) := ⟨"PageReceiver$Remote", T_Remote, 7, t_Remote, cf_Remote, fl_Remote_18, by decide, rfl, rfl⟩
set_option maxRecDepth 100000 in
theorem fl_Remote_22 : pg_fl "PageReceiver$Remote" 22 T_Remote 0 := Or.inl (pg_tb 110 rfl rfl)
set_option maxRecDepth 100000 in
theorem f_Remote_22 : pg_fs "PageReceiver$Remote" 22 4 0 := ⟨"PageReceiver$Remote", T_Remote, 7, t_Remote, cf_Remote, fl_Remote_22, by decide⟩
set_option maxRecDepth 100000 in
theorem fl_Remote_26 : pg_fl "PageReceiver$Remote" 26 T_Page 0 := Or.inr ⟨"PageReceiver", List.mem_of_getElem? (i := 1) rfl⟩
set_option maxRecDepth 100000 in
theorem f_Remote_26 : pg_fs "PageReceiver$Remote" 26 2 0 := ⟨"PageReceiver$Page", T_Page, 8, t_Page, cf_Page, fl_Remote_26, by decide⟩
set_option maxRecDepth 100000 in
theorem fw_Remote_26 : pg_fw "PageReceiver$Remote" 26 2 0 (.boolean) := ⟨"PageReceiver$Page", T_Page, 8, t_Page, cf_Page, fl_Remote_26, by decide, rfl, rfl⟩
set_option maxRecDepth 100000 in
theorem fl_Remote_36 : pg_fl "PageReceiver$Remote" 36 T_Remote 3 := Or.inl (pg_tb 117 rfl rfl)
set_option maxRecDepth 100000 in
theorem f_Remote_36 : pg_fs "PageReceiver$Remote" 36 4 3 := ⟨"PageReceiver$Remote", T_Remote, 7, t_Remote, cf_Remote, fl_Remote_36, by decide⟩
set_option maxRecDepth 100000 in
theorem fw_Remote_36 : pg_fw "PageReceiver$Remote" 36 4 3 (.int) := ⟨"PageReceiver$Remote", T_Remote, 7, t_Remote, cf_Remote, fl_Remote_36, by decide, rfl, rfl⟩
set_option maxRecDepth 100000 in
theorem fl_Remote_39 : pg_fl "PageReceiver$Remote" 39 T_Remote 4 := Or.inl (pg_tb 119 rfl rfl)
set_option maxRecDepth 100000 in
theorem f_Remote_39 : pg_fs "PageReceiver$Remote" 39 4 4 := ⟨"PageReceiver$Remote", T_Remote, 7, t_Remote, cf_Remote, fl_Remote_39, by decide⟩
set_option maxRecDepth 100000 in
theorem fw_Remote_39 : pg_fw "PageReceiver$Remote" 39 4 4 (.int) := ⟨"PageReceiver$Remote", T_Remote, 7, t_Remote, cf_Remote, fl_Remote_39, by decide, rfl, rfl⟩
set_option maxRecDepth 100000 in
theorem fl_Remote_42 : pg_fl "PageReceiver$Remote" 42 T_Remote 5 := Or.inl (pg_tb 120 rfl rfl)
set_option maxRecDepth 100000 in
theorem f_Remote_42 : pg_fs "PageReceiver$Remote" 42 4 5 := ⟨"PageReceiver$Remote", T_Remote, 7, t_Remote, cf_Remote, fl_Remote_42, by decide⟩
set_option maxRecDepth 100000 in
theorem fw_Remote_42 : pg_fw "PageReceiver$Remote" 42 4 5 (.int) := ⟨"PageReceiver$Remote", T_Remote, 7, t_Remote, cf_Remote, fl_Remote_42, by decide, rfl, rfl⟩
set_option maxRecDepth 100000 in
theorem fl_Remote_53 : pg_fl "PageReceiver$Remote" 53 T_Remote 6 := Or.inl (pg_tb 121 rfl rfl)
set_option maxRecDepth 100000 in
theorem f_Remote_53 : pg_fs "PageReceiver$Remote" 53 4 6 := ⟨"PageReceiver$Remote", T_Remote, 7, t_Remote, cf_Remote, fl_Remote_53, by decide⟩
set_option maxRecDepth 100000 in
theorem fw_Remote_53 : pg_fw "PageReceiver$Remote" 53 4 6 (.boolean) := ⟨"PageReceiver$Remote", T_Remote, 7, t_Remote, cf_Remote, fl_Remote_53, by decide, rfl, rfl⟩
set_option maxRecDepth 100000 in
theorem fl_Screen_12 : pg_fl "PageReceiver$Screen" 12 T_Screen 2 := Or.inl (pg_tb 231 rfl rfl)
set_option maxRecDepth 100000 in
theorem f_Screen_12 : pg_fs "PageReceiver$Screen" 12 7 2 := ⟨"PageReceiver$Screen", T_Screen, 8, t_Screen, cf_Screen, fl_Screen_12, by decide⟩
set_option maxRecDepth 100000 in
theorem fl_Screen_18 : pg_fl "PageReceiver$Screen" 18 T_Screen 3 := Or.inl (pg_tb 232 rfl rfl)
set_option maxRecDepth 100000 in
theorem f_Screen_18 : pg_fs "PageReceiver$Screen" 18 7 3 := ⟨"PageReceiver$Screen", T_Screen, 8, t_Screen, cf_Screen, fl_Screen_18, by decide⟩
set_option maxRecDepth 100000 in
theorem fw_Screen_18 : pg_fw "PageReceiver$Screen" 18 7 3 (.boolean) := ⟨"PageReceiver$Screen", T_Screen, 8, t_Screen, cf_Screen, fl_Screen_18, by decide, rfl, rfl⟩
set_option maxRecDepth 100000 in
theorem fl_Screen_22 : pg_fl "PageReceiver$Screen" 22 T_Screen 0 := Or.inl (pg_tb 229 rfl rfl)
set_option maxRecDepth 100000 in
theorem f_Screen_22 : pg_fs "PageReceiver$Screen" 22 7 0 := ⟨"PageReceiver$Screen", T_Screen, 8, t_Screen, cf_Screen, fl_Screen_22, by decide⟩
set_option maxRecDepth 100000 in
theorem fl_Screen_26 : pg_fl "PageReceiver$Screen" 26 T_Screen 1 := Or.inl (pg_tb 230 rfl rfl)
set_option maxRecDepth 100000 in
theorem f_Screen_26 : pg_fs "PageReceiver$Screen" 26 7 1 := ⟨"PageReceiver$Screen", T_Screen, 8, t_Screen, cf_Screen, fl_Screen_26, by decide⟩
set_option maxRecDepth 100000 in
theorem fl_Screen_66 : pg_fl "PageReceiver$Screen" 66 T_Remote 2 := Or.inr ⟨"PageReceiver", List.mem_of_getElem? (i := 13) rfl⟩
set_option maxRecDepth 100000 in
theorem f_Screen_66 : pg_fs "PageReceiver$Screen" 66 4 2 := ⟨"PageReceiver$Remote", T_Remote, 7, t_Remote, cf_Remote, fl_Screen_66, by decide⟩
set_option maxRecDepth 100000 in
theorem fw_Screen_66 : pg_fw "PageReceiver$Screen" 66 4 2 (.int) := ⟨"PageReceiver$Remote", T_Remote, 7, t_Remote, cf_Remote, fl_Screen_66, by decide, rfl, rfl⟩
set_option maxRecDepth 100000 in
theorem fl_Screen_85 : pg_fl "PageReceiver$Screen" 85 T_Page 3 := Or.inr ⟨"PageReceiver", List.mem_of_getElem? (i := 9) rfl⟩
set_option maxRecDepth 100000 in
theorem f_Screen_85 : pg_fs "PageReceiver$Screen" 85 2 3 := ⟨"PageReceiver$Page", T_Page, 8, t_Page, cf_Page, fl_Screen_85, by decide⟩
set_option maxRecDepth 100000 in
theorem fw_Screen_85 : pg_fw "PageReceiver$Screen" 85 2 3 (.int) := ⟨"PageReceiver$Page", T_Page, 8, t_Page, cf_Page, fl_Screen_85, by decide, rfl, rfl⟩
set_option maxRecDepth 100000 in
theorem fl_Screen_98 : pg_fl "PageReceiver$Screen" 98 T_States 8 := Or.inr ⟨"PageReceiver", List.mem_of_getElem? (i := 27) rfl⟩
set_option maxRecDepth 100000 in
theorem f_Screen_98 : pg_fs "PageReceiver$Screen" 98 6 8 := ⟨"PageReceiver$States", T_States, 11, t_States, cf_States, fl_Screen_98, by decide⟩
set_option maxRecDepth 100000 in
theorem fw_Screen_98 : pg_fw "PageReceiver$Screen" 98 6 8 (.boolean) := ⟨"PageReceiver$States", T_States, 11, t_States, cf_States, fl_Screen_98, by decide, rfl, rfl⟩
set_option maxRecDepth 100000 in
theorem fl_Screen_101 : pg_fl "PageReceiver$Screen" 101 T_States 2 := Or.inr ⟨"PageReceiver", List.mem_of_getElem? (i := 22) rfl⟩
set_option maxRecDepth 100000 in
theorem f_Screen_101 : pg_fs "PageReceiver$Screen" 101 6 2 := ⟨"PageReceiver$States", T_States, 11, t_States, cf_States, fl_Screen_101, by decide⟩
set_option maxRecDepth 100000 in
theorem fw_Screen_101 : pg_fw "PageReceiver$Screen" 101 6 2 (.boolean) := ⟨"PageReceiver$States", T_States, 11, t_States, cf_States, fl_Screen_101, by decide, rfl, rfl⟩
set_option maxRecDepth 100000 in
theorem fl_Screen_104 : pg_fl "PageReceiver$Screen" 104 T_States 9 := Or.inr ⟨"PageReceiver", List.mem_of_getElem? (i := 28) rfl⟩
set_option maxRecDepth 100000 in
theorem f_Screen_104 : pg_fs "PageReceiver$Screen" 104 6 9 := ⟨"PageReceiver$States", T_States, 11, t_States, cf_States, fl_Screen_104, by decide⟩
set_option maxRecDepth 100000 in
theorem fw_Screen_104 : pg_fw "PageReceiver$Screen" 104 6 9 (.int) := ⟨"PageReceiver$States", T_States, 11, t_States, cf_States, fl_Screen_104, by decide, rfl, rfl⟩
set_option maxRecDepth 100000 in
theorem fl_Screen_107 : pg_fl "PageReceiver$Screen" 107 T_States 10 := Or.inr ⟨"PageReceiver", List.mem_of_getElem? (i := 29) rfl⟩
set_option maxRecDepth 100000 in
theorem f_Screen_107 : pg_fs "PageReceiver$Screen" 107 6 10 := ⟨"PageReceiver$States", T_States, 11, t_States, cf_States, fl_Screen_107, by decide⟩
set_option maxRecDepth 100000 in
theorem fw_Screen_107 : pg_fw "PageReceiver$Screen" 107 6 10 (.boolean) := ⟨"PageReceiver$States", T_States, 11, t_States, cf_States, fl_Screen_107, by decide, rfl, rfl⟩
set_option maxRecDepth 100000 in
theorem fl_Screen_117 : pg_fl "PageReceiver$Screen" 117 T_States 7 := Or.inr ⟨"PageReceiver", List.mem_of_getElem? (i := 26) rfl⟩
set_option maxRecDepth 100000 in
theorem f_Screen_117 : pg_fs "PageReceiver$Screen" 117 6 7 := ⟨"PageReceiver$States", T_States, 11, t_States, cf_States, fl_Screen_117, by decide⟩
set_option maxRecDepth 100000 in
theorem fw_Screen_117 : pg_fw "PageReceiver$Screen" 117 6 7 (.boolean) := ⟨"PageReceiver$States", T_States, 11, t_States, cf_States, fl_Screen_117, by decide, rfl, rfl⟩
set_option maxRecDepth 100000 in
theorem fl_Screen_126 : pg_fl "PageReceiver$Screen" 126 T_Screen 4 := Or.inl (pg_tb 235 rfl rfl)
set_option maxRecDepth 100000 in
theorem f_Screen_126 : pg_fs "PageReceiver$Screen" 126 7 4 := ⟨"PageReceiver$Screen", T_Screen, 8, t_Screen, cf_Screen, fl_Screen_126, by decide⟩
set_option maxRecDepth 100000 in
theorem fw_Screen_126 : pg_fw "PageReceiver$Screen" 126 7 4 (.int) := ⟨"PageReceiver$Screen", T_Screen, 8, t_Screen, cf_Screen, fl_Screen_126, by decide, rfl, rfl⟩
set_option maxRecDepth 100000 in
theorem fl_Screen_129 : pg_fl "PageReceiver$Screen" 129 T_Screen 7 := Or.inl (pg_tb 241 rfl rfl)
set_option maxRecDepth 100000 in
theorem f_Screen_129 : pg_fs "PageReceiver$Screen" 129 7 7 := ⟨"PageReceiver$Screen", T_Screen, 8, t_Screen, cf_Screen, fl_Screen_129, by decide⟩
set_option maxRecDepth 100000 in
theorem fw_Screen_129 : pg_fw "PageReceiver$Screen" 129 7 7 (.int) := ⟨"PageReceiver$Screen", T_Screen, 8, t_Screen, cf_Screen, fl_Screen_129, by decide, rfl, rfl⟩
set_option maxRecDepth 100000 in
theorem fl_Screen_132 : pg_fl "PageReceiver$Screen" 132 T_States 3 := Or.inr ⟨"PageReceiver", List.mem_of_getElem? (i := 23) rfl⟩
set_option maxRecDepth 100000 in
theorem f_Screen_132 : pg_fs "PageReceiver$Screen" 132 6 3 := ⟨"PageReceiver$States", T_States, 11, t_States, cf_States, fl_Screen_132, by decide⟩
set_option maxRecDepth 100000 in
theorem fw_Screen_132 : pg_fw "PageReceiver$Screen" 132 6 3 (.boolean) := ⟨"PageReceiver$States", T_States, 11, t_States, cf_States, fl_Screen_132, by decide, rfl, rfl⟩
set_option maxRecDepth 100000 in
theorem fl_Screen_135 : pg_fl "PageReceiver$Screen" 135 T_States 4 := Or.inr ⟨"PageReceiver", List.mem_of_getElem? (i := 24) rfl⟩
set_option maxRecDepth 100000 in
theorem f_Screen_135 : pg_fs "PageReceiver$Screen" 135 6 4 := ⟨"PageReceiver$States", T_States, 11, t_States, cf_States, fl_Screen_135, by decide⟩
set_option maxRecDepth 100000 in
theorem fw_Screen_135 : pg_fw "PageReceiver$Screen" 135 6 4 (.boolean) := ⟨"PageReceiver$States", T_States, 11, t_States, cf_States, fl_Screen_135, by decide, rfl, rfl⟩
set_option maxRecDepth 100000 in
theorem fl_Screen_138 : pg_fl "PageReceiver$Screen" 138 T_Remote 6 := Or.inr ⟨"PageReceiver", List.mem_of_getElem? (i := 18) rfl⟩
set_option maxRecDepth 100000 in
theorem f_Screen_138 : pg_fs "PageReceiver$Screen" 138 4 6 := ⟨"PageReceiver$Remote", T_Remote, 7, t_Remote, cf_Remote, fl_Screen_138, by decide⟩
set_option maxRecDepth 100000 in
theorem fw_Screen_138 : pg_fw "PageReceiver$Screen" 138 4 6 (.boolean) := ⟨"PageReceiver$Remote", T_Remote, 7, t_Remote, cf_Remote, fl_Screen_138, by decide, rfl, rfl⟩
set_option maxRecDepth 100000 in
theorem fl_Screen_141 : pg_fl "PageReceiver$Screen" 141 T_States 0 := Or.inr ⟨"PageReceiver", List.mem_of_getElem? (i := 20) rfl⟩
set_option maxRecDepth 100000 in
theorem f_Screen_141 : pg_fs "PageReceiver$Screen" 141 6 0 := ⟨"PageReceiver$States", T_States, 11, t_States, cf_States, fl_Screen_141, by decide⟩
set_option maxRecDepth 100000 in
theorem fw_Screen_141 : pg_fw "PageReceiver$Screen" 141 6 0 (.int) := ⟨"PageReceiver$States", T_States, 11, t_States, cf_States, fl_Screen_141, by decide, rfl, rfl⟩
set_option maxRecDepth 100000 in
theorem fl_Screen_144 : pg_fl "PageReceiver$Screen" 144 T_Screen 5 := Or.inl (pg_tb 237 rfl rfl)
set_option maxRecDepth 100000 in
theorem f_Screen_144 : pg_fs "PageReceiver$Screen" 144 7 5 := ⟨"PageReceiver$Screen", T_Screen, 8, t_Screen, cf_Screen, fl_Screen_144, by decide⟩
set_option maxRecDepth 100000 in
theorem fw_Screen_144 : pg_fw "PageReceiver$Screen" 144 7 5 (.int) := ⟨"PageReceiver$Screen", T_Screen, 8, t_Screen, cf_Screen, fl_Screen_144, by decide, rfl, rfl⟩
set_option maxRecDepth 100000 in
theorem fl_Screen_145 : pg_fl "PageReceiver$Screen" 145 T_States 1 := Or.inr ⟨"PageReceiver", List.mem_of_getElem? (i := 21) rfl⟩
set_option maxRecDepth 100000 in
theorem f_Screen_145 : pg_fs "PageReceiver$Screen" 145 6 1 := ⟨"PageReceiver$States", T_States, 11, t_States, cf_States, fl_Screen_145, by decide⟩
set_option maxRecDepth 100000 in
theorem fw_Screen_145 : pg_fw "PageReceiver$Screen" 145 6 1 (.int) := ⟨"PageReceiver$States", T_States, 11, t_States, cf_States, fl_Screen_145, by decide, rfl, rfl⟩
set_option maxRecDepth 100000 in
theorem fl_Screen_148 : pg_fl "PageReceiver$Screen" 148 T_Screen 6 := Or.inl (pg_tb 239 rfl rfl)
set_option maxRecDepth 100000 in
theorem f_Screen_148 : pg_fs "PageReceiver$Screen" 148 7 6 := ⟨"PageReceiver$Screen", T_Screen, 8, t_Screen, cf_Screen, fl_Screen_148, by decide⟩
set_option maxRecDepth 100000 in
theorem fw_Screen_148 : pg_fw "PageReceiver$Screen" 148 7 6 (.int) := ⟨"PageReceiver$Screen", T_Screen, 8, t_Screen, cf_Screen, fl_Screen_148, by decide, rfl, rfl⟩
set_option maxRecDepth 100000 in
theorem fl_Screen_152 : pg_fl "PageReceiver$Screen" 152 T_States 6 := Or.inr ⟨"PageReceiver", List.mem_of_getElem? (i := 25) rfl⟩
set_option maxRecDepth 100000 in
theorem f_Screen_152 : pg_fs "PageReceiver$Screen" 152 6 6 := ⟨"PageReceiver$States", T_States, 11, t_States, cf_States, fl_Screen_152, by decide⟩
set_option maxRecDepth 100000 in
theorem fw_Screen_152 : pg_fw "PageReceiver$Screen" 152 6 6 (.boolean) := ⟨"PageReceiver$States", T_States, 11, t_States, cf_States, fl_Screen_152, by decide, rfl, rfl⟩
set_option maxRecDepth 100000 in
theorem fl_Shelf_9 : pg_fl "PageReceiver$Shelf" 9 T_Shelf 1 := Or.inl (pg_tb 96 rfl rfl)
set_option maxRecDepth 100000 in
theorem f_Shelf_9 : pg_fs "PageReceiver$Shelf" 9 3 1 := ⟨"PageReceiver$Shelf", T_Shelf, 2, t_Shelf, cf_Shelf, fl_Shelf_9, by decide⟩
set_option maxRecDepth 100000 in
theorem fl_Shelf_17 : pg_fl "PageReceiver$Shelf" 17 T_Shelf 0 := Or.inl (pg_tb 95 rfl rfl)
set_option maxRecDepth 100000 in
theorem f_Shelf_17 : pg_fs "PageReceiver$Shelf" 17 3 0 := ⟨"PageReceiver$Shelf", T_Shelf, 2, t_Shelf, cf_Shelf, fl_Shelf_17, by decide⟩
set_option maxRecDepth 100000 in
theorem fl_Shelf_22 : pg_fl "PageReceiver$Shelf" 22 T_Page 0 := Or.inr ⟨"PageReceiver", List.mem_of_getElem? (i := 2) rfl⟩
set_option maxRecDepth 100000 in
theorem f_Shelf_22 : pg_fs "PageReceiver$Shelf" 22 2 0 := ⟨"PageReceiver$Page", T_Page, 8, t_Page, cf_Page, fl_Shelf_22, by decide⟩
set_option maxRecDepth 100000 in
theorem fw_Shelf_22 : pg_fw "PageReceiver$Shelf" 22 2 0 (.boolean) := ⟨"PageReceiver$Page", T_Page, 8, t_Page, cf_Page, fl_Shelf_22, by decide, rfl, rfl⟩
set_option maxRecDepth 100000 in
theorem fl_Shelf_26 : pg_fl "PageReceiver$Shelf" 26 T_Page 1 := Or.inr ⟨"PageReceiver", List.mem_of_getElem? (i := 5) rfl⟩
set_option maxRecDepth 100000 in
theorem f_Shelf_26 : pg_fs "PageReceiver$Shelf" 26 2 1 := ⟨"PageReceiver$Page", T_Page, 8, t_Page, cf_Page, fl_Shelf_26, by decide⟩
set_option maxRecDepth 100000 in
theorem fw_Shelf_26 : pg_fw "PageReceiver$Shelf" 26 2 1 (.int) := ⟨"PageReceiver$Page", T_Page, 8, t_Page, cf_Page, fl_Shelf_26, by decide, rfl, rfl⟩
set_option maxRecDepth 100000 in
theorem fl_Shelf_38 : pg_fl "PageReceiver$Shelf" 38 T_Page 4 := Or.inr ⟨"PageReceiver", List.mem_of_getElem? (i := 10) rfl⟩
set_option maxRecDepth 100000 in
theorem f_Shelf_38 : pg_fs "PageReceiver$Shelf" 38 2 4 := ⟨"PageReceiver$Page", T_Page, 8, t_Page, cf_Page, fl_Shelf_38, by decide⟩
set_option maxRecDepth 100000 in
theorem fw_Shelf_38 : pg_fw "PageReceiver$Shelf" 38 2 4 (.int) := ⟨"PageReceiver$Page", T_Page, 8, t_Page, cf_Page, fl_Shelf_38, by decide, rfl, rfl⟩
set_option maxRecDepth 100000 in
theorem fl_States_9 : pg_fl "PageReceiver$States" 9 T_States 0 := Or.inl (pg_tb 185 rfl rfl)
set_option maxRecDepth 100000 in
theorem f_States_9 : pg_fs "PageReceiver$States" 9 6 0 := ⟨"PageReceiver$States", T_States, 11, t_States, cf_States, fl_States_9, by decide⟩
set_option maxRecDepth 100000 in
theorem fw_States_9 : pg_fw "PageReceiver$States" 9 6 0 (.int) := ⟨"PageReceiver$States", T_States, 11, t_States, cf_States, fl_States_9, by decide, rfl, rfl⟩
set_option maxRecDepth 100000 in
theorem fl_States_15 : pg_fl "PageReceiver$States" 15 T_States 1 := Or.inl (pg_tb 187 rfl rfl)
set_option maxRecDepth 100000 in
theorem f_States_15 : pg_fs "PageReceiver$States" 15 6 1 := ⟨"PageReceiver$States", T_States, 11, t_States, cf_States, fl_States_15, by decide⟩
set_option maxRecDepth 100000 in
theorem fw_States_15 : pg_fw "PageReceiver$States" 15 6 1 (.int) := ⟨"PageReceiver$States", T_States, 11, t_States, cf_States, fl_States_15, by decide, rfl, rfl⟩
set_option maxRecDepth 100000 in
theorem fl_States_18 : pg_fl "PageReceiver$States" 18 T_States 2 := Or.inl (pg_tb 189 rfl rfl)
set_option maxRecDepth 100000 in
theorem f_States_18 : pg_fs "PageReceiver$States" 18 6 2 := ⟨"PageReceiver$States", T_States, 11, t_States, cf_States, fl_States_18, by decide⟩
set_option maxRecDepth 100000 in
theorem fw_States_18 : pg_fw "PageReceiver$States" 18 6 2 (.boolean) := ⟨"PageReceiver$States", T_States, 11, t_States, cf_States, fl_States_18, by decide, rfl, rfl⟩
set_option maxRecDepth 100000 in
theorem fl_States_22 : pg_fl "PageReceiver$States" 22 T_States 3 := Or.inl (pg_tb 191 rfl rfl)
set_option maxRecDepth 100000 in
theorem f_States_22 : pg_fs "PageReceiver$States" 22 6 3 := ⟨"PageReceiver$States", T_States, 11, t_States, cf_States, fl_States_22, by decide⟩
set_option maxRecDepth 100000 in
theorem fw_States_22 : pg_fw "PageReceiver$States" 22 6 3 (.boolean) := ⟨"PageReceiver$States", T_States, 11, t_States, cf_States, fl_States_22, by decide, rfl, rfl⟩
set_option maxRecDepth 100000 in
theorem fl_States_25 : pg_fl "PageReceiver$States" 25 T_States 4 := Or.inl (pg_tb 193 rfl rfl)
set_option maxRecDepth 100000 in
theorem f_States_25 : pg_fs "PageReceiver$States" 25 6 4 := ⟨"PageReceiver$States", T_States, 11, t_States, cf_States, fl_States_25, by decide⟩
set_option maxRecDepth 100000 in
theorem fw_States_25 : pg_fw "PageReceiver$States" 25 6 4 (.boolean) := ⟨"PageReceiver$States", T_States, 11, t_States, cf_States, fl_States_25, by decide, rfl, rfl⟩
set_option maxRecDepth 100000 in
theorem fl_States_28 : pg_fl "PageReceiver$States" 28 T_States 5 := Or.inl (pg_tb 195 rfl rfl)
set_option maxRecDepth 100000 in
theorem f_States_28 : pg_fs "PageReceiver$States" 28 6 5 := ⟨"PageReceiver$States", T_States, 11, t_States, cf_States, fl_States_28, by decide⟩
set_option maxRecDepth 100000 in
theorem fw_States_28 : pg_fw "PageReceiver$States" 28 6 5 (.boolean) := ⟨"PageReceiver$States", T_States, 11, t_States, cf_States, fl_States_28, by decide, rfl, rfl⟩
set_option maxRecDepth 100000 in
theorem fl_States_31 : pg_fl "PageReceiver$States" 31 T_States 6 := Or.inl (pg_tb 196 rfl rfl)
set_option maxRecDepth 100000 in
theorem f_States_31 : pg_fs "PageReceiver$States" 31 6 6 := ⟨"PageReceiver$States", T_States, 11, t_States, cf_States, fl_States_31, by decide⟩
set_option maxRecDepth 100000 in
theorem fw_States_31 : pg_fw "PageReceiver$States" 31 6 6 (.boolean) := ⟨"PageReceiver$States", T_States, 11, t_States, cf_States, fl_States_31, by decide, rfl, rfl⟩
set_option maxRecDepth 100000 in
theorem fl_States_34 : pg_fl "PageReceiver$States" 34 T_States 7 := Or.inl (pg_tb 198 rfl rfl)
set_option maxRecDepth 100000 in
theorem f_States_34 : pg_fs "PageReceiver$States" 34 6 7 := ⟨"PageReceiver$States", T_States, 11, t_States, cf_States, fl_States_34, by decide⟩
set_option maxRecDepth 100000 in
theorem fw_States_34 : pg_fw "PageReceiver$States" 34 6 7 (.boolean) := ⟨"PageReceiver$States", T_States, 11, t_States, cf_States, fl_States_34, by decide, rfl, rfl⟩
set_option maxRecDepth 100000 in
theorem fl_States_37 : pg_fl "PageReceiver$States" 37 T_States 8 := Or.inl (pg_tb 200 rfl rfl)
set_option maxRecDepth 100000 in
theorem f_States_37 : pg_fs "PageReceiver$States" 37 6 8 := ⟨"PageReceiver$States", T_States, 11, t_States, cf_States, fl_States_37, by decide⟩
set_option maxRecDepth 100000 in
theorem fw_States_37 : pg_fw "PageReceiver$States" 37 6 8 (.boolean) := ⟨"PageReceiver$States", T_States, 11, t_States, cf_States, fl_States_37, by decide, rfl, rfl⟩
set_option maxRecDepth 100000 in
theorem fl_States_44 : pg_fl "PageReceiver$States" 44 T_States 9 := Or.inl (pg_tb 202 rfl rfl)
set_option maxRecDepth 100000 in
theorem f_States_44 : pg_fs "PageReceiver$States" 44 6 9 := ⟨"PageReceiver$States", T_States, 11, t_States, cf_States, fl_States_44, by decide⟩
set_option maxRecDepth 100000 in
theorem fw_States_44 : pg_fw "PageReceiver$States" 44 6 9 (.int) := ⟨"PageReceiver$States", T_States, 11, t_States, cf_States, fl_States_44, by decide, rfl, rfl⟩
set_option maxRecDepth 100000 in
theorem fl_States_47 : pg_fl "PageReceiver$States" 47 T_States 10 := Or.inl (pg_tb 204 rfl rfl)
set_option maxRecDepth 100000 in
theorem f_States_47 : pg_fs "PageReceiver$States" 47 6 10 := ⟨"PageReceiver$States", T_States, 11, t_States, cf_States, fl_States_47, by decide⟩
set_option maxRecDepth 100000 in
theorem fw_States_47 : pg_fw "PageReceiver$States" 47 6 10 (.boolean) := ⟨"PageReceiver$States", T_States, 11, t_States, cf_States, fl_States_47, by decide, rfl, rfl⟩
set_option maxRecDepth 100000 in
theorem fl_Tuner_11 : pg_fl "PageReceiver$Tuner" 11 T_Tuner 4 := Or.inl (pg_tb 154 rfl rfl)
set_option maxRecDepth 100000 in
theorem f_Tuner_11 : pg_fs "PageReceiver$Tuner" 11 5 4 := ⟨"PageReceiver$Tuner", T_Tuner, 7, t_Tuner, cf_Tuner, fl_Tuner_11, by decide⟩
set_option maxRecDepth 100000 in
theorem fl_Tuner_17 : pg_fl "PageReceiver$Tuner" 17 T_Tuner 5 := Or.inl (pg_tb 155 rfl rfl)
set_option maxRecDepth 100000 in
theorem f_Tuner_17 : pg_fs "PageReceiver$Tuner" 17 5 5 := ⟨"PageReceiver$Tuner", T_Tuner, 7, t_Tuner, cf_Tuner, fl_Tuner_17, by decide⟩
set_option maxRecDepth 100000 in
theorem fl_Tuner_21 : pg_fl "PageReceiver$Tuner" 21 T_Tuner 6 := Or.inl (pg_tb 157 rfl rfl)
set_option maxRecDepth 100000 in
theorem f_Tuner_21 : pg_fs "PageReceiver$Tuner" 21 5 6 := ⟨"PageReceiver$Tuner", T_Tuner, 7, t_Tuner, cf_Tuner, fl_Tuner_21, by decide⟩
set_option maxRecDepth 100000 in
theorem fl_Tuner_24 : pg_fl "PageReceiver$Tuner" 24 T_Tuner 0 := Or.inl (pg_tb 150 rfl rfl)
set_option maxRecDepth 100000 in
theorem f_Tuner_24 : pg_fs "PageReceiver$Tuner" 24 5 0 := ⟨"PageReceiver$Tuner", T_Tuner, 7, t_Tuner, cf_Tuner, fl_Tuner_24, by decide⟩
set_option maxRecDepth 100000 in
theorem fl_Tuner_28 : pg_fl "PageReceiver$Tuner" 28 T_Tuner 1 := Or.inl (pg_tb 151 rfl rfl)
set_option maxRecDepth 100000 in
theorem f_Tuner_28 : pg_fs "PageReceiver$Tuner" 28 5 1 := ⟨"PageReceiver$Tuner", T_Tuner, 7, t_Tuner, cf_Tuner, fl_Tuner_28, by decide⟩
set_option maxRecDepth 100000 in
theorem fl_Tuner_32 : pg_fl "PageReceiver$Tuner" 32 T_Tuner 2 := Or.inl (pg_tb 152 rfl rfl)
set_option maxRecDepth 100000 in
theorem f_Tuner_32 : pg_fs "PageReceiver$Tuner" 32 5 2 := ⟨"PageReceiver$Tuner", T_Tuner, 7, t_Tuner, cf_Tuner, fl_Tuner_32, by decide⟩
set_option maxRecDepth 100000 in
theorem fl_Tuner_36 : pg_fl "PageReceiver$Tuner" 36 T_Tuner 3 := Or.inl (pg_tb 153 rfl rfl)
set_option maxRecDepth 100000 in
theorem f_Tuner_36 : pg_fs "PageReceiver$Tuner" 36 5 3 := ⟨"PageReceiver$Tuner", T_Tuner, 7, t_Tuner, cf_Tuner, fl_Tuner_36, by decide⟩
set_option maxRecDepth 100000 in
theorem fl_Tuner_56 : pg_fl "PageReceiver$Tuner" 56 T_Page 0 := Or.inr ⟨"PageReceiver", List.mem_of_getElem? (i := 3) rfl⟩
set_option maxRecDepth 100000 in
theorem f_Tuner_56 : pg_fs "PageReceiver$Tuner" 56 2 0 := ⟨"PageReceiver$Page", T_Page, 8, t_Page, cf_Page, fl_Tuner_56, by decide⟩
set_option maxRecDepth 100000 in
theorem fw_Tuner_56 : pg_fw "PageReceiver$Tuner" 56 2 0 (.boolean) := ⟨"PageReceiver$Page", T_Page, 8, t_Page, cf_Page, fl_Tuner_56, by decide, rfl, rfl⟩
set_option maxRecDepth 100000 in
theorem fl_Tuner_90 : pg_fl "PageReceiver$Tuner" 90 T_Remote 2 := Or.inr ⟨"PageReceiver", List.mem_of_getElem? (i := 14) rfl⟩
set_option maxRecDepth 100000 in
theorem f_Tuner_90 : pg_fs "PageReceiver$Tuner" 90 4 2 := ⟨"PageReceiver$Remote", T_Remote, 7, t_Remote, cf_Remote, fl_Tuner_90, by decide⟩
set_option maxRecDepth 100000 in
theorem fw_Tuner_90 : pg_fw "PageReceiver$Tuner" 90 4 2 (.int) := ⟨"PageReceiver$Remote", T_Remote, 7, t_Remote, cf_Remote, fl_Tuner_90, by decide, rfl, rfl⟩
set_option maxRecDepth 100000 in
theorem fl_Tuner_111 : pg_fl "PageReceiver$Tuner" 111 T_Page 2 := Or.inr ⟨"PageReceiver", List.mem_of_getElem? (i := 7) rfl⟩
set_option maxRecDepth 100000 in
theorem f_Tuner_111 : pg_fs "PageReceiver$Tuner" 111 2 2 := ⟨"PageReceiver$Page", T_Page, 8, t_Page, cf_Page, fl_Tuner_111, by decide⟩
set_option maxRecDepth 100000 in
theorem fw_Tuner_111 : pg_fw "PageReceiver$Tuner" 111 2 2 (.int) := ⟨"PageReceiver$Page", T_Page, 8, t_Page, cf_Page, fl_Tuner_111, by decide, rfl, rfl⟩
set_option maxRecDepth 100000 in
theorem fl_Tuner_114 : pg_fl "PageReceiver$Tuner" 114 T_Page 3 := Or.inr ⟨"PageReceiver", List.mem_of_getElem? (i := 8) rfl⟩
set_option maxRecDepth 100000 in
theorem f_Tuner_114 : pg_fs "PageReceiver$Tuner" 114 2 3 := ⟨"PageReceiver$Page", T_Page, 8, t_Page, cf_Page, fl_Tuner_114, by decide⟩
set_option maxRecDepth 100000 in
theorem fw_Tuner_114 : pg_fw "PageReceiver$Tuner" 114 2 3 (.int) := ⟨"PageReceiver$Page", T_Page, 8, t_Page, cf_Page, fl_Tuner_114, by decide, rfl, rfl⟩
set_option maxRecDepth 100000 in
theorem fl_Tuner_134 : pg_fl "PageReceiver$Tuner" 134 T_Page 7 := Or.inr ⟨"PageReceiver", List.mem_of_getElem? (i := 11) rfl⟩
set_option maxRecDepth 100000 in
theorem f_Tuner_134 : pg_fs "PageReceiver$Tuner" 134 2 7 := ⟨"PageReceiver$Page", T_Page, 8, t_Page, cf_Page, fl_Tuner_134, by decide⟩
set_option maxRecDepth 100000 in
theorem fl_Mod_7 : pg_fl "PageReceiverModel" 7 T_Mod 1 := Or.inl (pg_tb 615 rfl rfl)
set_option maxRecDepth 100000 in
theorem f_Mod_7 : pg_fs "PageReceiverModel" 7 8 1 := ⟨"PageReceiverModel", T_Mod, 37, t_Mod, cf_Mod, fl_Mod_7, by decide⟩
set_option maxRecDepth 100000 in
theorem fl_Mod_13 : pg_fl "PageReceiverModel" 13 T_Mod 2 := Or.inl (pg_tb 616 rfl rfl)
set_option maxRecDepth 100000 in
theorem f_Mod_13 : pg_fs "PageReceiverModel" 13 8 2 := ⟨"PageReceiverModel", T_Mod, 37, t_Mod, cf_Mod, fl_Mod_13, by decide⟩
set_option maxRecDepth 100000 in
theorem fl_Mod_17 : pg_fl "PageReceiverModel" 17 T_Mod 3 := Or.inl (pg_tb 617 rfl rfl)
set_option maxRecDepth 100000 in
theorem f_Mod_17 : pg_fs "PageReceiverModel" 17 8 3 := ⟨"PageReceiverModel", T_Mod, 37, t_Mod, cf_Mod, fl_Mod_17, by decide⟩
set_option maxRecDepth 100000 in
theorem fl_Mod_20 : pg_fl "PageReceiverModel" 20 T_Mod 4 := Or.inl (pg_tb 618 rfl rfl)
set_option maxRecDepth 100000 in
theorem f_Mod_20 : pg_fs "PageReceiverModel" 20 8 4 := ⟨"PageReceiverModel", T_Mod, 37, t_Mod, cf_Mod, fl_Mod_20, by decide⟩
set_option maxRecDepth 100000 in
theorem fl_Mod_23 : pg_fl "PageReceiverModel" 23 T_Mod 5 := Or.inl (pg_tb 619 rfl rfl)
set_option maxRecDepth 100000 in
theorem f_Mod_23 : pg_fs "PageReceiverModel" 23 8 5 := ⟨"PageReceiverModel", T_Mod, 37, t_Mod, cf_Mod, fl_Mod_23, by decide⟩
set_option maxRecDepth 100000 in
theorem fl_Mod_26 : pg_fl "PageReceiverModel" 26 T_Mod 6 := Or.inl (pg_tb 620 rfl rfl)
set_option maxRecDepth 100000 in
theorem f_Mod_26 : pg_fs "PageReceiverModel" 26 8 6 := ⟨"PageReceiverModel", T_Mod, 37, t_Mod, cf_Mod, fl_Mod_26, by decide⟩
set_option maxRecDepth 100000 in
theorem fl_Mod_29 : pg_fl "PageReceiverModel" 29 T_Mod 7 := Or.inl (pg_tb 621 rfl rfl)
set_option maxRecDepth 100000 in
theorem f_Mod_29 : pg_fs "PageReceiverModel" 29 8 7 := ⟨"PageReceiverModel", T_Mod, 37, t_Mod, cf_Mod, fl_Mod_29, by decide⟩
set_option maxRecDepth 100000 in
theorem fl_Mod_32 : pg_fl "PageReceiverModel" 32 T_Mod 8 := Or.inl (pg_tb 622 rfl rfl)
set_option maxRecDepth 100000 in
theorem f_Mod_32 : pg_fs "PageReceiverModel" 32 8 8 := ⟨"PageReceiverModel", T_Mod, 37, t_Mod, cf_Mod, fl_Mod_32, by decide⟩
set_option maxRecDepth 100000 in
theorem fl_Mod_35 : pg_fl "PageReceiverModel" 35 T_Mod 9 := Or.inl (pg_tb 623 rfl rfl)
set_option maxRecDepth 100000 in
theorem f_Mod_35 : pg_fs "PageReceiverModel" 35 8 9 := ⟨"PageReceiverModel", T_Mod, 37, t_Mod, cf_Mod, fl_Mod_35, by decide⟩
set_option maxRecDepth 100000 in
theorem fl_Mod_38 : pg_fl "PageReceiverModel" 38 T_Mod 10 := Or.inl (pg_tb 624 rfl rfl)
set_option maxRecDepth 100000 in
theorem f_Mod_38 : pg_fs "PageReceiverModel" 38 8 10 := ⟨"PageReceiverModel", T_Mod, 37, t_Mod, cf_Mod, fl_Mod_38, by decide⟩
set_option maxRecDepth 100000 in
theorem fl_Mod_41 : pg_fl "PageReceiverModel" 41 T_Mod 12 := Or.inl (pg_tb 626 rfl rfl)
set_option maxRecDepth 100000 in
theorem f_Mod_41 : pg_fs "PageReceiverModel" 41 8 12 := ⟨"PageReceiverModel", T_Mod, 37, t_Mod, cf_Mod, fl_Mod_41, by decide⟩
set_option maxRecDepth 100000 in
theorem fl_Mod_44 : pg_fl "PageReceiverModel" 44 T_Mod 13 := Or.inl (pg_tb 627 rfl rfl)
set_option maxRecDepth 100000 in
theorem f_Mod_44 : pg_fs "PageReceiverModel" 44 8 13 := ⟨"PageReceiverModel", T_Mod, 37, t_Mod, cf_Mod, fl_Mod_44, by decide⟩
set_option maxRecDepth 100000 in
theorem fw_Mod_44 : pg_fw "PageReceiverModel" 44 8 13 (.int) := ⟨"PageReceiverModel", T_Mod, 37, t_Mod, cf_Mod, fl_Mod_44, by decide, rfl, rfl⟩
set_option maxRecDepth 100000 in
theorem fl_Mod_48 : pg_fl "PageReceiverModel" 48 T_Mod 18 := Or.inl (pg_tb 632 rfl rfl)
set_option maxRecDepth 100000 in
theorem f_Mod_48 : pg_fs "PageReceiverModel" 48 8 18 := ⟨"PageReceiverModel", T_Mod, 37, t_Mod, cf_Mod, fl_Mod_48, by decide⟩
set_option maxRecDepth 100000 in
theorem fw_Mod_48 : pg_fw "PageReceiverModel" 48 8 18 (.boolean) := ⟨"PageReceiverModel", T_Mod, 37, t_Mod, cf_Mod, fl_Mod_48, by decide, rfl, rfl⟩
set_option maxRecDepth 100000 in
theorem fl_Mod_52 : pg_fl "PageReceiverModel" 52 T_Mod 19 := Or.inl (pg_tb 633 rfl rfl)
set_option maxRecDepth 100000 in
theorem f_Mod_52 : pg_fs "PageReceiverModel" 52 8 19 := ⟨"PageReceiverModel", T_Mod, 37, t_Mod, cf_Mod, fl_Mod_52, by decide⟩
set_option maxRecDepth 100000 in
theorem fl_Mod_55 : pg_fl "PageReceiverModel" 55 T_Mod 20 := Or.inl (pg_tb 634 rfl rfl)
set_option maxRecDepth 100000 in
theorem f_Mod_55 : pg_fs "PageReceiverModel" 55 8 20 := ⟨"PageReceiverModel", T_Mod, 37, t_Mod, cf_Mod, fl_Mod_55, by decide⟩
set_option maxRecDepth 100000 in
theorem fl_Mod_58 : pg_fl "PageReceiverModel" 58 T_Mod 21 := Or.inl (pg_tb 635 rfl rfl)
set_option maxRecDepth 100000 in
theorem f_Mod_58 : pg_fs "PageReceiverModel" 58 8 21 := ⟨"PageReceiverModel", T_Mod, 37, t_Mod, cf_Mod, fl_Mod_58, by decide⟩
set_option maxRecDepth 100000 in
theorem fl_Mod_61 : pg_fl "PageReceiverModel" 61 T_Mod 22 := Or.inl (pg_tb 636 rfl rfl)
set_option maxRecDepth 100000 in
theorem f_Mod_61 : pg_fs "PageReceiverModel" 61 8 22 := ⟨"PageReceiverModel", T_Mod, 37, t_Mod, cf_Mod, fl_Mod_61, by decide⟩
set_option maxRecDepth 100000 in
theorem fl_Mod_64 : pg_fl "PageReceiverModel" 64 T_Mod 23 := Or.inl (pg_tb 637 rfl rfl)
set_option maxRecDepth 100000 in
theorem f_Mod_64 : pg_fs "PageReceiverModel" 64 8 23 := ⟨"PageReceiverModel", T_Mod, 37, t_Mod, cf_Mod, fl_Mod_64, by decide⟩
set_option maxRecDepth 100000 in
theorem fl_Mod_67 : pg_fl "PageReceiverModel" 67 T_Mod 24 := Or.inl (pg_tb 638 rfl rfl)
set_option maxRecDepth 100000 in
theorem f_Mod_67 : pg_fs "PageReceiverModel" 67 8 24 := ⟨"PageReceiverModel", T_Mod, 37, t_Mod, cf_Mod, fl_Mod_67, by decide⟩
set_option maxRecDepth 100000 in
theorem fl_Mod_70 : pg_fl "PageReceiverModel" 70 T_Mod 0 := Or.inl (pg_tb 614 rfl rfl)
set_option maxRecDepth 100000 in
theorem f_Mod_70 : pg_fs "PageReceiverModel" 70 8 0 := ⟨"PageReceiverModel", T_Mod, 37, t_Mod, cf_Mod, fl_Mod_70, by decide⟩
set_option maxRecDepth 100000 in
theorem fl_Mod_127 : pg_fl "PageReceiverModel" 127 T_Mod 11 := Or.inl (pg_tb 625 rfl rfl)
set_option maxRecDepth 100000 in
theorem f_Mod_127 : pg_fs "PageReceiverModel" 127 8 11 := ⟨"PageReceiverModel", T_Mod, 37, t_Mod, cf_Mod, fl_Mod_127, by decide⟩
set_option maxRecDepth 100000 in
theorem fw_Mod_127 : pg_fw "PageReceiverModel" 127 8 11 (.int) := ⟨"PageReceiverModel", T_Mod, 37, t_Mod, cf_Mod, fl_Mod_127, by decide, rfl, rfl⟩
set_option maxRecDepth 100000 in
theorem fl_Mod_135 : pg_fl "PageReceiverModel" 135 T_Mod 17 := Or.inl (pg_tb 631 rfl rfl)
set_option maxRecDepth 100000 in
theorem f_Mod_135 : pg_fs "PageReceiverModel" 135 8 17 := ⟨"PageReceiverModel", T_Mod, 37, t_Mod, cf_Mod, fl_Mod_135, by decide⟩
set_option maxRecDepth 100000 in
theorem fw_Mod_135 : pg_fw "PageReceiverModel" 135 8 17 (.boolean) := ⟨"PageReceiverModel", T_Mod, 37, t_Mod, cf_Mod, fl_Mod_135, by decide, rfl, rfl⟩
set_option maxRecDepth 100000 in
theorem fl_Mod_138 : pg_fl "PageReceiverModel" 138 T_Mod 14 := Or.inl (pg_tb 628 rfl rfl)
set_option maxRecDepth 100000 in
theorem f_Mod_138 : pg_fs "PageReceiverModel" 138 8 14 := ⟨"PageReceiverModel", T_Mod, 37, t_Mod, cf_Mod, fl_Mod_138, by decide⟩
set_option maxRecDepth 100000 in
theorem fw_Mod_138 : pg_fw "PageReceiverModel" 138 8 14 (.int) := ⟨"PageReceiverModel", T_Mod, 37, t_Mod, cf_Mod, fl_Mod_138, by decide, rfl, rfl⟩
set_option maxRecDepth 100000 in
theorem fl_Mod_141 : pg_fl "PageReceiverModel" 141 T_Mod 15 := Or.inl (pg_tb 629 rfl rfl)
set_option maxRecDepth 100000 in
theorem f_Mod_141 : pg_fs "PageReceiverModel" 141 8 15 := ⟨"PageReceiverModel", T_Mod, 37, t_Mod, cf_Mod, fl_Mod_141, by decide⟩
set_option maxRecDepth 100000 in
theorem fw_Mod_141 : pg_fw "PageReceiverModel" 141 8 15 (.int) := ⟨"PageReceiverModel", T_Mod, 37, t_Mod, cf_Mod, fl_Mod_141, by decide, rfl, rfl⟩
set_option maxRecDepth 100000 in
theorem fl_Mod_144 : pg_fl "PageReceiverModel" 144 T_Mod 16 := Or.inl (pg_tb 630 rfl rfl)
set_option maxRecDepth 100000 in
theorem f_Mod_144 : pg_fs "PageReceiverModel" 144 8 16 := ⟨"PageReceiverModel", T_Mod, 37, t_Mod, cf_Mod, fl_Mod_144, by decide⟩
set_option maxRecDepth 100000 in
theorem fw_Mod_144 : pg_fw "PageReceiverModel" 144 8 16 (.int) := ⟨"PageReceiverModel", T_Mod, 37, t_Mod, cf_Mod, fl_Mod_144, by decide, rfl, rfl⟩
set_option maxRecDepth 100000 in
theorem fl_Mod_161 : pg_fl "PageReceiverModel" 161 T_Mod 25 := Or.inl (pg_tb 639 rfl rfl)
set_option maxRecDepth 100000 in
theorem f_Mod_161 : pg_fs "PageReceiverModel" 161 8 25 := ⟨"PageReceiverModel", T_Mod, 37, t_Mod, cf_Mod, fl_Mod_161, by decide⟩
set_option maxRecDepth 100000 in
theorem fw_Mod_161 : pg_fw "PageReceiverModel" 161 8 25 (.int) := ⟨"PageReceiverModel", T_Mod, 37, t_Mod, cf_Mod, fl_Mod_161, by decide, rfl, rfl⟩
set_option maxRecDepth 100000 in
theorem fl_Mod_164 : pg_fl "PageReceiverModel" 164 T_Mod 26 := Or.inl (pg_tb 640 rfl rfl)
set_option maxRecDepth 100000 in
theorem f_Mod_164 : pg_fs "PageReceiverModel" 164 8 26 := ⟨"PageReceiverModel", T_Mod, 37, t_Mod, cf_Mod, fl_Mod_164, by decide⟩
set_option maxRecDepth 100000 in
theorem fw_Mod_164 : pg_fw "PageReceiverModel" 164 8 26 (.int) := ⟨"PageReceiverModel", T_Mod, 37, t_Mod, cf_Mod, fl_Mod_164, by decide, rfl, rfl⟩
set_option maxRecDepth 100000 in
theorem fl_Mod_167 : pg_fl "PageReceiverModel" 167 T_Mod 27 := Or.inl (pg_tb 641 rfl rfl)
set_option maxRecDepth 100000 in
theorem f_Mod_167 : pg_fs "PageReceiverModel" 167 8 27 := ⟨"PageReceiverModel", T_Mod, 37, t_Mod, cf_Mod, fl_Mod_167, by decide⟩
set_option maxRecDepth 100000 in
theorem fw_Mod_167 : pg_fw "PageReceiverModel" 167 8 27 (.boolean) := ⟨"PageReceiverModel", T_Mod, 37, t_Mod, cf_Mod, fl_Mod_167, by decide, rfl, rfl⟩
set_option maxRecDepth 100000 in
theorem fl_Mod_170 : pg_fl "PageReceiverModel" 170 T_Mod 28 := Or.inl (pg_tb 642 rfl rfl)
set_option maxRecDepth 100000 in
theorem f_Mod_170 : pg_fs "PageReceiverModel" 170 8 28 := ⟨"PageReceiverModel", T_Mod, 37, t_Mod, cf_Mod, fl_Mod_170, by decide⟩
set_option maxRecDepth 100000 in
theorem fw_Mod_170 : pg_fw "PageReceiverModel" 170 8 28 (.boolean) := ⟨"PageReceiverModel", T_Mod, 37, t_Mod, cf_Mod, fl_Mod_170, by decide, rfl, rfl⟩
set_option maxRecDepth 100000 in
theorem fl_Mod_173 : pg_fl "PageReceiverModel" 173 T_Mod 29 := Or.inl (pg_tb 643 rfl rfl)
set_option maxRecDepth 100000 in
theorem f_Mod_173 : pg_fs "PageReceiverModel" 173 8 29 := ⟨"PageReceiverModel", T_Mod, 37, t_Mod, cf_Mod, fl_Mod_173, by decide⟩
set_option maxRecDepth 100000 in
theorem fw_Mod_173 : pg_fw "PageReceiverModel" 173 8 29 (.boolean) := ⟨"PageReceiverModel", T_Mod, 37, t_Mod, cf_Mod, fl_Mod_173, by decide, rfl, rfl⟩
set_option maxRecDepth 100000 in
theorem fl_Mod_176 : pg_fl "PageReceiverModel" 176 T_Mod 30 := Or.inl (pg_tb 644 rfl rfl)
set_option maxRecDepth 100000 in
theorem f_Mod_176 : pg_fs "PageReceiverModel" 176 8 30 := ⟨"PageReceiverModel", T_Mod, 37, t_Mod, cf_Mod, fl_Mod_176, by decide⟩
set_option maxRecDepth 100000 in
theorem fw_Mod_176 : pg_fw "PageReceiverModel" 176 8 30 (.boolean) := ⟨"PageReceiverModel", T_Mod, 37, t_Mod, cf_Mod, fl_Mod_176, by decide, rfl, rfl⟩
set_option maxRecDepth 100000 in
theorem fl_Mod_179 : pg_fl "PageReceiverModel" 179 T_Mod 31 := Or.inl (pg_tb 645 rfl rfl)
set_option maxRecDepth 100000 in
theorem f_Mod_179 : pg_fs "PageReceiverModel" 179 8 31 := ⟨"PageReceiverModel", T_Mod, 37, t_Mod, cf_Mod, fl_Mod_179, by decide⟩
set_option maxRecDepth 100000 in
theorem fw_Mod_179 : pg_fw "PageReceiverModel" 179 8 31 (.boolean) := ⟨"PageReceiverModel", T_Mod, 37, t_Mod, cf_Mod, fl_Mod_179, by decide, rfl, rfl⟩
set_option maxRecDepth 100000 in
theorem fl_Mod_182 : pg_fl "PageReceiverModel" 182 T_Mod 33 := Or.inl (pg_tb 647 rfl rfl)
set_option maxRecDepth 100000 in
theorem f_Mod_182 : pg_fs "PageReceiverModel" 182 8 33 := ⟨"PageReceiverModel", T_Mod, 37, t_Mod, cf_Mod, fl_Mod_182, by decide⟩
set_option maxRecDepth 100000 in
theorem fw_Mod_182 : pg_fw "PageReceiverModel" 182 8 33 (.boolean) := ⟨"PageReceiverModel", T_Mod, 37, t_Mod, cf_Mod, fl_Mod_182, by decide, rfl, rfl⟩
set_option maxRecDepth 100000 in
theorem fl_Mod_185 : pg_fl "PageReceiverModel" 185 T_Mod 34 := Or.inl (pg_tb 648 rfl rfl)
set_option maxRecDepth 100000 in
theorem f_Mod_185 : pg_fs "PageReceiverModel" 185 8 34 := ⟨"PageReceiverModel", T_Mod, 37, t_Mod, cf_Mod, fl_Mod_185, by decide⟩
set_option maxRecDepth 100000 in
theorem fw_Mod_185 : pg_fw "PageReceiverModel" 185 8 34 (.boolean) := ⟨"PageReceiverModel", T_Mod, 37, t_Mod, cf_Mod, fl_Mod_185, by decide, rfl, rfl⟩
set_option maxRecDepth 100000 in
theorem fl_Mod_191 : pg_fl "PageReceiverModel" 191 T_Mod 35 := Or.inl (pg_tb 649 rfl rfl)
set_option maxRecDepth 100000 in
theorem f_Mod_191 : pg_fs "PageReceiverModel" 191 8 35 := ⟨"PageReceiverModel", T_Mod, 37, t_Mod, cf_Mod, fl_Mod_191, by decide⟩
set_option maxRecDepth 100000 in
theorem fw_Mod_191 : pg_fw "PageReceiverModel" 191 8 35 (.int) := ⟨"PageReceiverModel", T_Mod, 37, t_Mod, cf_Mod, fl_Mod_191, by decide, rfl, rfl⟩
set_option maxRecDepth 100000 in
theorem fl_Mod_194 : pg_fl "PageReceiverModel" 194 T_Mod 36 := Or.inl (pg_tb 650 rfl rfl)
set_option maxRecDepth 100000 in
theorem f_Mod_194 : pg_fs "PageReceiverModel" 194 8 36 := ⟨"PageReceiverModel", T_Mod, 37, t_Mod, cf_Mod, fl_Mod_194, by decide⟩
set_option maxRecDepth 100000 in
theorem fw_Mod_194 : pg_fw "PageReceiverModel" 194 8 36 (.boolean) := ⟨"PageReceiverModel", T_Mod, 37, t_Mod, cf_Mod, fl_Mod_194, by decide, rfl, rfl⟩
set_option maxRecDepth 100000 in
theorem fl_Mod_204 : pg_fl "PageReceiverModel" 204 T_Mod 32 := Or.inl (pg_tb 646 rfl rfl)
set_option maxRecDepth 100000 in
theorem f_Mod_204 : pg_fs "PageReceiverModel" 204 8 32 := ⟨"PageReceiverModel", T_Mod, 37, t_Mod, cf_Mod, fl_Mod_204, by decide⟩
set_option maxRecDepth 100000 in
theorem fw_Mod_204 : pg_fw "PageReceiverModel" 204 8 32 (.boolean) := ⟨"PageReceiverModel", T_Mod, 37, t_Mod, cf_Mod, fl_Mod_204, by decide, rfl, rfl⟩
set_option maxRecDepth 100000 in
theorem l_Recv_1 : pg_ml "PageReceiver" 1 y_JObj_init := Or.inl (pg_tb 19 rfl rfl)
set_option maxRecDepth 100000 in
theorem l_Recv_15 : pg_ml "PageReceiver" 15 y_Packet_init := Or.inl (pg_tb 24 rfl rfl)
set_option maxRecDepth 100000 in
theorem l_Recv_24 : pg_ml "PageReceiver" 24 y_JMath_min := Or.inl (pg_tb 42 rfl rfl)
set_option maxRecDepth 100000 in
theorem l_Recv_30 : pg_ml "PageReceiver" 30 y_JMath_max := Or.inl (pg_tb 45 rfl rfl)
set_option maxRecDepth 100000 in
theorem l_Recv_33 : pg_ml "PageReceiver" 33 y_Shelf_init := Or.inl (pg_tb 48 rfl rfl)
set_option maxRecDepth 100000 in
theorem l_Recv_42 : pg_ml "PageReceiver" 42 y_Remote_init := Or.inl (pg_tb 104 rfl rfl)
set_option maxRecDepth 100000 in
theorem l_Recv_51 : pg_ml "PageReceiver" 51 y_Tuner_init := Or.inl (pg_tb 141 rfl rfl)
set_option maxRecDepth 100000 in
theorem l_Recv_63 : pg_ml "PageReceiver" 63 y_Screen_init := Or.inl (pg_tb 175 rfl rfl)
set_option maxRecDepth 100000 in
theorem l_Recv_70 : pg_ml "PageReceiver" 70 y_Packet_put := Or.inl (pg_tb 282 rfl rfl)
set_option maxRecDepth 100000 in
theorem l_Recv_74 : pg_ml "PageReceiver" 74 y_Packet_isWhole := Or.inl (pg_tb 286 rfl rfl)
set_option maxRecDepth 100000 in
theorem l_Recv_78 : pg_ml "PageReceiver" 78 y_Tuner_takePacket := Or.inl (pg_tb 290 rfl rfl)
set_option maxRecDepth 100000 in
theorem l_Recv_81 : pg_ml "PageReceiver" 81 y_Packet_empty := Or.inl (pg_tb 409 rfl rfl)
set_option maxRecDepth 100000 in
theorem l_Recv_89 : pg_ml "PageReceiver" 89 y_Remote_pressDigit := Or.inl (pg_tb 421 rfl rfl)
set_option maxRecDepth 100000 in
theorem l_Recv_93 : pg_ml "PageReceiver" 93 y_Remote_pressCommand := Or.inl (pg_tb 429 rfl rfl)
set_option maxRecDepth 100000 in
theorem l_Recv_100 : pg_ml "PageReceiver" 100 y_Remote_pageShown := Or.inl (pg_tb 459 rfl rfl)
set_option maxRecDepth 100000 in
theorem l_Recv_125 : pg_ml "PageReceiver" 125 y_Shelf_pageIn := Or.inl (pg_tb 468 rfl rfl)
set_option maxRecDepth 100000 in
theorem l_Recv_129 : pg_ml "PageReceiver" 129 y_Page_tell := Or.inl (pg_tb 472 rfl rfl)
set_option maxRecDepth 100000 in
theorem l_Recv_133 : pg_ml "PageReceiver" 133 y_Recv_isCell := Or.inl (pg_tb 485 rfl rfl)
set_option maxRecDepth 100000 in
theorem l_Recv_137 : pg_ml "PageReceiver" 137 y_Screen_see := Or.inl (pg_tb 486 rfl rfl)
set_option maxRecDepth 100000 in
theorem l_Recv_153 : pg_ml "PageReceiver" 153 y_Screen_colourAt := Or.inl (pg_tb 592 rfl rfl)
set_option maxRecDepth 100000 in
theorem l_Packet_3 : pg_ml "PageReceiver$Packet" 3 y_JObj_init := Or.inl (pg_tb 27 rfl rfl)
set_option maxRecDepth 100000 in
theorem l_Packet_25 : pg_ml "PageReceiver$Packet" 25 y_Packet_byteAt := Or.inl (pg_tb 300 rfl rfl)
set_option maxRecDepth 100000 in
theorem l_Packet_29 : pg_ml "PageReceiver$Packet" 29 y_JInt_bitCount := Or.inl (pg_tb 304 rfl rfl)
set_option maxRecDepth 100000 in
theorem l_Packet_34 : pg_ml "PageReceiver$Packet" 34 y_Packet_isOdd := Or.inl (pg_tb 364 rfl rfl)
set_option maxRecDepth 100000 in
theorem l_Packet_38 : pg_ml "PageReceiver$Packet" 38 y_Packet_failingSum := Or.inl (pg_tb 390 rfl rfl)
set_option maxRecDepth 100000 in
theorem l_Packet_41 : pg_ml "PageReceiver$Packet" 41 y_Packet_bitsOf := Or.inl (pg_tb 395 rfl rfl)
set_option maxRecDepth 100000 in
theorem l_Page_3 : pg_ml "PageReceiver$Page" 3 y_JObj_init := Or.inl (pg_tb 58 rfl rfl)
set_option maxRecDepth 100000 in
theorem l_Page_29 : pg_ml "PageReceiver$Page" 29 y_JArr_fill := Or.inl (pg_tb 354 rfl rfl)
set_option maxRecDepth 100000 in
theorem l_Page_50 : pg_ml "PageReceiver$Page" 50 y_Recv_isCell := Or.inr ⟨"PageReceiver", List.mem_of_getElem? (i := 4) rfl⟩
set_option maxRecDepth 100000 in
theorem l_Page_54 : pg_ml "PageReceiver$Page" 54 y_Page_link := Or.inl (pg_tb 476 rfl rfl)
set_option maxRecDepth 100000 in
theorem l_Remote_3 : pg_ml "PageReceiver$Remote" 3 y_JObj_init := Or.inl (pg_tb 107 rfl rfl)
set_option maxRecDepth 100000 in
theorem l_Remote_11 : pg_ml "PageReceiver$Remote" 11 y_Page_init := Or.inr ⟨"PageReceiver", List.mem_of_getElem? (i := 1) rfl⟩
set_option maxRecDepth 100000 in
theorem l_Remote_30 : pg_ml "PageReceiver$Remote" 30 y_Shelf_find := Or.inl (pg_tb 441 rfl rfl)
set_option maxRecDepth 100000 in
theorem l_Remote_45 : pg_ml "PageReceiver$Remote" 45 y_Remote_want := Or.inl (pg_tb 425 rfl rfl)
set_option maxRecDepth 100000 in
theorem l_Remote_49 : pg_ml "PageReceiver$Remote" 49 y_Remote_turnHeld := Or.inl (pg_tb 433 rfl rfl)
set_option maxRecDepth 100000 in
theorem l_Remote_56 : pg_ml "PageReceiver$Remote" 56 y_Remote_followLink := Or.inl (pg_tb 443 rfl rfl)
set_option maxRecDepth 100000 in
theorem l_Remote_60 : pg_ml "PageReceiver$Remote" 60 y_Remote_pageShown := Or.inl (pg_tb 437 rfl rfl)
set_option maxRecDepth 100000 in
theorem l_Remote_64 : pg_ml "PageReceiver$Remote" 64 y_Page_link := Or.inl (pg_tb 447 rfl rfl)
set_option maxRecDepth 100000 in
theorem l_Remote_68 : pg_ml "PageReceiver$Remote" 68 y_Page_copyFrom := Or.inl (pg_tb 442 rfl rfl)
set_option maxRecDepth 100000 in
theorem l_Screen_3 : pg_ml "PageReceiver$Screen" 3 y_JObj_init := Or.inl (pg_tb 178 rfl rfl)
set_option maxRecDepth 100000 in
theorem l_Screen_11 : pg_ml "PageReceiver$Screen" 11 y_States_init := Or.inr ⟨"PageReceiver", List.mem_of_getElem? (i := 3) rfl⟩
set_option maxRecDepth 100000 in
theorem l_Screen_30 : pg_ml "PageReceiver$Screen" 30 y_Remote_pageShown := Or.inl (pg_tb 490 rfl rfl)
set_option maxRecDepth 100000 in
theorem l_Screen_36 : pg_ml "PageReceiver$Screen" 36 y_Screen_isOwn := Or.inl (pg_tb 491 rfl rfl)
set_option maxRecDepth 100000 in
theorem l_Screen_40 : pg_ml "PageReceiver$Screen" 40 y_States_begin := Or.inl (pg_tb 514 rfl rfl)
set_option maxRecDepth 100000 in
theorem l_Screen_43 : pg_ml "PageReceiver$Screen" 43 y_Screen_drawCell := Or.inl (pg_tb 522 rfl rfl)
set_option maxRecDepth 100000 in
theorem l_Screen_47 : pg_ml "PageReceiver$Screen" 47 y_Screen_turnToLowerHalf := Or.inl (pg_tb 584 rfl rfl)
set_option maxRecDepth 100000 in
theorem l_Screen_50 : pg_ml "PageReceiver$Screen" 50 y_Screen_hasDouble := Or.inl (pg_tb 495 rfl rfl)
set_option maxRecDepth 100000 in
theorem l_Screen_53 : pg_ml "PageReceiver$Screen" 53 y_Screen_letterAt := Or.inl (pg_tb 499 rfl rfl)
set_option maxRecDepth 100000 in
theorem l_Screen_57 : pg_ml "PageReceiver$Screen" 57 y_Screen_headLetter := Or.inl (pg_tb 503 rfl rfl)
set_option maxRecDepth 100000 in
theorem l_Screen_61 : pg_ml "PageReceiver$Screen" 61 y_Page_letterAt := Or.inl (pg_tb 510 rfl rfl)
set_option maxRecDepth 100000 in
theorem l_Screen_70 : pg_ml "PageReceiver$Screen" 70 y_Screen_digitLetter := Or.inl (pg_tb 507 rfl rfl)
set_option maxRecDepth 100000 in
theorem l_Screen_73 : pg_ml "PageReceiver$Screen" 73 y_Page_overlayAt := Or.inl (pg_tb 549 rfl rfl)
set_option maxRecDepth 100000 in
theorem l_Screen_76 : pg_ml "PageReceiver$Screen" 76 y_States_doAtOnce := Or.inl (pg_tb 526 rfl rfl)
set_option maxRecDepth 100000 in
theorem l_Screen_80 : pg_ml "PageReceiver$Screen" 80 y_Screen_drawMark := Or.inl (pg_tb 534 rfl rfl)
set_option maxRecDepth 100000 in
theorem l_Screen_83 : pg_ml "PageReceiver$Screen" 83 y_Screen_overlayAt := Or.inl (pg_tb 546 rfl rfl)
set_option maxRecDepth 100000 in
theorem l_Screen_88 : pg_ml "PageReceiver$Screen" 88 y_Screen_drawLetter := Or.inl (pg_tb 553 rfl rfl)
set_option maxRecDepth 100000 in
theorem l_Screen_92 : pg_ml "PageReceiver$Screen" 92 y_Screen_drawStates := Or.inl (pg_tb 564 rfl rfl)
set_option maxRecDepth 100000 in
theorem l_Screen_95 : pg_ml "PageReceiver$Screen" 95 y_States_doAfter := Or.inl (pg_tb 572 rfl rfl)
set_option maxRecDepth 100000 in
theorem l_Screen_110 : pg_ml "PageReceiver$Screen" 110 y_Screen_drawBlock := Or.inl (pg_tb 538 rfl rfl)
set_option maxRecDepth 100000 in
theorem l_Screen_114 : pg_ml "PageReceiver$Screen" 114 y_Screen_drawPlain := Or.inl (pg_tb 542 rfl rfl)
set_option maxRecDepth 100000 in
theorem l_Screen_120 : pg_ml "PageReceiver$Screen" 120 y_States_holdLetter := Or.inl (pg_tb 557 rfl rfl)
set_option maxRecDepth 100000 in
theorem l_Screen_123 : pg_ml "PageReceiver$Screen" 123 y_Screen_letterOfSet := Or.inl (pg_tb 558 rfl rfl)
set_option maxRecDepth 100000 in
theorem l_Screen_149 : pg_ml "PageReceiver$Screen" 149 y_States_sum := Or.inl (pg_tb 568 rfl rfl)
set_option maxRecDepth 100000 in
theorem l_Screen_155 : pg_ml "PageReceiver$Screen" 155 y_Screen_indexInSet := Or.inl (pg_tb 561 rfl rfl)
set_option maxRecDepth 100000 in
theorem l_Screen_158 : pg_ml "PageReceiver$Screen" 158 y_Screen_blockFills := Or.inl (pg_tb 596 rfl rfl)
set_option maxRecDepth 100000 in
theorem l_Screen_162 : pg_ml "PageReceiver$Screen" 162 y_Screen_letterFills := Or.inl (pg_tb 600 rfl rfl)
set_option maxRecDepth 100000 in
theorem l_Shelf_3 : pg_ml "PageReceiver$Shelf" 3 y_JObj_init := Or.inl (pg_tb 51 rfl rfl)
set_option maxRecDepth 100000 in
theorem l_Shelf_21 : pg_ml "PageReceiver$Shelf" 21 y_Page_init := Or.inr ⟨"PageReceiver", List.mem_of_getElem? (i := 0) rfl⟩
set_option maxRecDepth 100000 in
theorem l_Shelf_30 : pg_ml "PageReceiver$Shelf" 30 y_Shelf_placeFor := Or.inl (pg_tb 326 rfl rfl)
set_option maxRecDepth 100000 in
theorem l_Shelf_34 : pg_ml "PageReceiver$Shelf" 34 y_Page_copyFrom := Or.inl (pg_tb 338 rfl rfl)
set_option maxRecDepth 100000 in
theorem l_Shelf_41 : pg_ml "PageReceiver$Shelf" 41 y_Shelf_find := Or.inl (pg_tb 330 rfl rfl)
set_option maxRecDepth 100000 in
theorem l_Shelf_45 : pg_ml "PageReceiver$Shelf" 45 y_Shelf_oldest := Or.inl (pg_tb 334 rfl rfl)
set_option maxRecDepth 100000 in
theorem l_States_3 : pg_ml "PageReceiver$States" 3 y_JObj_init := Or.inl (pg_tb 184 rfl rfl)
set_option maxRecDepth 100000 in
theorem l_States_40 : pg_ml "PageReceiver$States" 40 y_States_holdLetter := Or.inl (pg_tb 518 rfl rfl)
set_option maxRecDepth 100000 in
theorem l_States_50 : pg_ml "PageReceiver$States" 50 y_States_turnDouble := Or.inl (pg_tb 530 rfl rfl)
set_option maxRecDepth 100000 in
theorem l_States_54 : pg_ml "PageReceiver$States" 54 y_States_takeColour := Or.inl (pg_tb 576 rfl rfl)
set_option maxRecDepth 100000 in
theorem l_States_57 : pg_ml "PageReceiver$States" 57 y_States_turnMosaic := Or.inl (pg_tb 580 rfl rfl)
set_option maxRecDepth 100000 in
theorem l_Tuner_3 : pg_ml "PageReceiver$Tuner" 3 y_JObj_init := Or.inl (pg_tb 144 rfl rfl)
set_option maxRecDepth 100000 in
theorem l_Tuner_39 : pg_ml "PageReceiver$Tuner" 39 y_Page_init := Or.inr ⟨"PageReceiver", List.mem_of_getElem? (i := 2) rfl⟩
set_option maxRecDepth 100000 in
theorem l_Tuner_40 : pg_ml "PageReceiver$Tuner" 40 y_JArr_fill := Or.inl (pg_tb 147 rfl rfl)
set_option maxRecDepth 100000 in
theorem l_Tuner_46 : pg_ml "PageReceiver$Tuner" 46 y_Packet_nibble := Or.inl (pg_tb 294 rfl rfl)
set_option maxRecDepth 100000 in
theorem l_Tuner_52 : pg_ml "PageReceiver$Tuner" 52 y_Tuner_takeHeader := Or.inl (pg_tb 310 rfl rfl)
set_option maxRecDepth 100000 in
theorem l_Tuner_60 : pg_ml "PageReceiver$Tuner" 60 y_Tuner_takeRow := Or.inl (pg_tb 374 rfl rfl)
set_option maxRecDepth 100000 in
theorem l_Tuner_64 : pg_ml "PageReceiver$Tuner" 64 y_Tuner_takeLetters := Or.inl (pg_tb 378 rfl rfl)
set_option maxRecDepth 100000 in
theorem l_Tuner_68 : pg_ml "PageReceiver$Tuner" 68 y_Tuner_takeOverlays := Or.inl (pg_tb 382 rfl rfl)
set_option maxRecDepth 100000 in
theorem l_Tuner_72 : pg_ml "PageReceiver$Tuner" 72 y_Tuner_takeLinks := Or.inl (pg_tb 405 rfl rfl)
set_option maxRecDepth 100000 in
theorem l_Tuner_75 : pg_ml "PageReceiver$Tuner" 75 y_Tuner_readHeader := Or.inl (pg_tb 314 rfl rfl)
set_option maxRecDepth 100000 in
theorem l_Tuner_79 : pg_ml "PageReceiver$Tuner" 79 y_Tuner_completeComing := Or.inl (pg_tb 318 rfl rfl)
set_option maxRecDepth 100000 in
theorem l_Tuner_83 : pg_ml "PageReceiver$Tuner" 83 y_Tuner_beginPage := Or.inl (pg_tb 345 rfl rfl)
set_option maxRecDepth 100000 in
theorem l_Tuner_86 : pg_ml "PageReceiver$Tuner" 86 y_Tuner_takeHeaderLetters := Or.inl (pg_tb 356 rfl rfl)
set_option maxRecDepth 100000 in
theorem l_Tuner_96 : pg_ml "PageReceiver$Tuner" 96 y_Shelf_complete := Or.inl (pg_tb 322 rfl rfl)
set_option maxRecDepth 100000 in
theorem l_Tuner_101 : pg_ml "PageReceiver$Tuner" 101 y_Shelf_find := Or.inl (pg_tb 349 rfl rfl)
set_option maxRecDepth 100000 in
theorem l_Tuner_105 : pg_ml "PageReceiver$Tuner" 105 y_Page_begin := Or.inl (pg_tb 350 rfl rfl)
set_option maxRecDepth 100000 in
theorem l_Tuner_108 : pg_ml "PageReceiver$Tuner" 108 y_Page_copyFrom := Or.inl (pg_tb 355 rfl rfl)
set_option maxRecDepth 100000 in
theorem l_Tuner_117 : pg_ml "PageReceiver$Tuner" 117 y_Packet_letter := Or.inl (pg_tb 360 rfl rfl)
set_option maxRecDepth 100000 in
theorem l_Tuner_120 : pg_ml "PageReceiver$Tuner" 120 y_Page_setLetter := Or.inl (pg_tb 367 rfl rfl)
set_option maxRecDepth 100000 in
theorem l_Tuner_124 : pg_ml "PageReceiver$Tuner" 124 y_Packet_triplet := Or.inl (pg_tb 386 rfl rfl)
set_option maxRecDepth 100000 in
theorem l_Tuner_127 : pg_ml "PageReceiver$Tuner" 127 y_Tuner_takeTriplet := Or.inl (pg_tb 398 rfl rfl)
set_option maxRecDepth 100000 in
theorem l_Tuner_131 : pg_ml "PageReceiver$Tuner" 131 y_Page_setOverlay := Or.inl (pg_tb 401 rfl rfl)
set_option maxRecDepth 100000 in
theorem l_Law_9 : pg_ml "PageReceiverLaw" 9 y_Law_cell := Or.inl (pg_tb 605 rfl rfl)
set_option maxRecDepth 100000 in
theorem l_Law_15 : pg_ml "PageReceiverLaw" 15 y_Recv_init := Or.inl (pg_tb 16 rfl rfl)
set_option maxRecDepth 100000 in
theorem l_Law_20 : pg_ml "PageReceiverLaw" 20 y_Mod_init := Or.inl (pg_tb 610 rfl rfl)
set_option maxRecDepth 100000 in
theorem l_Law_23 : pg_ml "PageReceiverLaw" 23 y_Recv_feed := Or.inl (pg_tb 278 rfl rfl)
set_option maxRecDepth 100000 in
theorem l_Law_27 : pg_ml "PageReceiverLaw" 27 y_Mod_feed := Or.inl (pg_tb 727 rfl rfl)
set_option maxRecDepth 100000 in
theorem l_Law_28 : pg_ml "PageReceiverLaw" 28 y_Recv_reset := Or.inl (pg_tb 413 rfl rfl)
set_option maxRecDepth 100000 in
theorem l_Law_32 : pg_ml "PageReceiverLaw" 32 y_Mod_reset := Or.inl (pg_tb 798 rfl rfl)
set_option maxRecDepth 100000 in
theorem l_Law_33 : pg_ml "PageReceiverLaw" 33 y_Recv_key := Or.inl (pg_tb 417 rfl rfl)
set_option maxRecDepth 100000 in
theorem l_Law_37 : pg_ml "PageReceiverLaw" 37 y_Mod_key := Or.inl (pg_tb 802 rfl rfl)
set_option maxRecDepth 100000 in
theorem l_Law_38 : pg_ml "PageReceiverLaw" 38 y_Recv_tick := Or.inl (pg_tb 451 rfl rfl)
set_option maxRecDepth 100000 in
theorem l_Law_42 : pg_ml "PageReceiverLaw" 42 y_Mod_tick := Or.inl (pg_tb 818 rfl rfl)
set_option maxRecDepth 100000 in
theorem l_Law_43 : pg_ml "PageReceiverLaw" 43 y_Recv_shown := Or.inl (pg_tb 455 rfl rfl)
set_option maxRecDepth 100000 in
theorem l_Law_46 : pg_ml "PageReceiverLaw" 46 y_Mod_shown := Or.inl (pg_tb 822 rfl rfl)
set_option maxRecDepth 100000 in
theorem l_Law_47 : pg_ml "PageReceiverLaw" 47 y_Recv_viewer := Or.inl (pg_tb 460 rfl rfl)
set_option maxRecDepth 100000 in
theorem l_Law_51 : pg_ml "PageReceiverLaw" 51 y_Mod_viewer := Or.inl (pg_tb 826 rfl rfl)
set_option maxRecDepth 100000 in
theorem l_Law_52 : pg_ml "PageReceiverLaw" 52 y_Recv_kept := Or.inl (pg_tb 464 rfl rfl)
set_option maxRecDepth 100000 in
theorem l_Law_56 : pg_ml "PageReceiverLaw" 56 y_Mod_kept := Or.inl (pg_tb 830 rfl rfl)
set_option maxRecDepth 100000 in
theorem l_Law_57 : pg_ml "PageReceiverLaw" 57 y_Recv_count := Or.inl (pg_tb 477 rfl rfl)
set_option maxRecDepth 100000 in
theorem l_Law_60 : pg_ml "PageReceiverLaw" 60 y_Mod_count := Or.inl (pg_tb 834 rfl rfl)
set_option maxRecDepth 100000 in
theorem l_Law_61 : pg_ml "PageReceiverLaw" 61 y_Recv_look := Or.inl (pg_tb 481 rfl rfl)
set_option maxRecDepth 100000 in
theorem l_Law_65 : pg_ml "PageReceiverLaw" 65 y_Mod_look := Or.inl (pg_tb 838 rfl rfl)
set_option maxRecDepth 100000 in
theorem l_Law_66 : pg_ml "PageReceiverLaw" 66 y_Recv_point := Or.inl (pg_tb 588 rfl rfl)
set_option maxRecDepth 100000 in
theorem l_Law_70 : pg_ml "PageReceiverLaw" 70 y_Mod_point := Or.inl (pg_tb 895 rfl rfl)
set_option maxRecDepth 100000 in
theorem l_Mod_1 : pg_ml "PageReceiverModel" 1 y_JObj_init := Or.inl (pg_tb 613 rfl rfl)
set_option maxRecDepth 100000 in
theorem l_Mod_73 : pg_ml "PageReceiverModel" 73 y_Mod_parity := Or.inl (pg_tb 743 rfl rfl)
set_option maxRecDepth 100000 in
theorem l_Mod_77 : pg_ml "PageReceiverModel" 77 y_Mod_codeOf := Or.inl (pg_tb 740 rfl rfl)
set_option maxRecDepth 100000 in
theorem l_Mod_80 : pg_ml "PageReceiverModel" 80 y_Mod_keptAt := Or.inl (pg_tb 762 rfl rfl)
set_option maxRecDepth 100000 in
theorem l_Mod_83 : pg_ml "PageReceiverModel" 83 y_Mod_placeFor := Or.inl (pg_tb 758 rfl rfl)
set_option maxRecDepth 100000 in
theorem l_Mod_86 : pg_ml "PageReceiverModel" 86 y_Mod_copy := Or.inl (pg_tb 766 rfl rfl)
set_option maxRecDepth 100000 in
theorem l_Mod_90 : pg_ml "PageReceiverModel" 90 y_Mod_nibble := Or.inl (pg_tb 736 rfl rfl)
set_option maxRecDepth 100000 in
theorem l_Mod_93 : pg_ml "PageReceiverModel" 93 y_Mod_drop := Or.inl (pg_tb 746 rfl rfl)
set_option maxRecDepth 100000 in
theorem l_Mod_96 : pg_ml "PageReceiverModel" 96 y_Mod_takeHeader := Or.inl (pg_tb 750 rfl rfl)
set_option maxRecDepth 100000 in
theorem l_Mod_100 : pg_ml "PageReceiverModel" 100 y_Mod_letter := Or.inl (pg_tb 778 rfl rfl)
set_option maxRecDepth 100000 in
theorem l_Mod_103 : pg_ml "PageReceiverModel" 103 y_Mod_takeOverlays := Or.inl (pg_tb 782 rfl rfl)
set_option maxRecDepth 100000 in
theorem l_Mod_106 : pg_ml "PageReceiverModel" 106 y_Mod_takeLinks := Or.inl (pg_tb 794 rfl rfl)
set_option maxRecDepth 100000 in
theorem l_Mod_109 : pg_ml "PageReceiverModel" 109 y_Mod_complete := Or.inl (pg_tb 754 rfl rfl)
set_option maxRecDepth 100000 in
theorem l_Mod_112 : pg_ml "PageReceiverModel" 112 y_Mod_comes := Or.inl (pg_tb 770 rfl rfl)
set_option maxRecDepth 100000 in
theorem l_Mod_116 : pg_ml "PageReceiverModel" 116 y_Mod_blank := Or.inl (pg_tb 774 rfl rfl)
set_option maxRecDepth 100000 in
theorem l_Mod_120 : pg_ml "PageReceiverModel" 120 y_Mod_mended := Or.inl (pg_tb 787 rfl rfl)
set_option maxRecDepth 100000 in
theorem l_Mod_123 : pg_ml "PageReceiverModel" 123 y_Mod_told := Or.inl (pg_tb 791 rfl rfl)
set_option maxRecDepth 100000 in
theorem l_Mod_132 : pg_ml "PageReceiverModel" 132 y_Mod_takePacket := Or.inl (pg_tb 732 rfl rfl)
set_option maxRecDepth 100000 in
theorem l_Mod_147 : pg_ml "PageReceiverModel" 147 y_Mod_want := Or.inl (pg_tb 810 rfl rfl)
set_option maxRecDepth 100000 in
theorem l_Mod_150 : pg_ml "PageReceiverModel" 150 y_Mod_digit := Or.inl (pg_tb 806 rfl rfl)
set_option maxRecDepth 100000 in
theorem l_Mod_154 : pg_ml "PageReceiverModel" 154 y_Mod_shownAt := Or.inl (pg_tb 814 rfl rfl)
set_option maxRecDepth 100000 in
theorem l_Mod_158 : pg_ml "PageReceiverModel" 158 y_Mod_sign := Or.inl (pg_tb 857 rfl rfl)
set_option maxRecDepth 100000 in
theorem l_Mod_188 : pg_ml "PageReceiverModel" 188 y_Mod_forget := Or.inl (pg_tb 864 rfl rfl)
set_option maxRecDepth 100000 in
theorem l_Mod_197 : pg_ml "PageReceiverModel" 197 y_Mod_setTwice := Or.inl (pg_tb 883 rfl rfl)
set_option maxRecDepth 100000 in
theorem l_Mod_201 : pg_ml "PageReceiverModel" 201 y_Mod_setMosaic := Or.inl (pg_tb 891 rfl rfl)
set_option maxRecDepth 100000 in
theorem l_Mod_207 : pg_ml "PageReceiverModel" 207 y_Mod_note := Or.inl (pg_tb 872 rfl rfl)
set_option maxRecDepth 100000 in
theorem l_Mod_211 : pg_ml "PageReceiverModel" 211 y_Mod_changed := Or.inl (pg_tb 876 rfl rfl)
set_option maxRecDepth 100000 in
theorem l_Mod_214 : pg_ml "PageReceiverModel" 214 y_Mod_fetch := Or.inl (pg_tb 853 rfl rfl)
set_option maxRecDepth 100000 in
theorem l_Mod_217 : pg_ml "PageReceiverModel" 217 y_Mod_begin := Or.inl (pg_tb 860 rfl rfl)
set_option maxRecDepth 100000 in
theorem l_Mod_220 : pg_ml "PageReceiverModel" 220 y_Mod_noteLetter := Or.inl (pg_tb 868 rfl rfl)
set_option maxRecDepth 100000 in
theorem l_Mod_224 : pg_ml "PageReceiverModel" 224 y_Mod_before := Or.inl (pg_tb 879 rfl rfl)
set_option maxRecDepth 100000 in
theorem l_Mod_227 : pg_ml "PageReceiverModel" 227 y_Mod_after := Or.inl (pg_tb 887 rfl rfl)
set_option maxRecDepth 100000 in
theorem l_Mod_230 : pg_ml "PageReceiverModel" 230 y_Mod_go := Or.inl (pg_tb 849 rfl rfl)
set_option maxRecDepth 100000 in
theorem l_Mod_233 : pg_ml "PageReceiverModel" 233 y_Mod_isCell := Or.inl (pg_tb 842 rfl rfl)
set_option maxRecDepth 100000 in
theorem l_Mod_237 : pg_ml "PageReceiverModel" 237 y_Mod_goTo := Or.inl (pg_tb 845 rfl rfl)
set_option maxRecDepth 100000 in
theorem m_Recv_init : pg_mc y_Recv_init b_Recv_init 2 1 := ⟨pg_tb 18 rfl rfl, pg_tb 1 rfl rfl, pg_tb 17 rfl rfl, rfl, ⟨by decide, by decide, by decide +kernel⟩⟩
set_option maxRecDepth 100000 in
theorem m_Packet_init : pg_mc y_Packet_init b_Packet_init 2 1 := ⟨pg_tb 26 rfl rfl, pg_tb 2 rfl rfl, pg_tb 25 rfl rfl, rfl, ⟨by decide, by decide, by decide +kernel⟩⟩
set_option maxRecDepth 100000 in
theorem m_JMath_min : pg_ms y_JMath_min b_JMath_min 2 (some .int) 2 := ⟨pg_tb 44 rfl rfl, pg_tb 4 rfl rfl, pg_tb 43 rfl rfl, ⟨by decide, by decide, by decide +kernel⟩⟩
set_option maxRecDepth 100000 in
theorem m_JMath_max : pg_ms y_JMath_max b_JMath_max 2 (some .int) 2 := ⟨pg_tb 47 rfl rfl, pg_tb 4 rfl rfl, pg_tb 46 rfl rfl, ⟨by decide, by decide, by decide +kernel⟩⟩
set_option maxRecDepth 100000 in
theorem m_Shelf_init : pg_mc y_Shelf_init b_Shelf_init 4 2 := ⟨pg_tb 50 rfl rfl, pg_tb 3 rfl rfl, pg_tb 49 rfl rfl, rfl, ⟨by decide, by decide, by decide +kernel⟩⟩
set_option maxRecDepth 100000 in
theorem m_Page_init : pg_mc y_Page_init b_Page_init 1 0 := ⟨pg_tb 57 rfl rfl, pg_tb 5 rfl rfl, pg_tb 56 rfl rfl, rfl, ⟨by decide, by decide, by decide +kernel⟩⟩
set_option maxRecDepth 100000 in
theorem m_Remote_init : pg_mc y_Remote_init b_Remote_init 2 1 := ⟨pg_tb 106 rfl rfl, pg_tb 6 rfl rfl, pg_tb 105 rfl rfl, rfl, ⟨by decide, by decide, by decide +kernel⟩⟩
set_option maxRecDepth 100000 in
theorem m_Tuner_init : pg_mc y_Tuner_init b_Tuner_init 6 4 := ⟨pg_tb 143 rfl rfl, pg_tb 7 rfl rfl, pg_tb 142 rfl rfl, rfl, ⟨by decide, by decide, by decide +kernel⟩⟩
set_option maxRecDepth 100000 in
theorem m_JArr_fill : pg_ms y_JArr_fill b_JArr_fill 4 none 2 := ⟨pg_tb 149 rfl rfl, pg_tb 8 rfl rfl, pg_tb 148 rfl rfl, ⟨by decide, by decide, by decide +kernel⟩⟩
set_option maxRecDepth 100000 in
theorem m_Screen_init : pg_mc y_Screen_init b_Screen_init 3 2 := ⟨pg_tb 177 rfl rfl, pg_tb 9 rfl rfl, pg_tb 176 rfl rfl, rfl, ⟨by decide, by decide, by decide +kernel⟩⟩
set_option maxRecDepth 100000 in
theorem m_States_init : pg_mc y_States_init b_States_init 1 0 := ⟨pg_tb 183 rfl rfl, pg_tb 10 rfl rfl, pg_tb 182 rfl rfl, rfl, ⟨by decide, by decide, by decide +kernel⟩⟩
set_option maxRecDepth 100000 in
theorem m_Recv_feed : pg_mi y_Recv_feed b_Recv_feed 5 (some .int) 2 := ⟨pg_tb 281 rfl rfl, pg_tb 1 rfl rfl, pg_tb 279 rfl rfl, pg_tb 280 rfl rfl, ⟨by decide, by decide, by decide +kernel⟩⟩
set_option maxRecDepth 100000 in
theorem m_Packet_put : pg_mi y_Packet_put b_Packet_put 2 none 1 := ⟨pg_tb 285 rfl rfl, pg_tb 2 rfl rfl, pg_tb 283 rfl rfl, pg_tb 284 rfl rfl, ⟨by decide, by decide, by decide +kernel⟩⟩
set_option maxRecDepth 100000 in
theorem m_Packet_isWhole : pg_mi y_Packet_isWhole b_Packet_isWhole 1 (some .boolean) 0 := ⟨pg_tb 289 rfl rfl, pg_tb 2 rfl rfl, pg_tb 287 rfl rfl, pg_tb 288 rfl rfl, ⟨by decide, by decide, by decide +kernel⟩⟩
set_option maxRecDepth 100000 in
theorem m_Tuner_takePacket : pg_mi y_Tuner_takePacket b_Tuner_takePacket 5 none 0 := ⟨pg_tb 293 rfl rfl, pg_tb 7 rfl rfl, pg_tb 291 rfl rfl, pg_tb 292 rfl rfl, ⟨by decide, by decide, by decide +kernel⟩⟩
set_option maxRecDepth 100000 in
theorem m_Packet_nibble : pg_mi y_Packet_nibble b_Packet_nibble 4 (some .int) 1 := ⟨pg_tb 297 rfl rfl, pg_tb 2 rfl rfl, pg_tb 295 rfl rfl, pg_tb 296 rfl rfl, ⟨by decide, by decide, by decide +kernel⟩⟩
set_option maxRecDepth 100000 in
theorem m_Packet_byteAt : pg_mi y_Packet_byteAt b_Packet_byteAt 2 (some .int) 1 := ⟨pg_tb 303 rfl rfl, pg_tb 2 rfl rfl, pg_tb 302 rfl rfl, pg_tp 0 rfl, ⟨by decide, by decide, by decide +kernel⟩⟩
set_option maxRecDepth 100000 in
theorem m_JInt_bitCount : pg_ms y_JInt_bitCount b_JInt_bitCount 1 (some .int) 1 := ⟨pg_tb 306 rfl rfl, pg_tb 12 rfl rfl, pg_tb 305 rfl rfl, ⟨by decide, by decide, by decide +kernel⟩⟩
set_option maxRecDepth 100000 in
theorem m_Tuner_takeHeader : pg_mi y_Tuner_takeHeader b_Tuner_takeHeader 3 none 1 := ⟨pg_tb 313 rfl rfl, pg_tb 7 rfl rfl, pg_tb 312 rfl rfl, pg_tp 1 rfl, ⟨by decide, by decide, by decide +kernel⟩⟩
set_option maxRecDepth 100000 in
theorem m_Tuner_readHeader : pg_mi y_Tuner_readHeader b_Tuner_readHeader 2 (some .boolean) 0 := ⟨pg_tb 317 rfl rfl, pg_tb 7 rfl rfl, pg_tb 316 rfl rfl, pg_tp 2 rfl, ⟨by decide, by decide, by decide +kernel⟩⟩
set_option maxRecDepth 100000 in
theorem m_Tuner_completeComing : pg_mi y_Tuner_completeComing b_Tuner_completeComing 4 none 2 := ⟨pg_tb 321 rfl rfl, pg_tb 7 rfl rfl, pg_tb 320 rfl rfl, pg_tp 3 rfl, ⟨by decide, by decide, by decide +kernel⟩⟩
set_option maxRecDepth 100000 in
theorem m_Shelf_complete : pg_mi y_Shelf_complete b_Shelf_complete 4 none 2 := ⟨pg_tb 325 rfl rfl, pg_tb 3 rfl rfl, pg_tb 323 rfl rfl, pg_tb 324 rfl rfl, ⟨by decide, by decide, by decide +kernel⟩⟩
set_option maxRecDepth 100000 in
theorem m_Shelf_placeFor : pg_mi y_Shelf_placeFor b_Shelf_placeFor 5 (some (.object "PageReceiver$Page")) 2 := ⟨pg_tb 329 rfl rfl, pg_tb 3 rfl rfl, pg_tb 328 rfl rfl, pg_tp 4 rfl, ⟨by decide, by decide, by decide +kernel⟩⟩
set_option maxRecDepth 100000 in
theorem m_Shelf_find : pg_mi y_Shelf_find b_Shelf_find 3 (some (.object "PageReceiver$Page")) 1 := ⟨pg_tb 333 rfl rfl, pg_tb 3 rfl rfl, pg_tb 331 rfl rfl, pg_tb 332 rfl rfl, ⟨by decide, by decide, by decide +kernel⟩⟩
set_option maxRecDepth 100000 in
theorem m_Shelf_oldest : pg_mi y_Shelf_oldest b_Shelf_oldest 6 (some (.object "PageReceiver$Page")) 1 := ⟨pg_tb 337 rfl rfl, pg_tb 3 rfl rfl, pg_tb 336 rfl rfl, pg_tp 5 rfl, ⟨by decide, by decide, by decide +kernel⟩⟩
set_option maxRecDepth 100000 in
theorem m_Page_copyFrom : pg_mi y_Page_copyFrom b_Page_copyFrom 2 none 1 := ⟨pg_tb 341 rfl rfl, pg_tb 5 rfl rfl, pg_tb 339 rfl rfl, pg_tb 340 rfl rfl, ⟨by decide, by decide, by decide +kernel⟩⟩
set_option maxRecDepth 100000 in
theorem m_Tuner_beginPage : pg_mi y_Tuner_beginPage b_Tuner_beginPage 5 none 1 := ⟨pg_tb 348 rfl rfl, pg_tb 7 rfl rfl, pg_tb 347 rfl rfl, pg_tp 6 rfl, ⟨by decide, by decide, by decide +kernel⟩⟩
set_option maxRecDepth 100000 in
theorem m_Page_begin : pg_mi y_Page_begin b_Page_begin 2 none 1 := ⟨pg_tb 353 rfl rfl, pg_tb 5 rfl rfl, pg_tb 351 rfl rfl, pg_tb 352 rfl rfl, ⟨by decide, by decide, by decide +kernel⟩⟩
set_option maxRecDepth 100000 in
theorem m_Tuner_takeHeaderLetters : pg_mi y_Tuner_takeHeaderLetters b_Tuner_takeHeaderLetters 5 none 2 := ⟨pg_tb 359 rfl rfl, pg_tb 7 rfl rfl, pg_tb 358 rfl rfl, pg_tp 7 rfl, ⟨by decide, by decide, by decide +kernel⟩⟩
set_option maxRecDepth 100000 in
theorem m_Packet_letter : pg_mi y_Packet_letter b_Packet_letter 3 (some .int) 1 := ⟨pg_tb 363 rfl rfl, pg_tb 2 rfl rfl, pg_tb 361 rfl rfl, pg_tb 362 rfl rfl, ⟨by decide, by decide, by decide +kernel⟩⟩
set_option maxRecDepth 100000 in
theorem m_Packet_isOdd : pg_ms y_Packet_isOdd b_Packet_isOdd 1 (some .boolean) 1 := ⟨pg_tb 366 rfl rfl, pg_tb 2 rfl rfl, pg_tb 365 rfl rfl, ⟨by decide, by decide, by decide +kernel⟩⟩
set_option maxRecDepth 100000 in
theorem m_Page_setLetter : pg_mi y_Page_setLetter b_Page_setLetter 4 none 3 := ⟨pg_tb 370 rfl rfl, pg_tb 5 rfl rfl, pg_tb 368 rfl rfl, pg_tb 369 rfl rfl, ⟨by decide, by decide, by decide +kernel⟩⟩
set_option maxRecDepth 100000 in
theorem m_Recv_isCell : pg_ms y_Recv_isCell b_Recv_isCell 2 (some .boolean) 2 := ⟨pg_tb 373 rfl rfl, pg_tb 1 rfl rfl, pg_tb 372 rfl rfl, ⟨by decide, by decide, by decide +kernel⟩⟩
set_option maxRecDepth 100000 in
theorem m_Tuner_takeRow : pg_mi y_Tuner_takeRow b_Tuner_takeRow 4 none 3 := ⟨pg_tb 377 rfl rfl, pg_tb 7 rfl rfl, pg_tb 376 rfl rfl, pg_tp 8 rfl, ⟨by decide, by decide, by decide +kernel⟩⟩
set_option maxRecDepth 100000 in
theorem m_Tuner_takeLetters : pg_mi y_Tuner_takeLetters b_Tuner_takeLetters 5 none 2 := ⟨pg_tb 381 rfl rfl, pg_tb 7 rfl rfl, pg_tb 380 rfl rfl, pg_tp 9 rfl, ⟨by decide, by decide, by decide +kernel⟩⟩
set_option maxRecDepth 100000 in
theorem m_Tuner_takeOverlays : pg_mi y_Tuner_takeOverlays b_Tuner_takeOverlays 5 none 1 := ⟨pg_tb 385 rfl rfl, pg_tb 7 rfl rfl, pg_tb 384 rfl rfl, pg_tp 10 rfl, ⟨by decide, by decide, by decide +kernel⟩⟩
set_option maxRecDepth 100000 in
theorem m_Packet_triplet : pg_mi y_Packet_triplet b_Packet_triplet 5 (some .int) 1 := ⟨pg_tb 389 rfl rfl, pg_tb 2 rfl rfl, pg_tb 387 rfl rfl, pg_tb 388 rfl rfl, ⟨by decide, by decide, by decide +kernel⟩⟩
set_option maxRecDepth 100000 in
theorem m_Packet_failingSum : pg_ms y_Packet_failingSum b_Packet_failingSum 3 (some .int) 1 := ⟨pg_tb 392 rfl rfl, pg_tb 2 rfl rfl, pg_tb 391 rfl rfl, ⟨by decide, by decide, by decide +kernel⟩⟩
set_option maxRecDepth 100000 in
theorem m_Packet_bitsOf : pg_ms y_Packet_bitsOf b_Packet_bitsOf 1 (some .int) 1 := ⟨pg_tb 397 rfl rfl, pg_tb 2 rfl rfl, pg_tb 396 rfl rfl, ⟨by decide, by decide, by decide +kernel⟩⟩
set_option maxRecDepth 100000 in
theorem m_Tuner_takeTriplet : pg_ms y_Tuner_takeTriplet b_Tuner_takeTriplet 6 (some .int) 3 := ⟨pg_tb 400 rfl rfl, pg_tb 7 rfl rfl, pg_tb 399 rfl rfl, ⟨by decide, by decide, by decide +kernel⟩⟩
set_option maxRecDepth 100000 in
theorem m_Page_setOverlay : pg_mi y_Page_setOverlay b_Page_setOverlay 4 none 3 := ⟨pg_tb 404 rfl rfl, pg_tb 5 rfl rfl, pg_tb 402 rfl rfl, pg_tb 403 rfl rfl, ⟨by decide, by decide, by decide +kernel⟩⟩
set_option maxRecDepth 100000 in
theorem m_Tuner_takeLinks : pg_mi y_Tuner_takeLinks b_Tuner_takeLinks 7 none 2 := ⟨pg_tb 408 rfl rfl, pg_tb 7 rfl rfl, pg_tb 407 rfl rfl, pg_tp 11 rfl, ⟨by decide, by decide, by decide +kernel⟩⟩
set_option maxRecDepth 100000 in
theorem m_Packet_empty : pg_mi y_Packet_empty b_Packet_empty 2 (some .int) 0 := ⟨pg_tb 412 rfl rfl, pg_tb 2 rfl rfl, pg_tb 410 rfl rfl, pg_tb 411 rfl rfl, ⟨by decide, by decide, by decide +kernel⟩⟩
set_option maxRecDepth 100000 in
theorem m_Recv_reset : pg_mi y_Recv_reset b_Recv_reset 1 (some .int) 0 := ⟨pg_tb 416 rfl rfl, pg_tb 1 rfl rfl, pg_tb 414 rfl rfl, pg_tb 415 rfl rfl, ⟨by decide, by decide, by decide +kernel⟩⟩
set_option maxRecDepth 100000 in
theorem m_Recv_key : pg_mi y_Recv_key b_Recv_key 2 (some .boolean) 1 := ⟨pg_tb 420 rfl rfl, pg_tb 1 rfl rfl, pg_tb 418 rfl rfl, pg_tb 419 rfl rfl, ⟨by decide, by decide, by decide +kernel⟩⟩
set_option maxRecDepth 100000 in
theorem m_Remote_pressDigit : pg_mi y_Remote_pressDigit b_Remote_pressDigit 2 (some .boolean) 1 := ⟨pg_tb 424 rfl rfl, pg_tb 6 rfl rfl, pg_tb 422 rfl rfl, pg_tb 423 rfl rfl, ⟨by decide, by decide, by decide +kernel⟩⟩
set_option maxRecDepth 100000 in
theorem m_Remote_want : pg_mi y_Remote_want b_Remote_want 2 none 1 := ⟨pg_tb 428 rfl rfl, pg_tb 6 rfl rfl, pg_tb 427 rfl rfl, pg_tp 12 rfl, ⟨by decide, by decide, by decide +kernel⟩⟩
set_option maxRecDepth 100000 in
theorem m_Remote_pressCommand : pg_mi y_Remote_pressCommand b_Remote_pressCommand 2 (some .boolean) 1 := ⟨pg_tb 432 rfl rfl, pg_tb 6 rfl rfl, pg_tb 430 rfl rfl, pg_tb 431 rfl rfl, ⟨by decide, by decide, by decide +kernel⟩⟩
set_option maxRecDepth 100000 in
theorem m_Remote_turnHeld : pg_mi y_Remote_turnHeld b_Remote_turnHeld 2 (some .boolean) 0 := ⟨pg_tb 436 rfl rfl, pg_tb 6 rfl rfl, pg_tb 435 rfl rfl, pg_tp 13 rfl, ⟨by decide, by decide, by decide +kernel⟩⟩
set_option maxRecDepth 100000 in
theorem m_Remote_pageShown : pg_mi y_Remote_pageShown b_Remote_pageShown 1 (some (.object "PageReceiver$Page")) 0 := ⟨pg_tb 440 rfl rfl, pg_tb 6 rfl rfl, pg_tb 438 rfl rfl, pg_tb 439 rfl rfl, ⟨by decide, by decide, by decide +kernel⟩⟩
set_option maxRecDepth 100000 in
theorem m_Remote_followLink : pg_mi y_Remote_followLink b_Remote_followLink 3 (some .boolean) 1 := ⟨pg_tb 446 rfl rfl, pg_tb 6 rfl rfl, pg_tb 445 rfl rfl, pg_tp 14 rfl, ⟨by decide, by decide, by decide +kernel⟩⟩
set_option maxRecDepth 100000 in
theorem m_Page_link : pg_mi y_Page_link b_Page_link 2 (some .int) 1 := ⟨pg_tb 450 rfl rfl, pg_tb 5 rfl rfl, pg_tb 448 rfl rfl, pg_tb 449 rfl rfl, ⟨by decide, by decide, by decide +kernel⟩⟩
set_option maxRecDepth 100000 in
theorem m_Recv_tick : pg_mi y_Recv_tick b_Recv_tick 1 (some .boolean) 0 := ⟨pg_tb 454 rfl rfl, pg_tb 1 rfl rfl, pg_tb 452 rfl rfl, pg_tb 453 rfl rfl, ⟨by decide, by decide, by decide +kernel⟩⟩
set_option maxRecDepth 100000 in
theorem m_Recv_shown : pg_mi y_Recv_shown b_Recv_shown 2 (some .int) 0 := ⟨pg_tb 458 rfl rfl, pg_tb 1 rfl rfl, pg_tb 456 rfl rfl, pg_tb 457 rfl rfl, ⟨by decide, by decide, by decide +kernel⟩⟩
set_option maxRecDepth 100000 in
theorem m_Recv_viewer : pg_mi y_Recv_viewer b_Recv_viewer 2 (some .int) 1 := ⟨pg_tb 463 rfl rfl, pg_tb 1 rfl rfl, pg_tb 461 rfl rfl, pg_tb 462 rfl rfl, ⟨by decide, by decide, by decide +kernel⟩⟩
set_option maxRecDepth 100000 in
theorem m_Recv_kept : pg_mi y_Recv_kept b_Recv_kept 4 (some .int) 2 := ⟨pg_tb 467 rfl rfl, pg_tb 1 rfl rfl, pg_tb 465 rfl rfl, pg_tb 466 rfl rfl, ⟨by decide, by decide, by decide +kernel⟩⟩
set_option maxRecDepth 100000 in
theorem m_Shelf_pageIn : pg_mi y_Shelf_pageIn b_Shelf_pageIn 2 (some (.object "PageReceiver$Page")) 1 := ⟨pg_tb 471 rfl rfl, pg_tb 3 rfl rfl, pg_tb 469 rfl rfl, pg_tb 470 rfl rfl, ⟨by decide, by decide, by decide +kernel⟩⟩
set_option maxRecDepth 100000 in
theorem m_Page_tell : pg_mi y_Page_tell b_Page_tell 2 (some .int) 1 := ⟨pg_tb 475 rfl rfl, pg_tb 5 rfl rfl, pg_tb 473 rfl rfl, pg_tb 474 rfl rfl, ⟨by decide, by decide, by decide +kernel⟩⟩
set_option maxRecDepth 100000 in
theorem m_Recv_count : pg_mi y_Recv_count b_Recv_count 2 (some .int) 1 := ⟨pg_tb 480 rfl rfl, pg_tb 1 rfl rfl, pg_tb 478 rfl rfl, pg_tb 479 rfl rfl, ⟨by decide, by decide, by decide +kernel⟩⟩
set_option maxRecDepth 100000 in
theorem m_Recv_look : pg_mi y_Recv_look b_Recv_look 4 (some .int) 3 := ⟨pg_tb 484 rfl rfl, pg_tb 1 rfl rfl, pg_tb 482 rfl rfl, pg_tb 483 rfl rfl, ⟨by decide, by decide, by decide +kernel⟩⟩
set_option maxRecDepth 100000 in
theorem m_Screen_see : pg_mi y_Screen_see b_Screen_see 7 none 2 := ⟨pg_tb 489 rfl rfl, pg_tb 9 rfl rfl, pg_tb 487 rfl rfl, pg_tb 488 rfl rfl, ⟨by decide, by decide, by decide +kernel⟩⟩
set_option maxRecDepth 100000 in
theorem m_Screen_isOwn : pg_mi y_Screen_isOwn b_Screen_isOwn 5 (some .boolean) 2 := ⟨pg_tb 494 rfl rfl, pg_tb 9 rfl rfl, pg_tb 493 rfl rfl, pg_tp 15 rfl, ⟨by decide, by decide, by decide +kernel⟩⟩
set_option maxRecDepth 100000 in
theorem m_Screen_hasDouble : pg_mi y_Screen_hasDouble b_Screen_hasDouble 6 (some .boolean) 2 := ⟨pg_tb 498 rfl rfl, pg_tb 9 rfl rfl, pg_tb 497 rfl rfl, pg_tp 16 rfl, ⟨by decide, by decide, by decide +kernel⟩⟩
set_option maxRecDepth 100000 in
theorem m_Screen_letterAt : pg_mi y_Screen_letterAt b_Screen_letterAt 4 (some .int) 3 := ⟨pg_tb 502 rfl rfl, pg_tb 9 rfl rfl, pg_tb 501 rfl rfl, pg_tp 17 rfl, ⟨by decide, by decide, by decide +kernel⟩⟩
set_option maxRecDepth 100000 in
theorem m_Screen_headLetter : pg_mi y_Screen_headLetter b_Screen_headLetter 3 (some .int) 1 := ⟨pg_tb 506 rfl rfl, pg_tb 9 rfl rfl, pg_tb 505 rfl rfl, pg_tp 18 rfl, ⟨by decide, by decide, by decide +kernel⟩⟩
set_option maxRecDepth 100000 in
theorem m_Screen_digitLetter : pg_ms y_Screen_digitLetter b_Screen_digitLetter 1 (some .int) 1 := ⟨pg_tb 509 rfl rfl, pg_tb 9 rfl rfl, pg_tb 508 rfl rfl, ⟨by decide, by decide, by decide +kernel⟩⟩
set_option maxRecDepth 100000 in
theorem m_Page_letterAt : pg_mi y_Page_letterAt b_Page_letterAt 3 (some .int) 2 := ⟨pg_tb 513 rfl rfl, pg_tb 5 rfl rfl, pg_tb 511 rfl rfl, pg_tb 512 rfl rfl, ⟨by decide, by decide, by decide +kernel⟩⟩
set_option maxRecDepth 100000 in
theorem m_States_begin : pg_mi y_States_begin b_States_begin 1 none 0 := ⟨pg_tb 517 rfl rfl, pg_tb 10 rfl rfl, pg_tb 515 rfl rfl, pg_tb 516 rfl rfl, ⟨by decide, by decide, by decide +kernel⟩⟩
set_option maxRecDepth 100000 in
theorem m_States_holdLetter : pg_mi y_States_holdLetter b_States_holdLetter 3 none 2 := ⟨pg_tb 521 rfl rfl, pg_tb 10 rfl rfl, pg_tb 519 rfl rfl, pg_tb 520 rfl rfl, ⟨by decide, by decide, by decide +kernel⟩⟩
set_option maxRecDepth 100000 in
theorem m_Screen_drawCell : pg_mi y_Screen_drawCell b_Screen_drawCell 5 none 3 := ⟨pg_tb 525 rfl rfl, pg_tb 9 rfl rfl, pg_tb 524 rfl rfl, pg_tp 19 rfl, ⟨by decide, by decide, by decide +kernel⟩⟩
set_option maxRecDepth 100000 in
theorem m_States_doAtOnce : pg_mi y_States_doAtOnce b_States_doAtOnce 2 none 1 := ⟨pg_tb 529 rfl rfl, pg_tb 10 rfl rfl, pg_tb 527 rfl rfl, pg_tb 528 rfl rfl, ⟨by decide, by decide, by decide +kernel⟩⟩
set_option maxRecDepth 100000 in
theorem m_States_turnDouble : pg_mi y_States_turnDouble b_States_turnDouble 2 none 1 := ⟨pg_tb 533 rfl rfl, pg_tb 10 rfl rfl, pg_tb 532 rfl rfl, pg_tp 20 rfl, ⟨by decide, by decide, by decide +kernel⟩⟩
set_option maxRecDepth 100000 in
theorem m_Screen_drawMark : pg_mi y_Screen_drawMark b_Screen_drawMark 1 none 0 := ⟨pg_tb 537 rfl rfl, pg_tb 9 rfl rfl, pg_tb 536 rfl rfl, pg_tp 21 rfl, ⟨by decide, by decide, by decide +kernel⟩⟩
set_option maxRecDepth 100000 in
theorem m_Screen_drawBlock : pg_mi y_Screen_drawBlock b_Screen_drawBlock 3 none 2 := ⟨pg_tb 541 rfl rfl, pg_tb 9 rfl rfl, pg_tb 540 rfl rfl, pg_tp 22 rfl, ⟨by decide, by decide, by decide +kernel⟩⟩
set_option maxRecDepth 100000 in
theorem m_Screen_drawPlain : pg_mi y_Screen_drawPlain b_Screen_drawPlain 2 none 1 := ⟨pg_tb 545 rfl rfl, pg_tb 9 rfl rfl, pg_tb 544 rfl rfl, pg_tp 23 rfl, ⟨by decide, by decide, by decide +kernel⟩⟩
set_option maxRecDepth 100000 in
theorem m_Screen_overlayAt : pg_ms y_Screen_overlayAt b_Screen_overlayAt 4 (some .int) 3 := ⟨pg_tb 548 rfl rfl, pg_tb 9 rfl rfl, pg_tb 547 rfl rfl, ⟨by decide, by decide, by decide +kernel⟩⟩
set_option maxRecDepth 100000 in
theorem m_Page_overlayAt : pg_mi y_Page_overlayAt b_Page_overlayAt 3 (some .int) 2 := ⟨pg_tb 552 rfl rfl, pg_tb 5 rfl rfl, pg_tb 550 rfl rfl, pg_tb 551 rfl rfl, ⟨by decide, by decide, by decide +kernel⟩⟩
set_option maxRecDepth 100000 in
theorem m_Screen_drawLetter : pg_mi y_Screen_drawLetter b_Screen_drawLetter 4 none 3 := ⟨pg_tb 556 rfl rfl, pg_tb 9 rfl rfl, pg_tb 555 rfl rfl, pg_tp 24 rfl, ⟨by decide, by decide, by decide +kernel⟩⟩
set_option maxRecDepth 100000 in
theorem m_Screen_letterOfSet : pg_ms y_Screen_letterOfSet b_Screen_letterOfSet 3 (some .int) 2 := ⟨pg_tb 560 rfl rfl, pg_tb 9 rfl rfl, pg_tb 559 rfl rfl, ⟨by decide, by decide, by decide +kernel⟩⟩
set_option maxRecDepth 100000 in
theorem m_Screen_indexInSet : pg_ms y_Screen_indexInSet b_Screen_indexInSet 1 (some .int) 1 := ⟨pg_tb 563 rfl rfl, pg_tb 9 rfl rfl, pg_tb 562 rfl rfl, ⟨by decide, by decide, by decide +kernel⟩⟩
set_option maxRecDepth 100000 in
theorem m_Screen_drawStates : pg_mi y_Screen_drawStates b_Screen_drawStates 3 none 1 := ⟨pg_tb 567 rfl rfl, pg_tb 9 rfl rfl, pg_tb 566 rfl rfl, pg_tp 25 rfl, ⟨by decide, by decide, by decide +kernel⟩⟩
set_option maxRecDepth 100000 in
theorem m_States_sum : pg_mi y_States_sum b_States_sum 1 (some .int) 0 := ⟨pg_tb 571 rfl rfl, pg_tb 10 rfl rfl, pg_tb 569 rfl rfl, pg_tb 570 rfl rfl, ⟨by decide, by decide, by decide +kernel⟩⟩
set_option maxRecDepth 100000 in
theorem m_States_doAfter : pg_mi y_States_doAfter b_States_doAfter 2 none 1 := ⟨pg_tb 575 rfl rfl, pg_tb 10 rfl rfl, pg_tb 573 rfl rfl, pg_tb 574 rfl rfl, ⟨by decide, by decide, by decide +kernel⟩⟩
set_option maxRecDepth 100000 in
theorem m_States_takeColour : pg_mi y_States_takeColour b_States_takeColour 3 none 2 := ⟨pg_tb 579 rfl rfl, pg_tb 10 rfl rfl, pg_tb 578 rfl rfl, pg_tp 26 rfl, ⟨by decide, by decide, by decide +kernel⟩⟩
set_option maxRecDepth 100000 in
theorem m_States_turnMosaic : pg_mi y_States_turnMosaic b_States_turnMosaic 2 none 1 := ⟨pg_tb 583 rfl rfl, pg_tb 10 rfl rfl, pg_tb 582 rfl rfl, pg_tp 27 rfl, ⟨by decide, by decide, by decide +kernel⟩⟩
set_option maxRecDepth 100000 in
theorem m_Screen_turnToLowerHalf : pg_mi y_Screen_turnToLowerHalf b_Screen_turnToLowerHalf 1 none 0 := ⟨pg_tb 587 rfl rfl, pg_tb 9 rfl rfl, pg_tb 586 rfl rfl, pg_tp 28 rfl, ⟨by decide, by decide, by decide +kernel⟩⟩
set_option maxRecDepth 100000 in
theorem m_Recv_point : pg_mi y_Recv_point b_Recv_point 5 (some .int) 4 := ⟨pg_tb 591 rfl rfl, pg_tb 1 rfl rfl, pg_tb 589 rfl rfl, pg_tb 590 rfl rfl, ⟨by decide, by decide, by decide +kernel⟩⟩
set_option maxRecDepth 100000 in
theorem m_Screen_colourAt : pg_mi y_Screen_colourAt b_Screen_colourAt 5 (some .int) 2 := ⟨pg_tb 595 rfl rfl, pg_tb 9 rfl rfl, pg_tb 593 rfl rfl, pg_tb 594 rfl rfl, ⟨by decide, by decide, by decide +kernel⟩⟩
set_option maxRecDepth 100000 in
theorem m_Screen_blockFills : pg_mi y_Screen_blockFills b_Screen_blockFills 4 (some .boolean) 2 := ⟨pg_tb 599 rfl rfl, pg_tb 9 rfl rfl, pg_tb 598 rfl rfl, pg_tp 29 rfl, ⟨by decide, by decide, by decide +kernel⟩⟩
set_option maxRecDepth 100000 in
theorem m_Screen_letterFills : pg_mi y_Screen_letterFills b_Screen_letterFills 4 (some .boolean) 2 := ⟨pg_tb 603 rfl rfl, pg_tb 9 rfl rfl, pg_tb 602 rfl rfl, pg_tp 30 rfl, ⟨by decide, by decide, by decide +kernel⟩⟩
set_option maxRecDepth 100000 in
theorem m_Law_cell : pg_ms y_Law_cell b_Law_cell 2 (some .int) 2 := ⟨pg_tb 607 rfl rfl, pg_tb 0 rfl rfl, pg_tb 606 rfl rfl, ⟨by decide, by decide, by decide +kernel⟩⟩
set_option maxRecDepth 100000 in
theorem m_Mod_init : pg_mc y_Mod_init b_Mod_init 3 1 := ⟨pg_tb 612 rfl rfl, pg_tb 11 rfl rfl, pg_tb 611 rfl rfl, rfl, ⟨by decide, by decide, by decide +kernel⟩⟩
set_option maxRecDepth 100000 in
theorem m_Mod_feed : pg_mi y_Mod_feed b_Mod_feed 5 (some .int) 2 := ⟨pg_tb 730 rfl rfl, pg_tb 11 rfl rfl, pg_tb 728 rfl rfl, pg_tb 729 rfl rfl, ⟨by decide, by decide, by decide +kernel⟩⟩
set_option maxRecDepth 100000 in
theorem m_Mod_takePacket : pg_mi y_Mod_takePacket b_Mod_takePacket 7 none 0 := ⟨pg_tb 735 rfl rfl, pg_tb 11 rfl rfl, pg_tb 734 rfl rfl, pg_tp 31 rfl, ⟨by decide, by decide, by decide +kernel⟩⟩
set_option maxRecDepth 100000 in
theorem m_Mod_nibble : pg_mi y_Mod_nibble b_Mod_nibble 8 (some .int) 1 := ⟨pg_tb 739 rfl rfl, pg_tb 11 rfl rfl, pg_tb 738 rfl rfl, pg_tp 32 rfl, ⟨by decide, by decide, by decide +kernel⟩⟩
set_option maxRecDepth 100000 in
theorem m_Mod_codeOf : pg_ms y_Mod_codeOf b_Mod_codeOf 6 (some .int) 1 := ⟨pg_tb 742 rfl rfl, pg_tb 11 rfl rfl, pg_tb 741 rfl rfl, ⟨by decide, by decide, by decide +kernel⟩⟩
set_option maxRecDepth 100000 in
theorem m_Mod_parity : pg_ms y_Mod_parity b_Mod_parity 3 (some .int) 1 := ⟨pg_tb 745 rfl rfl, pg_tb 11 rfl rfl, pg_tb 744 rfl rfl, ⟨by decide, by decide, by decide +kernel⟩⟩
set_option maxRecDepth 100000 in
theorem m_Mod_drop : pg_mi y_Mod_drop b_Mod_drop 1 none 0 := ⟨pg_tb 749 rfl rfl, pg_tb 11 rfl rfl, pg_tb 748 rfl rfl, pg_tp 33 rfl, ⟨by decide, by decide, by decide +kernel⟩⟩
set_option maxRecDepth 100000 in
theorem m_Mod_takeHeader : pg_mi y_Mod_takeHeader b_Mod_takeHeader 10 none 1 := ⟨pg_tb 753 rfl rfl, pg_tb 11 rfl rfl, pg_tb 752 rfl rfl, pg_tp 34 rfl, ⟨by decide, by decide, by decide +kernel⟩⟩
set_option maxRecDepth 100000 in
theorem m_Mod_complete : pg_mi y_Mod_complete b_Mod_complete 3 none 1 := ⟨pg_tb 757 rfl rfl, pg_tb 11 rfl rfl, pg_tb 756 rfl rfl, pg_tp 35 rfl, ⟨by decide, by decide, by decide +kernel⟩⟩
set_option maxRecDepth 100000 in
theorem m_Mod_placeFor : pg_mi y_Mod_placeFor b_Mod_placeFor 6 (some .int) 1 := ⟨pg_tb 761 rfl rfl, pg_tb 11 rfl rfl, pg_tb 760 rfl rfl, pg_tp 36 rfl, ⟨by decide, by decide, by decide +kernel⟩⟩
set_option maxRecDepth 100000 in
theorem m_Mod_keptAt : pg_mi y_Mod_keptAt b_Mod_keptAt 3 (some .int) 1 := ⟨pg_tb 765 rfl rfl, pg_tb 11 rfl rfl, pg_tb 764 rfl rfl, pg_tp 37 rfl, ⟨by decide, by decide, by decide +kernel⟩⟩
set_option maxRecDepth 100000 in
theorem m_Mod_copy : pg_mi y_Mod_copy b_Mod_copy 4 none 2 := ⟨pg_tb 769 rfl rfl, pg_tb 11 rfl rfl, pg_tb 768 rfl rfl, pg_tp 38 rfl, ⟨by decide, by decide, by decide +kernel⟩⟩
set_option maxRecDepth 100000 in
theorem m_Mod_comes : pg_mi y_Mod_comes b_Mod_comes 7 none 5 := ⟨pg_tb 773 rfl rfl, pg_tb 11 rfl rfl, pg_tb 772 rfl rfl, pg_tp 39 rfl, ⟨by decide, by decide, by decide +kernel⟩⟩
set_option maxRecDepth 100000 in
theorem m_Mod_blank : pg_mi y_Mod_blank b_Mod_blank 3 none 1 := ⟨pg_tb 777 rfl rfl, pg_tb 11 rfl rfl, pg_tb 776 rfl rfl, pg_tp 40 rfl, ⟨by decide, by decide, by decide +kernel⟩⟩
set_option maxRecDepth 100000 in
theorem m_Mod_letter : pg_mi y_Mod_letter b_Mod_letter 2 (some .int) 1 := ⟨pg_tb 781 rfl rfl, pg_tb 11 rfl rfl, pg_tb 780 rfl rfl, pg_tp 41 rfl, ⟨by decide, by decide, by decide +kernel⟩⟩
set_option maxRecDepth 100000 in
theorem m_Mod_takeOverlays : pg_mi y_Mod_takeOverlays b_Mod_takeOverlays 9 none 1 := ⟨pg_tb 785 rfl rfl, pg_tb 11 rfl rfl, pg_tb 784 rfl rfl, pg_tp 42 rfl, ⟨by decide, by decide, by decide +kernel⟩⟩
set_option maxRecDepth 100000 in
theorem m_Mod_mended : pg_mi y_Mod_mended b_Mod_mended 6 (some .int) 1 := ⟨pg_tb 790 rfl rfl, pg_tb 11 rfl rfl, pg_tb 789 rfl rfl, pg_tp 43 rfl, ⟨by decide, by decide, by decide +kernel⟩⟩
set_option maxRecDepth 100000 in
theorem m_Mod_told : pg_ms y_Mod_told b_Mod_told 7 (some .int) 3 := ⟨pg_tb 793 rfl rfl, pg_tb 11 rfl rfl, pg_tb 792 rfl rfl, ⟨by decide, by decide, by decide +kernel⟩⟩
set_option maxRecDepth 100000 in
theorem m_Mod_takeLinks : pg_mi y_Mod_takeLinks b_Mod_takeLinks 6 none 1 := ⟨pg_tb 797 rfl rfl, pg_tb 11 rfl rfl, pg_tb 796 rfl rfl, pg_tp 44 rfl, ⟨by decide, by decide, by decide +kernel⟩⟩
set_option maxRecDepth 100000 in
theorem m_Mod_reset : pg_mi y_Mod_reset b_Mod_reset 2 (some .int) 0 := ⟨pg_tb 801 rfl rfl, pg_tb 11 rfl rfl, pg_tb 799 rfl rfl, pg_tb 800 rfl rfl, ⟨by decide, by decide, by decide +kernel⟩⟩
set_option maxRecDepth 100000 in
theorem m_Mod_key : pg_mi y_Mod_key b_Mod_key 4 (some .boolean) 1 := ⟨pg_tb 805 rfl rfl, pg_tb 11 rfl rfl, pg_tb 803 rfl rfl, pg_tb 804 rfl rfl, ⟨by decide, by decide, by decide +kernel⟩⟩
set_option maxRecDepth 100000 in
theorem m_Mod_digit : pg_mi y_Mod_digit b_Mod_digit 2 (some .boolean) 1 := ⟨pg_tb 809 rfl rfl, pg_tb 11 rfl rfl, pg_tb 808 rfl rfl, pg_tp 45 rfl, ⟨by decide, by decide, by decide +kernel⟩⟩
set_option maxRecDepth 100000 in
theorem m_Mod_want : pg_mi y_Mod_want b_Mod_want 2 none 1 := ⟨pg_tb 813 rfl rfl, pg_tb 11 rfl rfl, pg_tb 812 rfl rfl, pg_tp 46 rfl, ⟨by decide, by decide, by decide +kernel⟩⟩
set_option maxRecDepth 100000 in
theorem m_Mod_shownAt : pg_mi y_Mod_shownAt b_Mod_shownAt 1 (some .int) 0 := ⟨pg_tb 817 rfl rfl, pg_tb 11 rfl rfl, pg_tb 816 rfl rfl, pg_tp 47 rfl, ⟨by decide, by decide, by decide +kernel⟩⟩
set_option maxRecDepth 100000 in
theorem m_Mod_tick : pg_mi y_Mod_tick b_Mod_tick 1 (some .boolean) 0 := ⟨pg_tb 821 rfl rfl, pg_tb 11 rfl rfl, pg_tb 819 rfl rfl, pg_tb 820 rfl rfl, ⟨by decide, by decide, by decide +kernel⟩⟩
set_option maxRecDepth 100000 in
theorem m_Mod_shown : pg_mi y_Mod_shown b_Mod_shown 2 (some .int) 0 := ⟨pg_tb 825 rfl rfl, pg_tb 11 rfl rfl, pg_tb 823 rfl rfl, pg_tb 824 rfl rfl, ⟨by decide, by decide, by decide +kernel⟩⟩
set_option maxRecDepth 100000 in
theorem m_Mod_viewer : pg_mi y_Mod_viewer b_Mod_viewer 2 (some .int) 1 := ⟨pg_tb 829 rfl rfl, pg_tb 11 rfl rfl, pg_tb 827 rfl rfl, pg_tb 828 rfl rfl, ⟨by decide, by decide, by decide +kernel⟩⟩
set_option maxRecDepth 100000 in
theorem m_Mod_kept : pg_mi y_Mod_kept b_Mod_kept 4 (some .int) 2 := ⟨pg_tb 833 rfl rfl, pg_tb 11 rfl rfl, pg_tb 831 rfl rfl, pg_tb 832 rfl rfl, ⟨by decide, by decide, by decide +kernel⟩⟩
set_option maxRecDepth 100000 in
theorem m_Mod_count : pg_mi y_Mod_count b_Mod_count 2 (some .int) 1 := ⟨pg_tb 837 rfl rfl, pg_tb 11 rfl rfl, pg_tb 835 rfl rfl, pg_tb 836 rfl rfl, ⟨by decide, by decide, by decide +kernel⟩⟩
set_option maxRecDepth 100000 in
theorem m_Mod_look : pg_mi y_Mod_look b_Mod_look 4 (some .int) 3 := ⟨pg_tb 841 rfl rfl, pg_tb 11 rfl rfl, pg_tb 839 rfl rfl, pg_tb 840 rfl rfl, ⟨by decide, by decide, by decide +kernel⟩⟩
set_option maxRecDepth 100000 in
theorem m_Mod_isCell : pg_ms y_Mod_isCell b_Mod_isCell 2 (some .boolean) 2 := ⟨pg_tb 844 rfl rfl, pg_tb 11 rfl rfl, pg_tb 843 rfl rfl, ⟨by decide, by decide, by decide +kernel⟩⟩
set_option maxRecDepth 100000 in
theorem m_Mod_goTo : pg_mi y_Mod_goTo b_Mod_goTo 6 none 1 := ⟨pg_tb 848 rfl rfl, pg_tb 11 rfl rfl, pg_tb 847 rfl rfl, pg_tp 48 rfl, ⟨by decide, by decide, by decide +kernel⟩⟩
set_option maxRecDepth 100000 in
theorem m_Mod_go : pg_mi y_Mod_go b_Mod_go 8 (some .boolean) 1 := ⟨pg_tb 852 rfl rfl, pg_tb 11 rfl rfl, pg_tb 851 rfl rfl, pg_tp 49 rfl, ⟨by decide, by decide, by decide +kernel⟩⟩
set_option maxRecDepth 100000 in
theorem m_Mod_fetch : pg_mi y_Mod_fetch b_Mod_fetch 4 none 1 := ⟨pg_tb 856 rfl rfl, pg_tb 11 rfl rfl, pg_tb 855 rfl rfl, pg_tp 50 rfl, ⟨by decide, by decide, by decide +kernel⟩⟩
set_option maxRecDepth 100000 in
theorem m_Mod_sign : pg_ms y_Mod_sign b_Mod_sign 1 (some .int) 1 := ⟨pg_tb 859 rfl rfl, pg_tb 11 rfl rfl, pg_tb 858 rfl rfl, ⟨by decide, by decide, by decide +kernel⟩⟩
set_option maxRecDepth 100000 in
theorem m_Mod_begin : pg_mi y_Mod_begin b_Mod_begin 1 none 0 := ⟨pg_tb 863 rfl rfl, pg_tb 11 rfl rfl, pg_tb 862 rfl rfl, pg_tp 51 rfl, ⟨by decide, by decide, by decide +kernel⟩⟩
set_option maxRecDepth 100000 in
theorem m_Mod_forget : pg_mi y_Mod_forget b_Mod_forget 1 none 0 := ⟨pg_tb 867 rfl rfl, pg_tb 11 rfl rfl, pg_tb 866 rfl rfl, pg_tp 52 rfl, ⟨by decide, by decide, by decide +kernel⟩⟩
set_option maxRecDepth 100000 in
theorem m_Mod_noteLetter : pg_mi y_Mod_noteLetter b_Mod_noteLetter 6 none 3 := ⟨pg_tb 871 rfl rfl, pg_tb 11 rfl rfl, pg_tb 870 rfl rfl, pg_tp 53 rfl, ⟨by decide, by decide, by decide +kernel⟩⟩
set_option maxRecDepth 100000 in
theorem m_Mod_note : pg_mi y_Mod_note b_Mod_note 7 none 4 := ⟨pg_tb 875 rfl rfl, pg_tb 11 rfl rfl, pg_tb 874 rfl rfl, pg_tp 54 rfl, ⟨by decide, by decide, by decide +kernel⟩⟩
set_option maxRecDepth 100000 in
theorem m_Mod_changed : pg_ms y_Mod_changed b_Mod_changed 1 (some .int) 1 := ⟨pg_tb 878 rfl rfl, pg_tb 11 rfl rfl, pg_tb 877 rfl rfl, ⟨by decide, by decide, by decide +kernel⟩⟩
set_option maxRecDepth 100000 in
theorem m_Mod_before : pg_mi y_Mod_before b_Mod_before 2 none 1 := ⟨pg_tb 882 rfl rfl, pg_tb 11 rfl rfl, pg_tb 881 rfl rfl, pg_tp 55 rfl, ⟨by decide, by decide, by decide +kernel⟩⟩
set_option maxRecDepth 100000 in
theorem m_Mod_setTwice : pg_mi y_Mod_setTwice b_Mod_setTwice 2 none 1 := ⟨pg_tb 886 rfl rfl, pg_tb 11 rfl rfl, pg_tb 885 rfl rfl, pg_tp 56 rfl, ⟨by decide, by decide, by decide +kernel⟩⟩
set_option maxRecDepth 100000 in
theorem m_Mod_after : pg_mi y_Mod_after b_Mod_after 2 none 1 := ⟨pg_tb 890 rfl rfl, pg_tb 11 rfl rfl, pg_tb 889 rfl rfl, pg_tp 57 rfl, ⟨by decide, by decide, by decide +kernel⟩⟩
set_option maxRecDepth 100000 in
theorem m_Mod_setMosaic : pg_mi y_Mod_setMosaic b_Mod_setMosaic 2 none 1 := ⟨pg_tb 894 rfl rfl, pg_tb 11 rfl rfl, pg_tb 893 rfl rfl, pg_tp 58 rfl, ⟨by decide, by decide, by decide +kernel⟩⟩
set_option maxRecDepth 100000 in
theorem m_Mod_point : pg_mi y_Mod_point b_Mod_point 10 (some .int) 4 := ⟨pg_tb 898 rfl rfl, pg_tb 11 rfl rfl, pg_tb 896 rfl rfl, pg_tb 897 rfl rfl, ⟨by decide, by decide, by decide +kernel⟩⟩
