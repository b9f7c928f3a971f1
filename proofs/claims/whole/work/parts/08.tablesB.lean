def LX6_init : List (Nat × XI) := [(0, xLdA 1 0),
  (1, xObj 4),
  (4, xLdA 5 0),
  (5, xK 7 (nI 76)),
  (9, xPfR 12 6 0),
  (12, xLdA 13 0),
  (13, xK 15 (nI 8)),
  (17, xPfR 20 6 6),
  (20, xLdA 21 0),
  (21, xK 23 (nI 8)),
  (25, xPfR 28 6 7),
  (28, xLdA 29 0),
  (29, xK 31 (nI 8)),
  (33, xPfR 36 6 8),
  (36, xLdA 37 0),
  (37, xK 39 (nI 6)),
  (41, xPfR 44 6 10),
  (44, xLdA 45 0),
  (45, xK 47 (nI 6)),
  (49, xPfR 52 6 11),
  (52, xLdA 53 0),
  (53, xK 55 (nI 6)),
  (57, xPfR 60 6 12),
  (60, xLdA 61 0),
  (61, xK 63 (nI 6)),
  (65, xPfR 68 6 13),
  (68, xLdA 69 0),
  (69, xK 72 (nI 200)),
  (74, xPfR 77 6 17),
  (77, xLdA 78 0),
  (78, xK 80 (nI 24)),
  (82, xPfR 85 6 24),
  (85, xLdA 86 0),
  (86, xK 88 (nI 18)),
  (90, xPfR 93 6 26),
  (93, xLdA 94 0),
  (94, xK 96 (nI 6)),
  (98, xPfR 101 6 27),
  (101, xLdA 102 0),
  (102, xK 104 (nI 7)),
  (106, xPfR 109 6 28),
  (109, xLdA 110 0),
  (110, xK 112 (nI 6)),
  (114, xPfR 117 6 29),
  (117, xLdA 118 0),
  (118, xK 120 (nI 64)),
  (122, xPfR 125 6 30),
  (125, xLdA 126 0),
  (126, xK 128 (nI 64)),
  (130, xPfR 133 6 31),
  (133, xLdA 134 0),
  (134, xK 136 (nI 24)),
  (136, xPfI 139 6 21),
  (139, xLdA 140 0),
  (140, xK 142 (nI 6)),
  (142, xPfI 145 6 22),
  (145, xLdA 146 0),
  (146, xK 147 (nI 0)),
  (147, xK 149 (nI 6)),
  (149, xK 150 (nI 4)),
  (150, xCallV MX6_addsThing 6 3 153),
  (153, xLdA 154 0),
  (154, xK 155 (nI 1)),
  (155, xK 156 (nI 5)),
  (156, xK 157 (nI 2)),
  (157, xCallV MX6_addsThing 6 3 160),
  (160, xLdA 161 0),
  (161, xK 162 (nI 2)),
  (162, xK 163 (nI 4)),
  (163, xK 164 (nI 3)),
  (164, xCallV MX6_addsThing 6 3 167),
  (167, xLdA 168 0),
  (168, xK 169 (nI 3)),
  (169, xK 171 (nI 8)),
  (171, xK 172 (nI 5)),
  (172, xCallV MX6_addsThing 6 3 175),
  (175, xLdA 176 0),
  (176, xK 177 (nI 0)),
  (177, xK 179 (nI 9)),
  (179, xK 181 (nI 7)),
  (181, xCallV MX6_addsThing 6 3 184),
  (184, xLdA 185 0),
  (185, xK 186 (nI 2)),
  (186, xK 187 (nI 3)),
  (187, xK 188 (nI 1)),
  (188, xCallV MX6_addsThing 6 3 191),
  (191, xLdA 192 0),
  (192, xK 193 (nI 5)),
  (193, xK 195 (nI 30)),
  (195, xK 197 (nI 10)),
  (197, xCallV MX6_addsLife 6 3 200),
  (200, xLdA 201 0),
  (201, xK 202 (nI 3)),
  (202, xK 204 (nI 50)),
  (204, xK 205 (nI 5)),
  (205, xCallV MX6_addsLife 6 3 208),
  (208, xLdA 209 0),
  (209, xK 210 (nI 2)),
  (210, xK 212 (nI 20)),
  (212, xK 214 (nI 40)),
  (214, xCallV MX6_addsLife 6 3 217),
  (217, xLdA 218 0),
  (218, xK 219 (nI 0)),
  (219, xK 221 (nI 60)),
  (221, xK 223 (nI 60)),
  (223, xCallV MX6_addsLife 6 3 226),
  (226, xLdA 227 0),
  (227, xGf 230 6 27),
  (230, xK 231 (nI 0)),
  (231, xK 232 (nI 5)),
  (232, xiastore 233),
  (233, xLdA 234 0),
  (234, xGf 237 6 27),
  (237, xK 238 (nI 1)),
  (238, xK 240 (nI 25)),
  (240, xiastore 241),
  (241, xLdA 242 0),
  (242, xGf 245 6 27),
  (245, xK 246 (nI 2)),
  (246, xK 248 (nI 34)),
  (248, xiastore 249),
  (249, xLdA 250 0),
  (250, xGf 253 6 27),
  (253, xK 254 (nI 3)),
  (254, xK 256 (nI 56)),
  (256, xiastore 257),
  (257, xLdA 258 0),
  (258, xCallV MX6_begins 6 0 261),
  (261, xRetV)]
theorem sX6_init_0 : Snd MX6_init 0 (xLdA 1 0) := snd_aload_n (M := MX6_init) (pc := 0) dX6_init_0
theorem sX6_init_1 : Snd MX6_init 1 (xObj 4) := snd_obj (M := MX6_init) (pc := 1) dX6_init_1 w443 w74 w75 (by decide)
theorem sX6_init_4 : Snd MX6_init 4 (xLdA 5 0) := snd_aload_n (M := MX6_init) (pc := 4) dX6_init_4
theorem sX6_init_5 : Snd MX6_init 5 (xK 7 (nI 76)) := snd_bipush (M := MX6_init) (pc := 5) dX6_init_5 (by decide +kernel)
theorem sX6_init_9 : Snd MX6_init 9 (xPfR 12 6 0) := snd_pfRF (M := MX6_init) (pc := 9) (C0 := RX6) (T0 := TX6) (N := 32) dX6_init_9 rfl tbX6 tyX6 tyX6_ok nmX6 (by decide) w444 rfl rfl rfl (tyX6_ok 0 (by decide)) (fun _ => rfl) (fun _ => rfl)
theorem sX6_init_12 : Snd MX6_init 12 (xLdA 13 0) := snd_aload_n (M := MX6_init) (pc := 12) dX6_init_12
theorem sX6_init_13 : Snd MX6_init 13 (xK 15 (nI 8)) := snd_bipush (M := MX6_init) (pc := 13) dX6_init_13 (by decide +kernel)
theorem sX6_init_17 : Snd MX6_init 17 (xPfR 20 6 6) := snd_pfRF (M := MX6_init) (pc := 17) (C0 := RX6) (T0 := TX6) (N := 32) dX6_init_17 rfl tbX6 tyX6 tyX6_ok nmX6 (by decide) w445 rfl rfl rfl (tyX6_ok 6 (by decide)) (fun _ => rfl) (fun _ => rfl)
theorem sX6_init_20 : Snd MX6_init 20 (xLdA 21 0) := snd_aload_n (M := MX6_init) (pc := 20) dX6_init_20
theorem sX6_init_21 : Snd MX6_init 21 (xK 23 (nI 8)) := snd_bipush (M := MX6_init) (pc := 21) dX6_init_21 (by decide +kernel)
theorem sX6_init_25 : Snd MX6_init 25 (xPfR 28 6 7) := snd_pfRF (M := MX6_init) (pc := 25) (C0 := RX6) (T0 := TX6) (N := 32) dX6_init_25 rfl tbX6 tyX6 tyX6_ok nmX6 (by decide) w446 rfl rfl rfl (tyX6_ok 7 (by decide)) (fun _ => rfl) (fun _ => rfl)
theorem sX6_init_28 : Snd MX6_init 28 (xLdA 29 0) := snd_aload_n (M := MX6_init) (pc := 28) dX6_init_28
theorem sX6_init_29 : Snd MX6_init 29 (xK 31 (nI 8)) := snd_bipush (M := MX6_init) (pc := 29) dX6_init_29 (by decide +kernel)
theorem sX6_init_33 : Snd MX6_init 33 (xPfR 36 6 8) := snd_pfRF (M := MX6_init) (pc := 33) (C0 := RX6) (T0 := TX6) (N := 32) dX6_init_33 rfl tbX6 tyX6 tyX6_ok nmX6 (by decide) w447 rfl rfl rfl (tyX6_ok 8 (by decide)) (fun _ => rfl) (fun _ => rfl)
theorem sX6_init_36 : Snd MX6_init 36 (xLdA 37 0) := snd_aload_n (M := MX6_init) (pc := 36) dX6_init_36
theorem sX6_init_37 : Snd MX6_init 37 (xK 39 (nI 6)) := snd_bipush (M := MX6_init) (pc := 37) dX6_init_37 (by decide +kernel)
theorem sX6_init_41 : Snd MX6_init 41 (xPfR 44 6 10) := snd_pfRF (M := MX6_init) (pc := 41) (C0 := RX6) (T0 := TX6) (N := 32) dX6_init_41 rfl tbX6 tyX6 tyX6_ok nmX6 (by decide) w448 rfl rfl rfl (tyX6_ok 10 (by decide)) (fun _ => rfl) (fun _ => rfl)
theorem sX6_init_44 : Snd MX6_init 44 (xLdA 45 0) := snd_aload_n (M := MX6_init) (pc := 44) dX6_init_44
theorem sX6_init_45 : Snd MX6_init 45 (xK 47 (nI 6)) := snd_bipush (M := MX6_init) (pc := 45) dX6_init_45 (by decide +kernel)
theorem sX6_init_49 : Snd MX6_init 49 (xPfR 52 6 11) := snd_pfRF (M := MX6_init) (pc := 49) (C0 := RX6) (T0 := TX6) (N := 32) dX6_init_49 rfl tbX6 tyX6 tyX6_ok nmX6 (by decide) w449 rfl rfl rfl (tyX6_ok 11 (by decide)) (fun _ => rfl) (fun _ => rfl)
theorem sX6_init_52 : Snd MX6_init 52 (xLdA 53 0) := snd_aload_n (M := MX6_init) (pc := 52) dX6_init_52
theorem sX6_init_53 : Snd MX6_init 53 (xK 55 (nI 6)) := snd_bipush (M := MX6_init) (pc := 53) dX6_init_53 (by decide +kernel)
theorem sX6_init_57 : Snd MX6_init 57 (xPfR 60 6 12) := snd_pfRF (M := MX6_init) (pc := 57) (C0 := RX6) (T0 := TX6) (N := 32) dX6_init_57 rfl tbX6 tyX6 tyX6_ok nmX6 (by decide) w450 rfl rfl rfl (tyX6_ok 12 (by decide)) (fun _ => rfl) (fun _ => rfl)
theorem sX6_init_60 : Snd MX6_init 60 (xLdA 61 0) := snd_aload_n (M := MX6_init) (pc := 60) dX6_init_60
theorem sX6_init_61 : Snd MX6_init 61 (xK 63 (nI 6)) := snd_bipush (M := MX6_init) (pc := 61) dX6_init_61 (by decide +kernel)
theorem sX6_init_65 : Snd MX6_init 65 (xPfR 68 6 13) := snd_pfRF (M := MX6_init) (pc := 65) (C0 := RX6) (T0 := TX6) (N := 32) dX6_init_65 rfl tbX6 tyX6 tyX6_ok nmX6 (by decide) w451 rfl rfl rfl (tyX6_ok 13 (by decide)) (fun _ => rfl) (fun _ => rfl)
theorem sX6_init_68 : Snd MX6_init 68 (xLdA 69 0) := snd_aload_n (M := MX6_init) (pc := 68) dX6_init_68
theorem sX6_init_69 : Snd MX6_init 69 (xK 72 (nI 200)) := snd_sipush (M := MX6_init) (pc := 69) dX6_init_69 (by decide +kernel)
theorem sX6_init_74 : Snd MX6_init 74 (xPfR 77 6 17) := snd_pfRF (M := MX6_init) (pc := 74) (C0 := RX6) (T0 := TX6) (N := 32) dX6_init_74 rfl tbX6 tyX6 tyX6_ok nmX6 (by decide) w452 rfl rfl rfl (tyX6_ok 17 (by decide)) (fun _ => rfl) (fun _ => rfl)
theorem sX6_init_77 : Snd MX6_init 77 (xLdA 78 0) := snd_aload_n (M := MX6_init) (pc := 77) dX6_init_77
theorem sX6_init_78 : Snd MX6_init 78 (xK 80 (nI 24)) := snd_bipush (M := MX6_init) (pc := 78) dX6_init_78 (by decide +kernel)
theorem sX6_init_82 : Snd MX6_init 82 (xPfR 85 6 24) := snd_pfRF (M := MX6_init) (pc := 82) (C0 := RX6) (T0 := TX6) (N := 32) dX6_init_82 rfl tbX6 tyX6 tyX6_ok nmX6 (by decide) w453 rfl rfl rfl (tyX6_ok 24 (by decide)) (fun _ => rfl) (fun _ => rfl)
theorem sX6_init_85 : Snd MX6_init 85 (xLdA 86 0) := snd_aload_n (M := MX6_init) (pc := 85) dX6_init_85
theorem sX6_init_86 : Snd MX6_init 86 (xK 88 (nI 18)) := snd_bipush (M := MX6_init) (pc := 86) dX6_init_86 (by decide +kernel)
theorem sX6_init_90 : Snd MX6_init 90 (xPfR 93 6 26) := snd_pfRF (M := MX6_init) (pc := 90) (C0 := RX6) (T0 := TX6) (N := 32) dX6_init_90 rfl tbX6 tyX6 tyX6_ok nmX6 (by decide) w454 rfl rfl rfl (tyX6_ok 26 (by decide)) (fun _ => rfl) (fun _ => rfl)
theorem sX6_init_93 : Snd MX6_init 93 (xLdA 94 0) := snd_aload_n (M := MX6_init) (pc := 93) dX6_init_93
theorem sX6_init_94 : Snd MX6_init 94 (xK 96 (nI 6)) := snd_bipush (M := MX6_init) (pc := 94) dX6_init_94 (by decide +kernel)
theorem sX6_init_98 : Snd MX6_init 98 (xPfR 101 6 27) := snd_pfRF (M := MX6_init) (pc := 98) (C0 := RX6) (T0 := TX6) (N := 32) dX6_init_98 rfl tbX6 tyX6 tyX6_ok nmX6 (by decide) w455 rfl rfl rfl (tyX6_ok 27 (by decide)) (fun _ => rfl) (fun _ => rfl)
theorem sX6_init_101 : Snd MX6_init 101 (xLdA 102 0) := snd_aload_n (M := MX6_init) (pc := 101) dX6_init_101
theorem sX6_init_102 : Snd MX6_init 102 (xK 104 (nI 7)) := snd_bipush (M := MX6_init) (pc := 102) dX6_init_102 (by decide +kernel)
theorem sX6_init_106 : Snd MX6_init 106 (xPfR 109 6 28) := snd_pfRF (M := MX6_init) (pc := 106) (C0 := RX6) (T0 := TX6) (N := 32) dX6_init_106 rfl tbX6 tyX6 tyX6_ok nmX6 (by decide) w456 rfl rfl rfl (tyX6_ok 28 (by decide)) (fun _ => rfl) (fun _ => rfl)
theorem sX6_init_109 : Snd MX6_init 109 (xLdA 110 0) := snd_aload_n (M := MX6_init) (pc := 109) dX6_init_109
theorem sX6_init_110 : Snd MX6_init 110 (xK 112 (nI 6)) := snd_bipush (M := MX6_init) (pc := 110) dX6_init_110 (by decide +kernel)
theorem sX6_init_114 : Snd MX6_init 114 (xPfR 117 6 29) := snd_pfRF (M := MX6_init) (pc := 114) (C0 := RX6) (T0 := TX6) (N := 32) dX6_init_114 rfl tbX6 tyX6 tyX6_ok nmX6 (by decide) w457 rfl rfl rfl (tyX6_ok 29 (by decide)) (fun _ => rfl) (fun _ => rfl)
theorem sX6_init_117 : Snd MX6_init 117 (xLdA 118 0) := snd_aload_n (M := MX6_init) (pc := 117) dX6_init_117
theorem sX6_init_118 : Snd MX6_init 118 (xK 120 (nI 64)) := snd_bipush (M := MX6_init) (pc := 118) dX6_init_118 (by decide +kernel)
theorem sX6_init_122 : Snd MX6_init 122 (xPfR 125 6 30) := snd_pfRF (M := MX6_init) (pc := 122) (C0 := RX6) (T0 := TX6) (N := 32) dX6_init_122 rfl tbX6 tyX6 tyX6_ok nmX6 (by decide) w458 rfl rfl rfl (tyX6_ok 30 (by decide)) (fun _ => rfl) (fun _ => rfl)
theorem sX6_init_125 : Snd MX6_init 125 (xLdA 126 0) := snd_aload_n (M := MX6_init) (pc := 125) dX6_init_125
theorem sX6_init_126 : Snd MX6_init 126 (xK 128 (nI 64)) := snd_bipush (M := MX6_init) (pc := 126) dX6_init_126 (by decide +kernel)
theorem sX6_init_130 : Snd MX6_init 130 (xPfR 133 6 31) := snd_pfRF (M := MX6_init) (pc := 130) (C0 := RX6) (T0 := TX6) (N := 32) dX6_init_130 rfl tbX6 tyX6 tyX6_ok nmX6 (by decide) w459 rfl rfl rfl (tyX6_ok 31 (by decide)) (fun _ => rfl) (fun _ => rfl)
theorem sX6_init_133 : Snd MX6_init 133 (xLdA 134 0) := snd_aload_n (M := MX6_init) (pc := 133) dX6_init_133
theorem sX6_init_134 : Snd MX6_init 134 (xK 136 (nI 24)) := snd_bipush (M := MX6_init) (pc := 134) dX6_init_134 (by decide +kernel)
theorem sX6_init_136 : Snd MX6_init 136 (xPfI 139 6 21) := snd_pfI (M := MX6_init) (pc := 136) (C0 := RX6) (T0 := TX6) (N := 32) dX6_init_136 rfl tbX6 tyX6 tyX6_ok nmX6 (by decide) w460 rfl (by decide +kernel)
theorem sX6_init_139 : Snd MX6_init 139 (xLdA 140 0) := snd_aload_n (M := MX6_init) (pc := 139) dX6_init_139
theorem sX6_init_140 : Snd MX6_init 140 (xK 142 (nI 6)) := snd_bipush (M := MX6_init) (pc := 140) dX6_init_140 (by decide +kernel)
theorem sX6_init_142 : Snd MX6_init 142 (xPfI 145 6 22) := snd_pfI (M := MX6_init) (pc := 142) (C0 := RX6) (T0 := TX6) (N := 32) dX6_init_142 rfl tbX6 tyX6 tyX6_ok nmX6 (by decide) w461 rfl (by decide +kernel)
theorem sX6_init_145 : Snd MX6_init 145 (xLdA 146 0) := snd_aload_n (M := MX6_init) (pc := 145) dX6_init_145
theorem sX6_init_146 : Snd MX6_init 146 (xK 147 (nI 0)) := snd_iconst (M := MX6_init) (pc := 146) dX6_init_146 (by decide +kernel)
theorem sX6_init_147 : Snd MX6_init 147 (xK 149 (nI 6)) := snd_bipush (M := MX6_init) (pc := 147) dX6_init_147 (by decide +kernel)
theorem sX6_init_149 : Snd MX6_init 149 (xK 150 (nI 4)) := snd_iconst (M := MX6_init) (pc := 149) dX6_init_149 (by decide +kernel)
theorem sX6_init_150 : Snd MX6_init 150 (xCallV MX6_addsThing 6 3 153) := snd_callV (M := MX6_init) (pc := 150) (n := 3) dX6_init_150 rfl w464 w465 w466 ⟨w462, w463, ⟨by decide, by decide, by decide +kernel⟩, by decide⟩ ⟨rfl, rfl⟩
theorem sX6_init_153 : Snd MX6_init 153 (xLdA 154 0) := snd_aload_n (M := MX6_init) (pc := 153) dX6_init_153
theorem sX6_init_154 : Snd MX6_init 154 (xK 155 (nI 1)) := snd_iconst (M := MX6_init) (pc := 154) dX6_init_154 (by decide +kernel)
theorem sX6_init_155 : Snd MX6_init 155 (xK 156 (nI 5)) := snd_iconst (M := MX6_init) (pc := 155) dX6_init_155 (by decide +kernel)
theorem sX6_init_156 : Snd MX6_init 156 (xK 157 (nI 2)) := snd_iconst (M := MX6_init) (pc := 156) dX6_init_156 (by decide +kernel)
theorem sX6_init_157 : Snd MX6_init 157 (xCallV MX6_addsThing 6 3 160) := snd_callV (M := MX6_init) (pc := 157) (n := 3) dX6_init_157 rfl w464 w465 w466 ⟨w462, w463, ⟨by decide, by decide, by decide +kernel⟩, by decide⟩ ⟨rfl, rfl⟩
theorem sX6_init_160 : Snd MX6_init 160 (xLdA 161 0) := snd_aload_n (M := MX6_init) (pc := 160) dX6_init_160
theorem sX6_init_161 : Snd MX6_init 161 (xK 162 (nI 2)) := snd_iconst (M := MX6_init) (pc := 161) dX6_init_161 (by decide +kernel)
theorem sX6_init_162 : Snd MX6_init 162 (xK 163 (nI 4)) := snd_iconst (M := MX6_init) (pc := 162) dX6_init_162 (by decide +kernel)
theorem sX6_init_163 : Snd MX6_init 163 (xK 164 (nI 3)) := snd_iconst (M := MX6_init) (pc := 163) dX6_init_163 (by decide +kernel)
theorem sX6_init_164 : Snd MX6_init 164 (xCallV MX6_addsThing 6 3 167) := snd_callV (M := MX6_init) (pc := 164) (n := 3) dX6_init_164 rfl w464 w465 w466 ⟨w462, w463, ⟨by decide, by decide, by decide +kernel⟩, by decide⟩ ⟨rfl, rfl⟩
theorem sX6_init_167 : Snd MX6_init 167 (xLdA 168 0) := snd_aload_n (M := MX6_init) (pc := 167) dX6_init_167
theorem sX6_init_168 : Snd MX6_init 168 (xK 169 (nI 3)) := snd_iconst (M := MX6_init) (pc := 168) dX6_init_168 (by decide +kernel)
theorem sX6_init_169 : Snd MX6_init 169 (xK 171 (nI 8)) := snd_bipush (M := MX6_init) (pc := 169) dX6_init_169 (by decide +kernel)
theorem sX6_init_171 : Snd MX6_init 171 (xK 172 (nI 5)) := snd_iconst (M := MX6_init) (pc := 171) dX6_init_171 (by decide +kernel)
theorem sX6_init_172 : Snd MX6_init 172 (xCallV MX6_addsThing 6 3 175) := snd_callV (M := MX6_init) (pc := 172) (n := 3) dX6_init_172 rfl w464 w465 w466 ⟨w462, w463, ⟨by decide, by decide, by decide +kernel⟩, by decide⟩ ⟨rfl, rfl⟩
theorem sX6_init_175 : Snd MX6_init 175 (xLdA 176 0) := snd_aload_n (M := MX6_init) (pc := 175) dX6_init_175
theorem sX6_init_176 : Snd MX6_init 176 (xK 177 (nI 0)) := snd_iconst (M := MX6_init) (pc := 176) dX6_init_176 (by decide +kernel)
theorem sX6_init_177 : Snd MX6_init 177 (xK 179 (nI 9)) := snd_bipush (M := MX6_init) (pc := 177) dX6_init_177 (by decide +kernel)
theorem sX6_init_179 : Snd MX6_init 179 (xK 181 (nI 7)) := snd_bipush (M := MX6_init) (pc := 179) dX6_init_179 (by decide +kernel)
theorem sX6_init_181 : Snd MX6_init 181 (xCallV MX6_addsThing 6 3 184) := snd_callV (M := MX6_init) (pc := 181) (n := 3) dX6_init_181 rfl w464 w465 w466 ⟨w462, w463, ⟨by decide, by decide, by decide +kernel⟩, by decide⟩ ⟨rfl, rfl⟩
theorem sX6_init_184 : Snd MX6_init 184 (xLdA 185 0) := snd_aload_n (M := MX6_init) (pc := 184) dX6_init_184
theorem sX6_init_185 : Snd MX6_init 185 (xK 186 (nI 2)) := snd_iconst (M := MX6_init) (pc := 185) dX6_init_185 (by decide +kernel)
theorem sX6_init_186 : Snd MX6_init 186 (xK 187 (nI 3)) := snd_iconst (M := MX6_init) (pc := 186) dX6_init_186 (by decide +kernel)
theorem sX6_init_187 : Snd MX6_init 187 (xK 188 (nI 1)) := snd_iconst (M := MX6_init) (pc := 187) dX6_init_187 (by decide +kernel)
theorem sX6_init_188 : Snd MX6_init 188 (xCallV MX6_addsThing 6 3 191) := snd_callV (M := MX6_init) (pc := 188) (n := 3) dX6_init_188 rfl w464 w465 w466 ⟨w462, w463, ⟨by decide, by decide, by decide +kernel⟩, by decide⟩ ⟨rfl, rfl⟩
theorem sX6_init_191 : Snd MX6_init 191 (xLdA 192 0) := snd_aload_n (M := MX6_init) (pc := 191) dX6_init_191
theorem sX6_init_192 : Snd MX6_init 192 (xK 193 (nI 5)) := snd_iconst (M := MX6_init) (pc := 192) dX6_init_192 (by decide +kernel)
theorem sX6_init_193 : Snd MX6_init 193 (xK 195 (nI 30)) := snd_bipush (M := MX6_init) (pc := 193) dX6_init_193 (by decide +kernel)
theorem sX6_init_195 : Snd MX6_init 195 (xK 197 (nI 10)) := snd_bipush (M := MX6_init) (pc := 195) dX6_init_195 (by decide +kernel)
theorem sX6_init_197 : Snd MX6_init 197 (xCallV MX6_addsLife 6 3 200) := snd_callV (M := MX6_init) (pc := 197) (n := 3) dX6_init_197 rfl w468 w469 w470 ⟨w462, w467, ⟨by decide, by decide, by decide +kernel⟩, by decide⟩ ⟨rfl, rfl⟩
theorem sX6_init_200 : Snd MX6_init 200 (xLdA 201 0) := snd_aload_n (M := MX6_init) (pc := 200) dX6_init_200
theorem sX6_init_201 : Snd MX6_init 201 (xK 202 (nI 3)) := snd_iconst (M := MX6_init) (pc := 201) dX6_init_201 (by decide +kernel)
theorem sX6_init_202 : Snd MX6_init 202 (xK 204 (nI 50)) := snd_bipush (M := MX6_init) (pc := 202) dX6_init_202 (by decide +kernel)
theorem sX6_init_204 : Snd MX6_init 204 (xK 205 (nI 5)) := snd_iconst (M := MX6_init) (pc := 204) dX6_init_204 (by decide +kernel)
theorem sX6_init_205 : Snd MX6_init 205 (xCallV MX6_addsLife 6 3 208) := snd_callV (M := MX6_init) (pc := 205) (n := 3) dX6_init_205 rfl w468 w469 w470 ⟨w462, w467, ⟨by decide, by decide, by decide +kernel⟩, by decide⟩ ⟨rfl, rfl⟩
theorem sX6_init_208 : Snd MX6_init 208 (xLdA 209 0) := snd_aload_n (M := MX6_init) (pc := 208) dX6_init_208
theorem sX6_init_209 : Snd MX6_init 209 (xK 210 (nI 2)) := snd_iconst (M := MX6_init) (pc := 209) dX6_init_209 (by decide +kernel)
theorem sX6_init_210 : Snd MX6_init 210 (xK 212 (nI 20)) := snd_bipush (M := MX6_init) (pc := 210) dX6_init_210 (by decide +kernel)
theorem sX6_init_212 : Snd MX6_init 212 (xK 214 (nI 40)) := snd_bipush (M := MX6_init) (pc := 212) dX6_init_212 (by decide +kernel)
theorem sX6_init_214 : Snd MX6_init 214 (xCallV MX6_addsLife 6 3 217) := snd_callV (M := MX6_init) (pc := 214) (n := 3) dX6_init_214 rfl w468 w469 w470 ⟨w462, w467, ⟨by decide, by decide, by decide +kernel⟩, by decide⟩ ⟨rfl, rfl⟩
theorem sX6_init_217 : Snd MX6_init 217 (xLdA 218 0) := snd_aload_n (M := MX6_init) (pc := 217) dX6_init_217
theorem sX6_init_218 : Snd MX6_init 218 (xK 219 (nI 0)) := snd_iconst (M := MX6_init) (pc := 218) dX6_init_218 (by decide +kernel)
theorem sX6_init_219 : Snd MX6_init 219 (xK 221 (nI 60)) := snd_bipush (M := MX6_init) (pc := 219) dX6_init_219 (by decide +kernel)
theorem sX6_init_221 : Snd MX6_init 221 (xK 223 (nI 60)) := snd_bipush (M := MX6_init) (pc := 221) dX6_init_221 (by decide +kernel)
theorem sX6_init_223 : Snd MX6_init 223 (xCallV MX6_addsLife 6 3 226) := snd_callV (M := MX6_init) (pc := 223) (n := 3) dX6_init_223 rfl w468 w469 w470 ⟨w462, w467, ⟨by decide, by decide, by decide +kernel⟩, by decide⟩ ⟨rfl, rfl⟩
theorem sX6_init_226 : Snd MX6_init 226 (xLdA 227 0) := snd_aload_n (M := MX6_init) (pc := 226) dX6_init_226
theorem sX6_init_227 : Snd MX6_init 227 (xGf 230 6 27) := snd_gf (M := MX6_init) (pc := 227) (C0 := RX6) (T0 := TX6) (N := 32) dX6_init_227 rfl tbX6 (by decide) w455
theorem sX6_init_230 : Snd MX6_init 230 (xK 231 (nI 0)) := snd_iconst (M := MX6_init) (pc := 230) dX6_init_230 (by decide +kernel)
theorem sX6_init_231 : Snd MX6_init 231 (xK 232 (nI 5)) := snd_iconst (M := MX6_init) (pc := 231) dX6_init_231 (by decide +kernel)
theorem sX6_init_232 : Snd MX6_init 232 (xiastore 233) := snd_iastore (M := MX6_init) (pc := 232) dX6_init_232
theorem sX6_init_233 : Snd MX6_init 233 (xLdA 234 0) := snd_aload_n (M := MX6_init) (pc := 233) dX6_init_233
theorem sX6_init_234 : Snd MX6_init 234 (xGf 237 6 27) := snd_gf (M := MX6_init) (pc := 234) (C0 := RX6) (T0 := TX6) (N := 32) dX6_init_234 rfl tbX6 (by decide) w455
theorem sX6_init_237 : Snd MX6_init 237 (xK 238 (nI 1)) := snd_iconst (M := MX6_init) (pc := 237) dX6_init_237 (by decide +kernel)
theorem sX6_init_238 : Snd MX6_init 238 (xK 240 (nI 25)) := snd_bipush (M := MX6_init) (pc := 238) dX6_init_238 (by decide +kernel)
theorem sX6_init_240 : Snd MX6_init 240 (xiastore 241) := snd_iastore (M := MX6_init) (pc := 240) dX6_init_240
theorem sX6_init_241 : Snd MX6_init 241 (xLdA 242 0) := snd_aload_n (M := MX6_init) (pc := 241) dX6_init_241
theorem sX6_init_242 : Snd MX6_init 242 (xGf 245 6 27) := snd_gf (M := MX6_init) (pc := 242) (C0 := RX6) (T0 := TX6) (N := 32) dX6_init_242 rfl tbX6 (by decide) w455
theorem sX6_init_245 : Snd MX6_init 245 (xK 246 (nI 2)) := snd_iconst (M := MX6_init) (pc := 245) dX6_init_245 (by decide +kernel)
theorem sX6_init_246 : Snd MX6_init 246 (xK 248 (nI 34)) := snd_bipush (M := MX6_init) (pc := 246) dX6_init_246 (by decide +kernel)
theorem sX6_init_248 : Snd MX6_init 248 (xiastore 249) := snd_iastore (M := MX6_init) (pc := 248) dX6_init_248
theorem sX6_init_249 : Snd MX6_init 249 (xLdA 250 0) := snd_aload_n (M := MX6_init) (pc := 249) dX6_init_249
theorem sX6_init_250 : Snd MX6_init 250 (xGf 253 6 27) := snd_gf (M := MX6_init) (pc := 250) (C0 := RX6) (T0 := TX6) (N := 32) dX6_init_250 rfl tbX6 (by decide) w455
theorem sX6_init_253 : Snd MX6_init 253 (xK 254 (nI 3)) := snd_iconst (M := MX6_init) (pc := 253) dX6_init_253 (by decide +kernel)
theorem sX6_init_254 : Snd MX6_init 254 (xK 256 (nI 56)) := snd_bipush (M := MX6_init) (pc := 254) dX6_init_254 (by decide +kernel)
theorem sX6_init_256 : Snd MX6_init 256 (xiastore 257) := snd_iastore (M := MX6_init) (pc := 256) dX6_init_256
theorem sX6_init_257 : Snd MX6_init 257 (xLdA 258 0) := snd_aload_n (M := MX6_init) (pc := 257) dX6_init_257
theorem sX6_init_258 : Snd MX6_init 258 (xCallV MX6_begins 6 0 261) := snd_callV (M := MX6_init) (pc := 258) (n := 0) dX6_init_258 rfl w472 w473 w474 ⟨w462, w471, ⟨by decide, by decide, by decide +kernel⟩, by decide⟩ ⟨rfl, rfl⟩
theorem sX6_init_261 : Snd MX6_init 261 (xRetV) := snd_vret (M := MX6_init) (pc := 261) dX6_init_261 rfl
theorem VX6_init : Valid MX6_init LX6_init := va_lid sX6_init_0 (va_lid sX6_init_1 (va_lid sX6_init_4 (va_lid sX6_init_5 (va_lid sX6_init_9 (va_lid sX6_init_12 (va_lid sX6_init_13 (va_lid sX6_init_17 (va_lid sX6_init_20 (va_lid sX6_init_21 (va_lid sX6_init_25 (va_lid sX6_init_28 (va_lid sX6_init_29 (va_lid sX6_init_33 (va_lid sX6_init_36 (va_lid sX6_init_37 (va_lid sX6_init_41 (va_lid sX6_init_44 (va_lid sX6_init_45 (va_lid sX6_init_49 (va_lid sX6_init_52 (va_lid sX6_init_53 (va_lid sX6_init_57 (va_lid sX6_init_60 (va_lid sX6_init_61 (va_lid sX6_init_65 (va_lid sX6_init_68 (va_lid sX6_init_69 (va_lid sX6_init_74 (va_lid sX6_init_77 (va_lid sX6_init_78 (va_lid sX6_init_82 (va_lid sX6_init_85 (va_lid sX6_init_86 (va_lid sX6_init_90 (va_lid sX6_init_93 (va_lid sX6_init_94 (va_lid sX6_init_98 (va_lid sX6_init_101 (va_lid sX6_init_102 (va_lid sX6_init_106 (va_lid sX6_init_109 (va_lid sX6_init_110 (va_lid sX6_init_114 (va_lid sX6_init_117 (va_lid sX6_init_118 (va_lid sX6_init_122 (va_lid sX6_init_125 (va_lid sX6_init_126 (va_lid sX6_init_130 (va_lid sX6_init_133 (va_lid sX6_init_134 (va_lid sX6_init_136 (va_lid sX6_init_139 (va_lid sX6_init_140 (va_lid sX6_init_142 (va_lid sX6_init_145 (va_lid sX6_init_146 (va_lid sX6_init_147 (va_lid sX6_init_149 (va_lid sX6_init_150 (va_lid sX6_init_153 (va_lid sX6_init_154 (va_lid sX6_init_155 (va_lid sX6_init_156 (va_lid sX6_init_157 (va_lid sX6_init_160 (va_lid sX6_init_161 (va_lid sX6_init_162 (va_lid sX6_init_163 (va_lid sX6_init_164 (va_lid sX6_init_167 (va_lid sX6_init_168 (va_lid sX6_init_169 (va_lid sX6_init_171 (va_lid sX6_init_172 (va_lid sX6_init_175 (va_lid sX6_init_176 (va_lid sX6_init_177 (va_lid sX6_init_179 (va_lid sX6_init_181 (va_lid sX6_init_184 (va_lid sX6_init_185 (va_lid sX6_init_186 (va_lid sX6_init_187 (va_lid sX6_init_188 (va_lid sX6_init_191 (va_lid sX6_init_192 (va_lid sX6_init_193 (va_lid sX6_init_195 (va_lid sX6_init_197 (va_lid sX6_init_200 (va_lid sX6_init_201 (va_lid sX6_init_202 (va_lid sX6_init_204 (va_lid sX6_init_205 (va_lid sX6_init_208 (va_lid sX6_init_209 (va_lid sX6_init_210 (va_lid sX6_init_212 (va_lid sX6_init_214 (va_lid sX6_init_217 (va_lid sX6_init_218 (va_lid sX6_init_219 (va_lid sX6_init_221 (va_lid sX6_init_223 (va_lid sX6_init_226 (va_lid sX6_init_227 (va_lid sX6_init_230 (va_lid sX6_init_231 (va_lid sX6_init_232 (va_lid sX6_init_233 (va_lid sX6_init_234 (va_lid sX6_init_237 (va_lid sX6_init_238 (va_lid sX6_init_240 (va_lid sX6_init_241 (va_lid sX6_init_242 (va_lid sX6_init_245 (va_lid sX6_init_246 (va_lid sX6_init_248 (va_lid sX6_init_249 (va_lid sX6_init_250 (va_lid sX6_init_253 (va_lid sX6_init_254 (va_lid sX6_init_256 (va_lid sX6_init_257 (va_lid sX6_init_258 (va_lid sX6_init_261 (va_lid0)))))))))))))))))))))))))))))))))))))))))))))))))))))))))))))))))))))))))))))))))))))))))))))))))))))))))))))))))))))))))))))))))
theorem kX6_init_0 : lk LX6_init 0 = some (xLdA 1 0) := rfl
theorem kX6_init_1 : lk LX6_init 1 = some (xObj 4) := rfl
theorem kX6_init_4 : lk LX6_init 4 = some (xLdA 5 0) := rfl
theorem kX6_init_5 : lk LX6_init 5 = some (xK 7 (nI 76)) := rfl
theorem kX6_init_9 : lk LX6_init 9 = some (xPfR 12 6 0) := rfl
theorem kX6_init_12 : lk LX6_init 12 = some (xLdA 13 0) := rfl
theorem kX6_init_13 : lk LX6_init 13 = some (xK 15 (nI 8)) := rfl
theorem kX6_init_17 : lk LX6_init 17 = some (xPfR 20 6 6) := rfl
theorem kX6_init_20 : lk LX6_init 20 = some (xLdA 21 0) := rfl
theorem kX6_init_21 : lk LX6_init 21 = some (xK 23 (nI 8)) := rfl
theorem kX6_init_25 : lk LX6_init 25 = some (xPfR 28 6 7) := rfl
theorem kX6_init_28 : lk LX6_init 28 = some (xLdA 29 0) := rfl
theorem kX6_init_29 : lk LX6_init 29 = some (xK 31 (nI 8)) := rfl
theorem kX6_init_33 : lk LX6_init 33 = some (xPfR 36 6 8) := rfl
theorem kX6_init_36 : lk LX6_init 36 = some (xLdA 37 0) := rfl
theorem kX6_init_37 : lk LX6_init 37 = some (xK 39 (nI 6)) := rfl
theorem kX6_init_41 : lk LX6_init 41 = some (xPfR 44 6 10) := rfl
theorem kX6_init_44 : lk LX6_init 44 = some (xLdA 45 0) := rfl
theorem kX6_init_45 : lk LX6_init 45 = some (xK 47 (nI 6)) := rfl
theorem kX6_init_49 : lk LX6_init 49 = some (xPfR 52 6 11) := rfl
theorem kX6_init_52 : lk LX6_init 52 = some (xLdA 53 0) := rfl
theorem kX6_init_53 : lk LX6_init 53 = some (xK 55 (nI 6)) := rfl
theorem kX6_init_57 : lk LX6_init 57 = some (xPfR 60 6 12) := rfl
theorem kX6_init_60 : lk LX6_init 60 = some (xLdA 61 0) := rfl
theorem kX6_init_61 : lk LX6_init 61 = some (xK 63 (nI 6)) := rfl
theorem kX6_init_65 : lk LX6_init 65 = some (xPfR 68 6 13) := rfl
theorem kX6_init_68 : lk LX6_init 68 = some (xLdA 69 0) := rfl
theorem kX6_init_69 : lk LX6_init 69 = some (xK 72 (nI 200)) := rfl
theorem kX6_init_74 : lk LX6_init 74 = some (xPfR 77 6 17) := rfl
theorem kX6_init_77 : lk LX6_init 77 = some (xLdA 78 0) := rfl
theorem kX6_init_78 : lk LX6_init 78 = some (xK 80 (nI 24)) := rfl
theorem kX6_init_82 : lk LX6_init 82 = some (xPfR 85 6 24) := rfl
theorem kX6_init_85 : lk LX6_init 85 = some (xLdA 86 0) := rfl
theorem kX6_init_86 : lk LX6_init 86 = some (xK 88 (nI 18)) := rfl
theorem kX6_init_90 : lk LX6_init 90 = some (xPfR 93 6 26) := rfl
theorem kX6_init_93 : lk LX6_init 93 = some (xLdA 94 0) := rfl
theorem kX6_init_94 : lk LX6_init 94 = some (xK 96 (nI 6)) := rfl
theorem kX6_init_98 : lk LX6_init 98 = some (xPfR 101 6 27) := rfl
theorem kX6_init_101 : lk LX6_init 101 = some (xLdA 102 0) := rfl
theorem kX6_init_102 : lk LX6_init 102 = some (xK 104 (nI 7)) := rfl
theorem kX6_init_106 : lk LX6_init 106 = some (xPfR 109 6 28) := rfl
theorem kX6_init_109 : lk LX6_init 109 = some (xLdA 110 0) := rfl
theorem kX6_init_110 : lk LX6_init 110 = some (xK 112 (nI 6)) := rfl
theorem kX6_init_114 : lk LX6_init 114 = some (xPfR 117 6 29) := rfl
theorem kX6_init_117 : lk LX6_init 117 = some (xLdA 118 0) := rfl
theorem kX6_init_118 : lk LX6_init 118 = some (xK 120 (nI 64)) := rfl
theorem kX6_init_122 : lk LX6_init 122 = some (xPfR 125 6 30) := rfl
theorem kX6_init_125 : lk LX6_init 125 = some (xLdA 126 0) := rfl
theorem kX6_init_126 : lk LX6_init 126 = some (xK 128 (nI 64)) := rfl
theorem kX6_init_130 : lk LX6_init 130 = some (xPfR 133 6 31) := rfl
theorem kX6_init_133 : lk LX6_init 133 = some (xLdA 134 0) := rfl
theorem kX6_init_134 : lk LX6_init 134 = some (xK 136 (nI 24)) := rfl
theorem kX6_init_136 : lk LX6_init 136 = some (xPfI 139 6 21) := rfl
theorem kX6_init_139 : lk LX6_init 139 = some (xLdA 140 0) := rfl
theorem kX6_init_140 : lk LX6_init 140 = some (xK 142 (nI 6)) := rfl
theorem kX6_init_142 : lk LX6_init 142 = some (xPfI 145 6 22) := rfl
theorem kX6_init_145 : lk LX6_init 145 = some (xLdA 146 0) := rfl
theorem kX6_init_146 : lk LX6_init 146 = some (xK 147 (nI 0)) := rfl
theorem kX6_init_147 : lk LX6_init 147 = some (xK 149 (nI 6)) := rfl
theorem kX6_init_149 : lk LX6_init 149 = some (xK 150 (nI 4)) := rfl
theorem kX6_init_150 : lk LX6_init 150 = some (xCallV MX6_addsThing 6 3 153) := rfl
theorem kX6_init_153 : lk LX6_init 153 = some (xLdA 154 0) := rfl
theorem kX6_init_154 : lk LX6_init 154 = some (xK 155 (nI 1)) := rfl
theorem kX6_init_155 : lk LX6_init 155 = some (xK 156 (nI 5)) := rfl
theorem kX6_init_156 : lk LX6_init 156 = some (xK 157 (nI 2)) := rfl
theorem kX6_init_157 : lk LX6_init 157 = some (xCallV MX6_addsThing 6 3 160) := rfl
theorem kX6_init_160 : lk LX6_init 160 = some (xLdA 161 0) := rfl
theorem kX6_init_161 : lk LX6_init 161 = some (xK 162 (nI 2)) := rfl
theorem kX6_init_162 : lk LX6_init 162 = some (xK 163 (nI 4)) := rfl
theorem kX6_init_163 : lk LX6_init 163 = some (xK 164 (nI 3)) := rfl
theorem kX6_init_164 : lk LX6_init 164 = some (xCallV MX6_addsThing 6 3 167) := rfl
theorem kX6_init_167 : lk LX6_init 167 = some (xLdA 168 0) := rfl
theorem kX6_init_168 : lk LX6_init 168 = some (xK 169 (nI 3)) := rfl
theorem kX6_init_169 : lk LX6_init 169 = some (xK 171 (nI 8)) := rfl
theorem kX6_init_171 : lk LX6_init 171 = some (xK 172 (nI 5)) := rfl
theorem kX6_init_172 : lk LX6_init 172 = some (xCallV MX6_addsThing 6 3 175) := rfl
theorem kX6_init_175 : lk LX6_init 175 = some (xLdA 176 0) := rfl
theorem kX6_init_176 : lk LX6_init 176 = some (xK 177 (nI 0)) := rfl
theorem kX6_init_177 : lk LX6_init 177 = some (xK 179 (nI 9)) := rfl
theorem kX6_init_179 : lk LX6_init 179 = some (xK 181 (nI 7)) := rfl
set_option maxRecDepth 20000 in
theorem kX6_init_181 : lk LX6_init 181 = some (xCallV MX6_addsThing 6 3 184) := rfl
set_option maxRecDepth 20000 in
theorem kX6_init_184 : lk LX6_init 184 = some (xLdA 185 0) := rfl
set_option maxRecDepth 20000 in
theorem kX6_init_185 : lk LX6_init 185 = some (xK 186 (nI 2)) := rfl
set_option maxRecDepth 20000 in
theorem kX6_init_186 : lk LX6_init 186 = some (xK 187 (nI 3)) := rfl
set_option maxRecDepth 20000 in
theorem kX6_init_187 : lk LX6_init 187 = some (xK 188 (nI 1)) := rfl
set_option maxRecDepth 20000 in
theorem kX6_init_188 : lk LX6_init 188 = some (xCallV MX6_addsThing 6 3 191) := rfl
set_option maxRecDepth 20000 in
theorem kX6_init_191 : lk LX6_init 191 = some (xLdA 192 0) := rfl
set_option maxRecDepth 20000 in
theorem kX6_init_192 : lk LX6_init 192 = some (xK 193 (nI 5)) := rfl
set_option maxRecDepth 20000 in
theorem kX6_init_193 : lk LX6_init 193 = some (xK 195 (nI 30)) := rfl
set_option maxRecDepth 20000 in
theorem kX6_init_195 : lk LX6_init 195 = some (xK 197 (nI 10)) := rfl
set_option maxRecDepth 20000 in
theorem kX6_init_197 : lk LX6_init 197 = some (xCallV MX6_addsLife 6 3 200) := rfl
set_option maxRecDepth 20000 in
theorem kX6_init_200 : lk LX6_init 200 = some (xLdA 201 0) := rfl
set_option maxRecDepth 20000 in
theorem kX6_init_201 : lk LX6_init 201 = some (xK 202 (nI 3)) := rfl
set_option maxRecDepth 20000 in
theorem kX6_init_202 : lk LX6_init 202 = some (xK 204 (nI 50)) := rfl
set_option maxRecDepth 20000 in
theorem kX6_init_204 : lk LX6_init 204 = some (xK 205 (nI 5)) := rfl
set_option maxRecDepth 20000 in
theorem kX6_init_205 : lk LX6_init 205 = some (xCallV MX6_addsLife 6 3 208) := rfl
set_option maxRecDepth 20000 in
theorem kX6_init_208 : lk LX6_init 208 = some (xLdA 209 0) := rfl
set_option maxRecDepth 20000 in
theorem kX6_init_209 : lk LX6_init 209 = some (xK 210 (nI 2)) := rfl
set_option maxRecDepth 20000 in
theorem kX6_init_210 : lk LX6_init 210 = some (xK 212 (nI 20)) := rfl
set_option maxRecDepth 20000 in
theorem kX6_init_212 : lk LX6_init 212 = some (xK 214 (nI 40)) := rfl
set_option maxRecDepth 20000 in
theorem kX6_init_214 : lk LX6_init 214 = some (xCallV MX6_addsLife 6 3 217) := rfl
set_option maxRecDepth 20000 in
theorem kX6_init_217 : lk LX6_init 217 = some (xLdA 218 0) := rfl
set_option maxRecDepth 20000 in
theorem kX6_init_218 : lk LX6_init 218 = some (xK 219 (nI 0)) := rfl
set_option maxRecDepth 20000 in
theorem kX6_init_219 : lk LX6_init 219 = some (xK 221 (nI 60)) := rfl
set_option maxRecDepth 20000 in
theorem kX6_init_221 : lk LX6_init 221 = some (xK 223 (nI 60)) := rfl
set_option maxRecDepth 20000 in
theorem kX6_init_223 : lk LX6_init 223 = some (xCallV MX6_addsLife 6 3 226) := rfl
set_option maxRecDepth 20000 in
theorem kX6_init_226 : lk LX6_init 226 = some (xLdA 227 0) := rfl
set_option maxRecDepth 20000 in
theorem kX6_init_227 : lk LX6_init 227 = some (xGf 230 6 27) := rfl
set_option maxRecDepth 20000 in
theorem kX6_init_230 : lk LX6_init 230 = some (xK 231 (nI 0)) := rfl
set_option maxRecDepth 20000 in
theorem kX6_init_231 : lk LX6_init 231 = some (xK 232 (nI 5)) := rfl
set_option maxRecDepth 20000 in
theorem kX6_init_232 : lk LX6_init 232 = some (xiastore 233) := rfl
set_option maxRecDepth 20000 in
theorem kX6_init_233 : lk LX6_init 233 = some (xLdA 234 0) := rfl
set_option maxRecDepth 20000 in
theorem kX6_init_234 : lk LX6_init 234 = some (xGf 237 6 27) := rfl
set_option maxRecDepth 20000 in
theorem kX6_init_237 : lk LX6_init 237 = some (xK 238 (nI 1)) := rfl
set_option maxRecDepth 20000 in
theorem kX6_init_238 : lk LX6_init 238 = some (xK 240 (nI 25)) := rfl
set_option maxRecDepth 20000 in
theorem kX6_init_240 : lk LX6_init 240 = some (xiastore 241) := rfl
set_option maxRecDepth 20000 in
theorem kX6_init_241 : lk LX6_init 241 = some (xLdA 242 0) := rfl
set_option maxRecDepth 20000 in
theorem kX6_init_242 : lk LX6_init 242 = some (xGf 245 6 27) := rfl
set_option maxRecDepth 20000 in
theorem kX6_init_245 : lk LX6_init 245 = some (xK 246 (nI 2)) := rfl
set_option maxRecDepth 20000 in
theorem kX6_init_246 : lk LX6_init 246 = some (xK 248 (nI 34)) := rfl
set_option maxRecDepth 20000 in
theorem kX6_init_248 : lk LX6_init 248 = some (xiastore 249) := rfl
set_option maxRecDepth 20000 in
theorem kX6_init_249 : lk LX6_init 249 = some (xLdA 250 0) := rfl
set_option maxRecDepth 20000 in
theorem kX6_init_250 : lk LX6_init 250 = some (xGf 253 6 27) := rfl
set_option maxRecDepth 20000 in
theorem kX6_init_253 : lk LX6_init 253 = some (xK 254 (nI 3)) := rfl
set_option maxRecDepth 20000 in
theorem kX6_init_254 : lk LX6_init 254 = some (xK 256 (nI 56)) := rfl
set_option maxRecDepth 20000 in
theorem kX6_init_256 : lk LX6_init 256 = some (xiastore 257) := rfl
set_option maxRecDepth 20000 in
theorem kX6_init_257 : lk LX6_init 257 = some (xLdA 258 0) := rfl
set_option maxRecDepth 20000 in
theorem kX6_init_258 : lk LX6_init 258 = some (xCallV MX6_begins 6 0 261) := rfl
set_option maxRecDepth 20000 in
theorem kX6_init_261 : lk LX6_init 261 = some (xRetV) := rfl
def LX6_in : List (Nat × XI) := [(0, xLdL 1 0),
  (1, xLdL 2 2),
  (2, xLcmp 3),
  (3, xZ_lt 17 6),
  (6, xLdL 7 0),
  (7, xLdL 9 4),
  (9, xLcmp 10),
  (10, xZ_gt 17 13),
  (13, xK 14 (nI 1)),
  (14, xGo 18),
  (17, xK 18 (nI 0)),
  (18, xRetZ)]
theorem sX6_in_0 : Snd MX6_in 0 (xLdL 1 0) := snd_lload_n (M := MX6_in) (pc := 0) dX6_in_0
theorem sX6_in_1 : Snd MX6_in 1 (xLdL 2 2) := snd_lload_n (M := MX6_in) (pc := 1) dX6_in_1
theorem sX6_in_2 : Snd MX6_in 2 (xLcmp 3) := snd_lcmp (M := MX6_in) (pc := 2) dX6_in_2
theorem sX6_in_3 : Snd MX6_in 3 (xZ_lt 17 6) := snd_if_lt (M := MX6_in) (pc := 3) dX6_in_3 (by decide)
theorem sX6_in_6 : Snd MX6_in 6 (xLdL 7 0) := snd_lload_n (M := MX6_in) (pc := 6) dX6_in_6
theorem sX6_in_7 : Snd MX6_in 7 (xLdL 9 4) := snd_lload (M := MX6_in) (pc := 7) dX6_in_7
theorem sX6_in_9 : Snd MX6_in 9 (xLcmp 10) := snd_lcmp (M := MX6_in) (pc := 9) dX6_in_9
theorem sX6_in_10 : Snd MX6_in 10 (xZ_gt 17 13) := snd_if_gt (M := MX6_in) (pc := 10) dX6_in_10 (by decide)
theorem sX6_in_13 : Snd MX6_in 13 (xK 14 (nI 1)) := snd_iconst (M := MX6_in) (pc := 13) dX6_in_13 (by decide +kernel)
theorem sX6_in_14 : Snd MX6_in 14 (xGo 18) := snd_goto (M := MX6_in) (pc := 14) dX6_in_14 (by decide)
theorem sX6_in_17 : Snd MX6_in 17 (xK 18 (nI 0)) := snd_iconst (M := MX6_in) (pc := 17) dX6_in_17 (by decide +kernel)
theorem sX6_in_18 : Snd MX6_in 18 (xRetZ) := snd_zret (M := MX6_in) (pc := 18) dX6_in_18 rfl
theorem VX6_in : Valid MX6_in LX6_in := va_lid sX6_in_0 (va_lid sX6_in_1 (va_lid sX6_in_2 (va_lid sX6_in_3 (va_lid sX6_in_6 (va_lid sX6_in_7 (va_lid sX6_in_9 (va_lid sX6_in_10 (va_lid sX6_in_13 (va_lid sX6_in_14 (va_lid sX6_in_17 (va_lid sX6_in_18 (va_lid0))))))))))))
theorem kX6_in_0 : lk LX6_in 0 = some (xLdL 1 0) := rfl
theorem kX6_in_1 : lk LX6_in 1 = some (xLdL 2 2) := rfl
theorem kX6_in_2 : lk LX6_in 2 = some (xLcmp 3) := rfl
theorem kX6_in_3 : lk LX6_in 3 = some (xZ_lt 17 6) := rfl
theorem kX6_in_6 : lk LX6_in 6 = some (xLdL 7 0) := rfl
theorem kX6_in_7 : lk LX6_in 7 = some (xLdL 9 4) := rfl
theorem kX6_in_9 : lk LX6_in 9 = some (xLcmp 10) := rfl
theorem kX6_in_10 : lk LX6_in 10 = some (xZ_gt 17 13) := rfl
theorem kX6_in_13 : lk LX6_in 13 = some (xK 14 (nI 1)) := rfl
theorem kX6_in_14 : lk LX6_in 14 = some (xGo 18) := rfl
theorem kX6_in_17 : lk LX6_in 17 = some (xK 18 (nI 0)) := rfl
theorem kX6_in_18 : lk LX6_in 18 = some (xRetZ) := rfl
def LX6_has : List (Nat × XI) := [(0, xLdI 1 0),
  (1, xLdI 2 1),
  (2, xBin 3 f_ishr),
  (3, xK 4 (nI 1)),
  (4, xBin 5 f_iand),
  (5, xK 6 (nI 1)),
  (6, xC_ne 13 9),
  (9, xK 10 (nI 1)),
  (10, xGo 14),
  (13, xK 14 (nI 0)),
  (14, xRetZ)]
theorem sX6_has_0 : Snd MX6_has 0 (xLdI 1 0) := snd_iload_n (M := MX6_has) (pc := 0) dX6_has_0
theorem sX6_has_1 : Snd MX6_has 1 (xLdI 2 1) := snd_iload_n (M := MX6_has) (pc := 1) dX6_has_1
theorem sX6_has_2 : Snd MX6_has 2 (xBin 3 f_ishr) := snd_ishr (M := MX6_has) (pc := 2) dX6_has_2
theorem sX6_has_3 : Snd MX6_has 3 (xK 4 (nI 1)) := snd_iconst (M := MX6_has) (pc := 3) dX6_has_3 (by decide +kernel)
theorem sX6_has_4 : Snd MX6_has 4 (xBin 5 f_iand) := snd_iand (M := MX6_has) (pc := 4) dX6_has_4
theorem sX6_has_5 : Snd MX6_has 5 (xK 6 (nI 1)) := snd_iconst (M := MX6_has) (pc := 5) dX6_has_5 (by decide +kernel)
theorem sX6_has_6 : Snd MX6_has 6 (xC_ne 13 9) := snd_icmp_ne (M := MX6_has) (pc := 6) dX6_has_6 (by decide)
theorem sX6_has_9 : Snd MX6_has 9 (xK 10 (nI 1)) := snd_iconst (M := MX6_has) (pc := 9) dX6_has_9 (by decide +kernel)
theorem sX6_has_10 : Snd MX6_has 10 (xGo 14) := snd_goto (M := MX6_has) (pc := 10) dX6_has_10 (by decide)
theorem sX6_has_13 : Snd MX6_has 13 (xK 14 (nI 0)) := snd_iconst (M := MX6_has) (pc := 13) dX6_has_13 (by decide +kernel)
theorem sX6_has_14 : Snd MX6_has 14 (xRetZ) := snd_zret (M := MX6_has) (pc := 14) dX6_has_14 rfl
theorem VX6_has : Valid MX6_has LX6_has := va_lid sX6_has_0 (va_lid sX6_has_1 (va_lid sX6_has_2 (va_lid sX6_has_3 (va_lid sX6_has_4 (va_lid sX6_has_5 (va_lid sX6_has_6 (va_lid sX6_has_9 (va_lid sX6_has_10 (va_lid sX6_has_13 (va_lid sX6_has_14 (va_lid0)))))))))))
theorem kX6_has_0 : lk LX6_has 0 = some (xLdI 1 0) := rfl
theorem kX6_has_1 : lk LX6_has 1 = some (xLdI 2 1) := rfl
theorem kX6_has_2 : lk LX6_has 2 = some (xBin 3 f_ishr) := rfl
theorem kX6_has_3 : lk LX6_has 3 = some (xK 4 (nI 1)) := rfl
theorem kX6_has_4 : lk LX6_has 4 = some (xBin 5 f_iand) := rfl
theorem kX6_has_5 : lk LX6_has 5 = some (xK 6 (nI 1)) := rfl
theorem kX6_has_6 : lk LX6_has 6 = some (xC_ne 13 9) := rfl
theorem kX6_has_9 : lk LX6_has 9 = some (xK 10 (nI 1)) := rfl
theorem kX6_has_10 : lk LX6_has 10 = some (xGo 14) := rfl
theorem kX6_has_13 : lk LX6_has 13 = some (xK 14 (nI 0)) := rfl
theorem kX6_has_14 : lk LX6_has 14 = some (xRetZ) := rfl
def LX6_ones : List (Nat × XI) := [(0, xK 1 (nI 0)),
  (1, xStI 2 1),
  (2, xK 3 (nI 0)),
  (3, xStI 4 2),
  (4, xLdI 5 2),
  (5, xK 7 (nI 8)),
  (7, xC_ge 24 10),
  (10, xLdI 11 1),
  (11, xLdI 12 0),
  (12, xLdI 13 2),
  (13, xBin 14 f_ishr),
  (14, xK 15 (nI 1)),
  (15, xBin 16 f_iand),
  (16, xBin 17 f_iadd),
  (17, xStI 18 1),
  (18, xInc 21 2 (nI 1)),
  (21, xGo 4),
  (24, xLdI 25 1),
  (25, xRet)]
theorem sX6_ones_0 : Snd MX6_ones 0 (xK 1 (nI 0)) := snd_iconst (M := MX6_ones) (pc := 0) dX6_ones_0 (by decide +kernel)
theorem sX6_ones_1 : Snd MX6_ones 1 (xStI 2 1) := snd_istore_n (M := MX6_ones) (pc := 1) dX6_ones_1 (by decide)
theorem sX6_ones_2 : Snd MX6_ones 2 (xK 3 (nI 0)) := snd_iconst (M := MX6_ones) (pc := 2) dX6_ones_2 (by decide +kernel)
theorem sX6_ones_3 : Snd MX6_ones 3 (xStI 4 2) := snd_istore_n (M := MX6_ones) (pc := 3) dX6_ones_3 (by decide)
theorem sX6_ones_4 : Snd MX6_ones 4 (xLdI 5 2) := snd_iload_n (M := MX6_ones) (pc := 4) dX6_ones_4
theorem sX6_ones_5 : Snd MX6_ones 5 (xK 7 (nI 8)) := snd_bipush (M := MX6_ones) (pc := 5) dX6_ones_5 (by decide +kernel)
theorem sX6_ones_7 : Snd MX6_ones 7 (xC_ge 24 10) := snd_icmp_ge (M := MX6_ones) (pc := 7) dX6_ones_7 (by decide)
theorem sX6_ones_10 : Snd MX6_ones 10 (xLdI 11 1) := snd_iload_n (M := MX6_ones) (pc := 10) dX6_ones_10
theorem sX6_ones_11 : Snd MX6_ones 11 (xLdI 12 0) := snd_iload_n (M := MX6_ones) (pc := 11) dX6_ones_11
theorem sX6_ones_12 : Snd MX6_ones 12 (xLdI 13 2) := snd_iload_n (M := MX6_ones) (pc := 12) dX6_ones_12
theorem sX6_ones_13 : Snd MX6_ones 13 (xBin 14 f_ishr) := snd_ishr (M := MX6_ones) (pc := 13) dX6_ones_13
theorem sX6_ones_14 : Snd MX6_ones 14 (xK 15 (nI 1)) := snd_iconst (M := MX6_ones) (pc := 14) dX6_ones_14 (by decide +kernel)
theorem sX6_ones_15 : Snd MX6_ones 15 (xBin 16 f_iand) := snd_iand (M := MX6_ones) (pc := 15) dX6_ones_15
theorem sX6_ones_16 : Snd MX6_ones 16 (xBin 17 f_iadd) := snd_iadd (M := MX6_ones) (pc := 16) dX6_ones_16
theorem sX6_ones_17 : Snd MX6_ones 17 (xStI 18 1) := snd_istore_n (M := MX6_ones) (pc := 17) dX6_ones_17 (by decide)
theorem sX6_ones_18 : Snd MX6_ones 18 (xInc 21 2 (nI 1)) := snd_iinc (M := MX6_ones) (pc := 18) dX6_ones_18 (by decide +kernel) (by decide)
theorem sX6_ones_21 : Snd MX6_ones 21 (xGo 4) := snd_goto (M := MX6_ones) (pc := 21) dX6_ones_21 (by decide)
theorem sX6_ones_24 : Snd MX6_ones 24 (xLdI 25 1) := snd_iload_n (M := MX6_ones) (pc := 24) dX6_ones_24
theorem sX6_ones_25 : Snd MX6_ones 25 (xRet) := snd_iret (M := MX6_ones) (pc := 25) dX6_ones_25 rfl
theorem VX6_ones : Valid MX6_ones LX6_ones := va_lid sX6_ones_0 (va_lid sX6_ones_1 (va_lid sX6_ones_2 (va_lid sX6_ones_3 (va_lid sX6_ones_4 (va_lid sX6_ones_5 (va_lid sX6_ones_7 (va_lid sX6_ones_10 (va_lid sX6_ones_11 (va_lid sX6_ones_12 (va_lid sX6_ones_13 (va_lid sX6_ones_14 (va_lid sX6_ones_15 (va_lid sX6_ones_16 (va_lid sX6_ones_17 (va_lid sX6_ones_18 (va_lid sX6_ones_21 (va_lid sX6_ones_24 (va_lid sX6_ones_25 (va_lid0)))))))))))))))))))
theorem kX6_ones_0 : lk LX6_ones 0 = some (xK 1 (nI 0)) := rfl
theorem kX6_ones_1 : lk LX6_ones 1 = some (xStI 2 1) := rfl
theorem kX6_ones_2 : lk LX6_ones 2 = some (xK 3 (nI 0)) := rfl
theorem kX6_ones_3 : lk LX6_ones 3 = some (xStI 4 2) := rfl
theorem kX6_ones_4 : lk LX6_ones 4 = some (xLdI 5 2) := rfl
theorem kX6_ones_5 : lk LX6_ones 5 = some (xK 7 (nI 8)) := rfl
theorem kX6_ones_7 : lk LX6_ones 7 = some (xC_ge 24 10) := rfl
theorem kX6_ones_10 : lk LX6_ones 10 = some (xLdI 11 1) := rfl
theorem kX6_ones_11 : lk LX6_ones 11 = some (xLdI 12 0) := rfl
theorem kX6_ones_12 : lk LX6_ones 12 = some (xLdI 13 2) := rfl
theorem kX6_ones_13 : lk LX6_ones 13 = some (xBin 14 f_ishr) := rfl
theorem kX6_ones_14 : lk LX6_ones 14 = some (xK 15 (nI 1)) := rfl
theorem kX6_ones_15 : lk LX6_ones 15 = some (xBin 16 f_iand) := rfl
theorem kX6_ones_16 : lk LX6_ones 16 = some (xBin 17 f_iadd) := rfl
theorem kX6_ones_17 : lk LX6_ones 17 = some (xStI 18 1) := rfl
theorem kX6_ones_18 : lk LX6_ones 18 = some (xInc 21 2 (nI 1)) := rfl
theorem kX6_ones_21 : lk LX6_ones 21 = some (xGo 4) := rfl
theorem kX6_ones_24 : lk LX6_ones 24 = some (xLdI 25 1) := rfl
theorem kX6_ones_25 : lk LX6_ones 25 = some (xRet) := rfl
def LX6_copy : List (Nat × XI) := [(0, xK 1 (nI 0)),
  (1, xStI 2 3),
  (2, xLdI 3 3),
  (3, xK 4 (nI 4)),
  (4, xC_ge 29 7),
  (7, xLdA 8 0),
  (8, xGf 11 6 0),
  (11, xLdI 12 2),
  (12, xLdI 13 3),
  (13, xBin 14 f_iadd),
  (14, xLdA 15 0),
  (15, xGf 18 6 0),
  (18, xLdI 19 1),
  (19, xLdI 20 3),
  (20, xBin 21 f_iadd),
  (21, xiaload 22),
  (22, xiastore 23),
  (23, xInc 26 3 (nI 1)),
  (26, xGo 2),
  (29, xRetV)]
theorem sX6_copy_0 : Snd MX6_copy 0 (xK 1 (nI 0)) := snd_iconst (M := MX6_copy) (pc := 0) dX6_copy_0 (by decide +kernel)
theorem sX6_copy_1 : Snd MX6_copy 1 (xStI 2 3) := snd_istore_n (M := MX6_copy) (pc := 1) dX6_copy_1 (by decide)
theorem sX6_copy_2 : Snd MX6_copy 2 (xLdI 3 3) := snd_iload_n (M := MX6_copy) (pc := 2) dX6_copy_2
theorem sX6_copy_3 : Snd MX6_copy 3 (xK 4 (nI 4)) := snd_iconst (M := MX6_copy) (pc := 3) dX6_copy_3 (by decide +kernel)
theorem sX6_copy_4 : Snd MX6_copy 4 (xC_ge 29 7) := snd_icmp_ge (M := MX6_copy) (pc := 4) dX6_copy_4 (by decide)
theorem sX6_copy_7 : Snd MX6_copy 7 (xLdA 8 0) := snd_aload_n (M := MX6_copy) (pc := 7) dX6_copy_7
theorem sX6_copy_8 : Snd MX6_copy 8 (xGf 11 6 0) := snd_gf (M := MX6_copy) (pc := 8) (C0 := RX6) (T0 := TX6) (N := 32) dX6_copy_8 rfl tbX6 (by decide) w444
theorem sX6_copy_11 : Snd MX6_copy 11 (xLdI 12 2) := snd_iload_n (M := MX6_copy) (pc := 11) dX6_copy_11
theorem sX6_copy_12 : Snd MX6_copy 12 (xLdI 13 3) := snd_iload_n (M := MX6_copy) (pc := 12) dX6_copy_12
theorem sX6_copy_13 : Snd MX6_copy 13 (xBin 14 f_iadd) := snd_iadd (M := MX6_copy) (pc := 13) dX6_copy_13
theorem sX6_copy_14 : Snd MX6_copy 14 (xLdA 15 0) := snd_aload_n (M := MX6_copy) (pc := 14) dX6_copy_14
theorem sX6_copy_15 : Snd MX6_copy 15 (xGf 18 6 0) := snd_gf (M := MX6_copy) (pc := 15) (C0 := RX6) (T0 := TX6) (N := 32) dX6_copy_15 rfl tbX6 (by decide) w444
theorem sX6_copy_18 : Snd MX6_copy 18 (xLdI 19 1) := snd_iload_n (M := MX6_copy) (pc := 18) dX6_copy_18
theorem sX6_copy_19 : Snd MX6_copy 19 (xLdI 20 3) := snd_iload_n (M := MX6_copy) (pc := 19) dX6_copy_19
theorem sX6_copy_20 : Snd MX6_copy 20 (xBin 21 f_iadd) := snd_iadd (M := MX6_copy) (pc := 20) dX6_copy_20
theorem sX6_copy_21 : Snd MX6_copy 21 (xiaload 22) := snd_iaload (M := MX6_copy) (pc := 21) dX6_copy_21
theorem sX6_copy_22 : Snd MX6_copy 22 (xiastore 23) := snd_iastore (M := MX6_copy) (pc := 22) dX6_copy_22
theorem sX6_copy_23 : Snd MX6_copy 23 (xInc 26 3 (nI 1)) := snd_iinc (M := MX6_copy) (pc := 23) dX6_copy_23 (by decide +kernel) (by decide)
theorem sX6_copy_26 : Snd MX6_copy 26 (xGo 2) := snd_goto (M := MX6_copy) (pc := 26) dX6_copy_26 (by decide)
theorem sX6_copy_29 : Snd MX6_copy 29 (xRetV) := snd_vret (M := MX6_copy) (pc := 29) dX6_copy_29 rfl
theorem VX6_copy : Valid MX6_copy LX6_copy := va_lid sX6_copy_0 (va_lid sX6_copy_1 (va_lid sX6_copy_2 (va_lid sX6_copy_3 (va_lid sX6_copy_4 (va_lid sX6_copy_7 (va_lid sX6_copy_8 (va_lid sX6_copy_11 (va_lid sX6_copy_12 (va_lid sX6_copy_13 (va_lid sX6_copy_14 (va_lid sX6_copy_15 (va_lid sX6_copy_18 (va_lid sX6_copy_19 (va_lid sX6_copy_20 (va_lid sX6_copy_21 (va_lid sX6_copy_22 (va_lid sX6_copy_23 (va_lid sX6_copy_26 (va_lid sX6_copy_29 (va_lid0))))))))))))))))))))
theorem kX6_copy_0 : lk LX6_copy 0 = some (xK 1 (nI 0)) := rfl
theorem kX6_copy_1 : lk LX6_copy 1 = some (xStI 2 3) := rfl
theorem kX6_copy_2 : lk LX6_copy 2 = some (xLdI 3 3) := rfl
theorem kX6_copy_3 : lk LX6_copy 3 = some (xK 4 (nI 4)) := rfl
theorem kX6_copy_4 : lk LX6_copy 4 = some (xC_ge 29 7) := rfl
theorem kX6_copy_7 : lk LX6_copy 7 = some (xLdA 8 0) := rfl
theorem kX6_copy_8 : lk LX6_copy 8 = some (xGf 11 6 0) := rfl
theorem kX6_copy_11 : lk LX6_copy 11 = some (xLdI 12 2) := rfl
theorem kX6_copy_12 : lk LX6_copy 12 = some (xLdI 13 3) := rfl
theorem kX6_copy_13 : lk LX6_copy 13 = some (xBin 14 f_iadd) := rfl
theorem kX6_copy_14 : lk LX6_copy 14 = some (xLdA 15 0) := rfl
theorem kX6_copy_15 : lk LX6_copy 15 = some (xGf 18 6 0) := rfl
theorem kX6_copy_18 : lk LX6_copy 18 = some (xLdI 19 1) := rfl
theorem kX6_copy_19 : lk LX6_copy 19 = some (xLdI 20 3) := rfl
theorem kX6_copy_20 : lk LX6_copy 20 = some (xBin 21 f_iadd) := rfl
theorem kX6_copy_21 : lk LX6_copy 21 = some (xiaload 22) := rfl
theorem kX6_copy_22 : lk LX6_copy 22 = some (xiastore 23) := rfl
theorem kX6_copy_23 : lk LX6_copy 23 = some (xInc 26 3 (nI 1)) := rfl
theorem kX6_copy_26 : lk LX6_copy 26 = some (xGo 2) := rfl
theorem kX6_copy_29 : lk LX6_copy 29 = some (xRetV) := rfl
def LX6_isThing : List (Nat × XI) := [(0, xLdI 1 1),
  (1, xI2l 2),
  (2, xKL 3 (lN 0)),
  (3, xLdA 4 0),
  (4, xGf 7 6 5),
  (7, xK 8 (nI 1)),
  (8, xBin 9 f_isub),
  (9, xI2l 10),
  (10, xCallS MX6_in 3 13),
  (13, xRetZ)]
theorem sX6_isThing_0 : Snd MX6_isThing 0 (xLdI 1 1) := snd_iload_n (M := MX6_isThing) (pc := 0) dX6_isThing_0
theorem sX6_isThing_1 : Snd MX6_isThing 1 (xI2l 2) := snd_i2l (M := MX6_isThing) (pc := 1) dX6_isThing_1
theorem sX6_isThing_2 : Snd MX6_isThing 2 (xKL 3 (lN 0)) := snd_lconst (M := MX6_isThing) (pc := 2) dX6_isThing_2 rfl
theorem sX6_isThing_3 : Snd MX6_isThing 3 (xLdA 4 0) := snd_aload_n (M := MX6_isThing) (pc := 3) dX6_isThing_3
theorem sX6_isThing_4 : Snd MX6_isThing 4 (xGf 7 6 5) := snd_gf (M := MX6_isThing) (pc := 4) (C0 := RX6) (T0 := TX6) (N := 32) dX6_isThing_4 rfl tbX6 (by decide) w475
theorem sX6_isThing_7 : Snd MX6_isThing 7 (xK 8 (nI 1)) := snd_iconst (M := MX6_isThing) (pc := 7) dX6_isThing_7 (by decide +kernel)
theorem sX6_isThing_8 : Snd MX6_isThing 8 (xBin 9 f_isub) := snd_isub (M := MX6_isThing) (pc := 8) dX6_isThing_8
theorem sX6_isThing_9 : Snd MX6_isThing 9 (xI2l 10) := snd_i2l (M := MX6_isThing) (pc := 9) dX6_isThing_9
theorem sX6_isThing_10 : Snd MX6_isThing 10 (xCallS MX6_in 3 13) := snd_callS (M := MX6_isThing) (pc := 10) (n := 3) dX6_isThing_10 w477 w478 ⟨w462, w476, ⟨by decide, by decide, by decide +kernel⟩, by decide⟩ ⟨rfl, rfl⟩
theorem sX6_isThing_13 : Snd MX6_isThing 13 (xRetZ) := snd_zret (M := MX6_isThing) (pc := 13) dX6_isThing_13 rfl
theorem VX6_isThing : Valid MX6_isThing LX6_isThing := va_lid sX6_isThing_0 (va_lid sX6_isThing_1 (va_lid sX6_isThing_2 (va_lid sX6_isThing_3 (va_lid sX6_isThing_4 (va_lid sX6_isThing_7 (va_lid sX6_isThing_8 (va_lid sX6_isThing_9 (va_lid sX6_isThing_10 (va_lid sX6_isThing_13 (va_lid0))))))))))
theorem kX6_isThing_0 : lk LX6_isThing 0 = some (xLdI 1 1) := rfl
theorem kX6_isThing_1 : lk LX6_isThing 1 = some (xI2l 2) := rfl
theorem kX6_isThing_2 : lk LX6_isThing 2 = some (xKL 3 (lN 0)) := rfl
theorem kX6_isThing_3 : lk LX6_isThing 3 = some (xLdA 4 0) := rfl
theorem kX6_isThing_4 : lk LX6_isThing 4 = some (xGf 7 6 5) := rfl
theorem kX6_isThing_7 : lk LX6_isThing 7 = some (xK 8 (nI 1)) := rfl
theorem kX6_isThing_8 : lk LX6_isThing 8 = some (xBin 9 f_isub) := rfl
theorem kX6_isThing_9 : lk LX6_isThing 9 = some (xI2l 10) := rfl
theorem kX6_isThing_10 : lk LX6_isThing 10 = some (xCallS MX6_in 3 13) := rfl
theorem kX6_isThing_13 : lk LX6_isThing 13 = some (xRetZ) := rfl
def LX6_isLife : List (Nat × XI) := [(0, xLdI 1 1),
  (1, xI2l 2),
  (2, xKL 3 (lN 0)),
  (3, xLdA 4 0),
  (4, xGf 7 6 9),
  (7, xK 8 (nI 1)),
  (8, xBin 9 f_isub),
  (9, xI2l 10),
  (10, xCallS MX6_in 3 13),
  (13, xRetZ)]
theorem sX6_isLife_0 : Snd MX6_isLife 0 (xLdI 1 1) := snd_iload_n (M := MX6_isLife) (pc := 0) dX6_isLife_0
theorem sX6_isLife_1 : Snd MX6_isLife 1 (xI2l 2) := snd_i2l (M := MX6_isLife) (pc := 1) dX6_isLife_1
theorem sX6_isLife_2 : Snd MX6_isLife 2 (xKL 3 (lN 0)) := snd_lconst (M := MX6_isLife) (pc := 2) dX6_isLife_2 rfl
theorem sX6_isLife_3 : Snd MX6_isLife 3 (xLdA 4 0) := snd_aload_n (M := MX6_isLife) (pc := 3) dX6_isLife_3
theorem sX6_isLife_4 : Snd MX6_isLife 4 (xGf 7 6 9) := snd_gf (M := MX6_isLife) (pc := 4) (C0 := RX6) (T0 := TX6) (N := 32) dX6_isLife_4 rfl tbX6 (by decide) w479
theorem sX6_isLife_7 : Snd MX6_isLife 7 (xK 8 (nI 1)) := snd_iconst (M := MX6_isLife) (pc := 7) dX6_isLife_7 (by decide +kernel)
theorem sX6_isLife_8 : Snd MX6_isLife 8 (xBin 9 f_isub) := snd_isub (M := MX6_isLife) (pc := 8) dX6_isLife_8
theorem sX6_isLife_9 : Snd MX6_isLife 9 (xI2l 10) := snd_i2l (M := MX6_isLife) (pc := 9) dX6_isLife_9
theorem sX6_isLife_10 : Snd MX6_isLife 10 (xCallS MX6_in 3 13) := snd_callS (M := MX6_isLife) (pc := 10) (n := 3) dX6_isLife_10 w477 w478 ⟨w462, w476, ⟨by decide, by decide, by decide +kernel⟩, by decide⟩ ⟨rfl, rfl⟩
theorem sX6_isLife_13 : Snd MX6_isLife 13 (xRetZ) := snd_zret (M := MX6_isLife) (pc := 13) dX6_isLife_13 rfl
theorem VX6_isLife : Valid MX6_isLife LX6_isLife := va_lid sX6_isLife_0 (va_lid sX6_isLife_1 (va_lid sX6_isLife_2 (va_lid sX6_isLife_3 (va_lid sX6_isLife_4 (va_lid sX6_isLife_7 (va_lid sX6_isLife_8 (va_lid sX6_isLife_9 (va_lid sX6_isLife_10 (va_lid sX6_isLife_13 (va_lid0))))))))))
theorem kX6_isLife_0 : lk LX6_isLife 0 = some (xLdI 1 1) := rfl
theorem kX6_isLife_1 : lk LX6_isLife 1 = some (xI2l 2) := rfl
theorem kX6_isLife_2 : lk LX6_isLife 2 = some (xKL 3 (lN 0)) := rfl
theorem kX6_isLife_3 : lk LX6_isLife 3 = some (xLdA 4 0) := rfl
theorem kX6_isLife_4 : lk LX6_isLife 4 = some (xGf 7 6 9) := rfl
theorem kX6_isLife_7 : lk LX6_isLife 7 = some (xK 8 (nI 1)) := rfl
theorem kX6_isLife_8 : lk LX6_isLife 8 = some (xBin 9 f_isub) := rfl
theorem kX6_isLife_9 : lk LX6_isLife 9 = some (xI2l 10) := rfl
theorem kX6_isLife_10 : lk LX6_isLife 10 = some (xCallS MX6_in 3 13) := rfl
theorem kX6_isLife_13 : lk LX6_isLife 13 = some (xRetZ) := rfl
def LX6_addsThing : List (Nat × XI) := [(0, xLdA 1 0),
  (1, xGf 4 6 24),
  (4, xK 5 (nI 3)),
  (5, xLdA 6 0),
  (6, xGf 9 6 23),
  (9, xBin 10 f_imul),
  (10, xLdI 11 1),
  (11, xiastore 12),
  (12, xLdA 13 0),
  (13, xGf 16 6 24),
  (16, xK 17 (nI 3)),
  (17, xLdA 18 0),
  (18, xGf 21 6 23),
  (21, xBin 22 f_imul),
  (22, xK 23 (nI 1)),
  (23, xBin 24 f_iadd),
  (24, xLdI 25 2),
  (25, xiastore 26),
  (26, xLdA 27 0),
  (27, xGf 30 6 24),
  (30, xK 31 (nI 3)),
  (31, xLdA 32 0),
  (32, xGf 35 6 23),
  (35, xBin 36 f_imul),
  (36, xK 37 (nI 2)),
  (37, xBin 38 f_iadd),
  (38, xLdI 39 3),
  (39, xiastore 40),
  (40, xLdA 41 0),
  (41, xDup 42),
  (42, xGf 45 6 23),
  (45, xK 46 (nI 1)),
  (46, xBin 47 f_iadd),
  (47, xPfI 50 6 23),
  (50, xRetV)]
theorem sX6_addsThing_0 : Snd MX6_addsThing 0 (xLdA 1 0) := snd_aload_n (M := MX6_addsThing) (pc := 0) dX6_addsThing_0
theorem sX6_addsThing_1 : Snd MX6_addsThing 1 (xGf 4 6 24) := snd_gf (M := MX6_addsThing) (pc := 1) (C0 := RX6) (T0 := TX6) (N := 32) dX6_addsThing_1 rfl tbX6 (by decide) w453
theorem sX6_addsThing_4 : Snd MX6_addsThing 4 (xK 5 (nI 3)) := snd_iconst (M := MX6_addsThing) (pc := 4) dX6_addsThing_4 (by decide +kernel)
theorem sX6_addsThing_5 : Snd MX6_addsThing 5 (xLdA 6 0) := snd_aload_n (M := MX6_addsThing) (pc := 5) dX6_addsThing_5
theorem sX6_addsThing_6 : Snd MX6_addsThing 6 (xGf 9 6 23) := snd_gf (M := MX6_addsThing) (pc := 6) (C0 := RX6) (T0 := TX6) (N := 32) dX6_addsThing_6 rfl tbX6 (by decide) w480
theorem sX6_addsThing_9 : Snd MX6_addsThing 9 (xBin 10 f_imul) := snd_imul (M := MX6_addsThing) (pc := 9) dX6_addsThing_9
theorem sX6_addsThing_10 : Snd MX6_addsThing 10 (xLdI 11 1) := snd_iload_n (M := MX6_addsThing) (pc := 10) dX6_addsThing_10
theorem sX6_addsThing_11 : Snd MX6_addsThing 11 (xiastore 12) := snd_iastore (M := MX6_addsThing) (pc := 11) dX6_addsThing_11
theorem sX6_addsThing_12 : Snd MX6_addsThing 12 (xLdA 13 0) := snd_aload_n (M := MX6_addsThing) (pc := 12) dX6_addsThing_12
theorem sX6_addsThing_13 : Snd MX6_addsThing 13 (xGf 16 6 24) := snd_gf (M := MX6_addsThing) (pc := 13) (C0 := RX6) (T0 := TX6) (N := 32) dX6_addsThing_13 rfl tbX6 (by decide) w453
theorem sX6_addsThing_16 : Snd MX6_addsThing 16 (xK 17 (nI 3)) := snd_iconst (M := MX6_addsThing) (pc := 16) dX6_addsThing_16 (by decide +kernel)
theorem sX6_addsThing_17 : Snd MX6_addsThing 17 (xLdA 18 0) := snd_aload_n (M := MX6_addsThing) (pc := 17) dX6_addsThing_17
theorem sX6_addsThing_18 : Snd MX6_addsThing 18 (xGf 21 6 23) := snd_gf (M := MX6_addsThing) (pc := 18) (C0 := RX6) (T0 := TX6) (N := 32) dX6_addsThing_18 rfl tbX6 (by decide) w480
theorem sX6_addsThing_21 : Snd MX6_addsThing 21 (xBin 22 f_imul) := snd_imul (M := MX6_addsThing) (pc := 21) dX6_addsThing_21
theorem sX6_addsThing_22 : Snd MX6_addsThing 22 (xK 23 (nI 1)) := snd_iconst (M := MX6_addsThing) (pc := 22) dX6_addsThing_22 (by decide +kernel)
theorem sX6_addsThing_23 : Snd MX6_addsThing 23 (xBin 24 f_iadd) := snd_iadd (M := MX6_addsThing) (pc := 23) dX6_addsThing_23
theorem sX6_addsThing_24 : Snd MX6_addsThing 24 (xLdI 25 2) := snd_iload_n (M := MX6_addsThing) (pc := 24) dX6_addsThing_24
theorem sX6_addsThing_25 : Snd MX6_addsThing 25 (xiastore 26) := snd_iastore (M := MX6_addsThing) (pc := 25) dX6_addsThing_25
theorem sX6_addsThing_26 : Snd MX6_addsThing 26 (xLdA 27 0) := snd_aload_n (M := MX6_addsThing) (pc := 26) dX6_addsThing_26
theorem sX6_addsThing_27 : Snd MX6_addsThing 27 (xGf 30 6 24) := snd_gf (M := MX6_addsThing) (pc := 27) (C0 := RX6) (T0 := TX6) (N := 32) dX6_addsThing_27 rfl tbX6 (by decide) w453
theorem sX6_addsThing_30 : Snd MX6_addsThing 30 (xK 31 (nI 3)) := snd_iconst (M := MX6_addsThing) (pc := 30) dX6_addsThing_30 (by decide +kernel)
theorem sX6_addsThing_31 : Snd MX6_addsThing 31 (xLdA 32 0) := snd_aload_n (M := MX6_addsThing) (pc := 31) dX6_addsThing_31
theorem sX6_addsThing_32 : Snd MX6_addsThing 32 (xGf 35 6 23) := snd_gf (M := MX6_addsThing) (pc := 32) (C0 := RX6) (T0 := TX6) (N := 32) dX6_addsThing_32 rfl tbX6 (by decide) w480
theorem sX6_addsThing_35 : Snd MX6_addsThing 35 (xBin 36 f_imul) := snd_imul (M := MX6_addsThing) (pc := 35) dX6_addsThing_35
theorem sX6_addsThing_36 : Snd MX6_addsThing 36 (xK 37 (nI 2)) := snd_iconst (M := MX6_addsThing) (pc := 36) dX6_addsThing_36 (by decide +kernel)
theorem sX6_addsThing_37 : Snd MX6_addsThing 37 (xBin 38 f_iadd) := snd_iadd (M := MX6_addsThing) (pc := 37) dX6_addsThing_37
theorem sX6_addsThing_38 : Snd MX6_addsThing 38 (xLdI 39 3) := snd_iload_n (M := MX6_addsThing) (pc := 38) dX6_addsThing_38
theorem sX6_addsThing_39 : Snd MX6_addsThing 39 (xiastore 40) := snd_iastore (M := MX6_addsThing) (pc := 39) dX6_addsThing_39
theorem sX6_addsThing_40 : Snd MX6_addsThing 40 (xLdA 41 0) := snd_aload_n (M := MX6_addsThing) (pc := 40) dX6_addsThing_40
theorem sX6_addsThing_41 : Snd MX6_addsThing 41 (xDup 42) := snd_dup (M := MX6_addsThing) (pc := 41) dX6_addsThing_41
theorem sX6_addsThing_42 : Snd MX6_addsThing 42 (xGf 45 6 23) := snd_gf (M := MX6_addsThing) (pc := 42) (C0 := RX6) (T0 := TX6) (N := 32) dX6_addsThing_42 rfl tbX6 (by decide) w480
theorem sX6_addsThing_45 : Snd MX6_addsThing 45 (xK 46 (nI 1)) := snd_iconst (M := MX6_addsThing) (pc := 45) dX6_addsThing_45 (by decide +kernel)
theorem sX6_addsThing_46 : Snd MX6_addsThing 46 (xBin 47 f_iadd) := snd_iadd (M := MX6_addsThing) (pc := 46) dX6_addsThing_46
theorem sX6_addsThing_47 : Snd MX6_addsThing 47 (xPfI 50 6 23) := snd_pfI (M := MX6_addsThing) (pc := 47) (C0 := RX6) (T0 := TX6) (N := 32) dX6_addsThing_47 rfl tbX6 tyX6 tyX6_ok nmX6 (by decide) w480 rfl (by decide +kernel)
theorem sX6_addsThing_50 : Snd MX6_addsThing 50 (xRetV) := snd_vret (M := MX6_addsThing) (pc := 50) dX6_addsThing_50 rfl
theorem VX6_addsThing : Valid MX6_addsThing LX6_addsThing := va_lid sX6_addsThing_0 (va_lid sX6_addsThing_1 (va_lid sX6_addsThing_4 (va_lid sX6_addsThing_5 (va_lid sX6_addsThing_6 (va_lid sX6_addsThing_9 (va_lid sX6_addsThing_10 (va_lid sX6_addsThing_11 (va_lid sX6_addsThing_12 (va_lid sX6_addsThing_13 (va_lid sX6_addsThing_16 (va_lid sX6_addsThing_17 (va_lid sX6_addsThing_18 (va_lid sX6_addsThing_21 (va_lid sX6_addsThing_22 (va_lid sX6_addsThing_23 (va_lid sX6_addsThing_24 (va_lid sX6_addsThing_25 (va_lid sX6_addsThing_26 (va_lid sX6_addsThing_27 (va_lid sX6_addsThing_30 (va_lid sX6_addsThing_31 (va_lid sX6_addsThing_32 (va_lid sX6_addsThing_35 (va_lid sX6_addsThing_36 (va_lid sX6_addsThing_37 (va_lid sX6_addsThing_38 (va_lid sX6_addsThing_39 (va_lid sX6_addsThing_40 (va_lid sX6_addsThing_41 (va_lid sX6_addsThing_42 (va_lid sX6_addsThing_45 (va_lid sX6_addsThing_46 (va_lid sX6_addsThing_47 (va_lid sX6_addsThing_50 (va_lid0)))))))))))))))))))))))))))))))))))
theorem kX6_addsThing_0 : lk LX6_addsThing 0 = some (xLdA 1 0) := rfl
theorem kX6_addsThing_1 : lk LX6_addsThing 1 = some (xGf 4 6 24) := rfl
theorem kX6_addsThing_4 : lk LX6_addsThing 4 = some (xK 5 (nI 3)) := rfl
theorem kX6_addsThing_5 : lk LX6_addsThing 5 = some (xLdA 6 0) := rfl
theorem kX6_addsThing_6 : lk LX6_addsThing 6 = some (xGf 9 6 23) := rfl
theorem kX6_addsThing_9 : lk LX6_addsThing 9 = some (xBin 10 f_imul) := rfl
theorem kX6_addsThing_10 : lk LX6_addsThing 10 = some (xLdI 11 1) := rfl
theorem kX6_addsThing_11 : lk LX6_addsThing 11 = some (xiastore 12) := rfl
theorem kX6_addsThing_12 : lk LX6_addsThing 12 = some (xLdA 13 0) := rfl
theorem kX6_addsThing_13 : lk LX6_addsThing 13 = some (xGf 16 6 24) := rfl
theorem kX6_addsThing_16 : lk LX6_addsThing 16 = some (xK 17 (nI 3)) := rfl
theorem kX6_addsThing_17 : lk LX6_addsThing 17 = some (xLdA 18 0) := rfl
theorem kX6_addsThing_18 : lk LX6_addsThing 18 = some (xGf 21 6 23) := rfl
theorem kX6_addsThing_21 : lk LX6_addsThing 21 = some (xBin 22 f_imul) := rfl
theorem kX6_addsThing_22 : lk LX6_addsThing 22 = some (xK 23 (nI 1)) := rfl
theorem kX6_addsThing_23 : lk LX6_addsThing 23 = some (xBin 24 f_iadd) := rfl
theorem kX6_addsThing_24 : lk LX6_addsThing 24 = some (xLdI 25 2) := rfl
theorem kX6_addsThing_25 : lk LX6_addsThing 25 = some (xiastore 26) := rfl
theorem kX6_addsThing_26 : lk LX6_addsThing 26 = some (xLdA 27 0) := rfl
theorem kX6_addsThing_27 : lk LX6_addsThing 27 = some (xGf 30 6 24) := rfl
theorem kX6_addsThing_30 : lk LX6_addsThing 30 = some (xK 31 (nI 3)) := rfl
theorem kX6_addsThing_31 : lk LX6_addsThing 31 = some (xLdA 32 0) := rfl
theorem kX6_addsThing_32 : lk LX6_addsThing 32 = some (xGf 35 6 23) := rfl
theorem kX6_addsThing_35 : lk LX6_addsThing 35 = some (xBin 36 f_imul) := rfl
theorem kX6_addsThing_36 : lk LX6_addsThing 36 = some (xK 37 (nI 2)) := rfl
theorem kX6_addsThing_37 : lk LX6_addsThing 37 = some (xBin 38 f_iadd) := rfl
theorem kX6_addsThing_38 : lk LX6_addsThing 38 = some (xLdI 39 3) := rfl
theorem kX6_addsThing_39 : lk LX6_addsThing 39 = some (xiastore 40) := rfl
theorem kX6_addsThing_40 : lk LX6_addsThing 40 = some (xLdA 41 0) := rfl
theorem kX6_addsThing_41 : lk LX6_addsThing 41 = some (xDup 42) := rfl
theorem kX6_addsThing_42 : lk LX6_addsThing 42 = some (xGf 45 6 23) := rfl
theorem kX6_addsThing_45 : lk LX6_addsThing 45 = some (xK 46 (nI 1)) := rfl
theorem kX6_addsThing_46 : lk LX6_addsThing 46 = some (xBin 47 f_iadd) := rfl
theorem kX6_addsThing_47 : lk LX6_addsThing 47 = some (xPfI 50 6 23) := rfl
theorem kX6_addsThing_50 : lk LX6_addsThing 50 = some (xRetV) := rfl
def LX6_addsLife : List (Nat × XI) := [(0, xLdA 1 0),
  (1, xGf 4 6 26),
  (4, xK 5 (nI 3)),
  (5, xLdA 6 0),
  (6, xGf 9 6 25),
  (9, xBin 10 f_imul),
  (10, xLdI 11 1),
  (11, xiastore 12),
  (12, xLdA 13 0),
  (13, xGf 16 6 26),
  (16, xK 17 (nI 3)),
  (17, xLdA 18 0),
  (18, xGf 21 6 25),
  (21, xBin 22 f_imul),
  (22, xK 23 (nI 1)),
  (23, xBin 24 f_iadd),
  (24, xLdI 25 2),
  (25, xiastore 26),
  (26, xLdA 27 0),
  (27, xGf 30 6 26),
  (30, xK 31 (nI 3)),
  (31, xLdA 32 0),
  (32, xGf 35 6 25),
  (35, xBin 36 f_imul),
  (36, xK 37 (nI 2)),
  (37, xBin 38 f_iadd),
  (38, xLdI 39 3),
  (39, xiastore 40),
  (40, xLdA 41 0),
  (41, xGf 44 6 27),
  (44, xLdA 45 0),
  (45, xGf 48 6 25),
  (48, xK 49 (nI 0)),
  (49, xiastore 50),
  (50, xLdA 51 0),
  (51, xDup 52),
  (52, xGf 55 6 25),
  (55, xK 56 (nI 1)),
  (56, xBin 57 f_iadd),
  (57, xPfI 60 6 25),
  (60, xRetV)]
theorem sX6_addsLife_0 : Snd MX6_addsLife 0 (xLdA 1 0) := snd_aload_n (M := MX6_addsLife) (pc := 0) dX6_addsLife_0
theorem sX6_addsLife_1 : Snd MX6_addsLife 1 (xGf 4 6 26) := snd_gf (M := MX6_addsLife) (pc := 1) (C0 := RX6) (T0 := TX6) (N := 32) dX6_addsLife_1 rfl tbX6 (by decide) w454
theorem sX6_addsLife_4 : Snd MX6_addsLife 4 (xK 5 (nI 3)) := snd_iconst (M := MX6_addsLife) (pc := 4) dX6_addsLife_4 (by decide +kernel)
theorem sX6_addsLife_5 : Snd MX6_addsLife 5 (xLdA 6 0) := snd_aload_n (M := MX6_addsLife) (pc := 5) dX6_addsLife_5
theorem sX6_addsLife_6 : Snd MX6_addsLife 6 (xGf 9 6 25) := snd_gf (M := MX6_addsLife) (pc := 6) (C0 := RX6) (T0 := TX6) (N := 32) dX6_addsLife_6 rfl tbX6 (by decide) w481
theorem sX6_addsLife_9 : Snd MX6_addsLife 9 (xBin 10 f_imul) := snd_imul (M := MX6_addsLife) (pc := 9) dX6_addsLife_9
theorem sX6_addsLife_10 : Snd MX6_addsLife 10 (xLdI 11 1) := snd_iload_n (M := MX6_addsLife) (pc := 10) dX6_addsLife_10
theorem sX6_addsLife_11 : Snd MX6_addsLife 11 (xiastore 12) := snd_iastore (M := MX6_addsLife) (pc := 11) dX6_addsLife_11
theorem sX6_addsLife_12 : Snd MX6_addsLife 12 (xLdA 13 0) := snd_aload_n (M := MX6_addsLife) (pc := 12) dX6_addsLife_12
theorem sX6_addsLife_13 : Snd MX6_addsLife 13 (xGf 16 6 26) := snd_gf (M := MX6_addsLife) (pc := 13) (C0 := RX6) (T0 := TX6) (N := 32) dX6_addsLife_13 rfl tbX6 (by decide) w454
theorem sX6_addsLife_16 : Snd MX6_addsLife 16 (xK 17 (nI 3)) := snd_iconst (M := MX6_addsLife) (pc := 16) dX6_addsLife_16 (by decide +kernel)
theorem sX6_addsLife_17 : Snd MX6_addsLife 17 (xLdA 18 0) := snd_aload_n (M := MX6_addsLife) (pc := 17) dX6_addsLife_17
theorem sX6_addsLife_18 : Snd MX6_addsLife 18 (xGf 21 6 25) := snd_gf (M := MX6_addsLife) (pc := 18) (C0 := RX6) (T0 := TX6) (N := 32) dX6_addsLife_18 rfl tbX6 (by decide) w481
theorem sX6_addsLife_21 : Snd MX6_addsLife 21 (xBin 22 f_imul) := snd_imul (M := MX6_addsLife) (pc := 21) dX6_addsLife_21
theorem sX6_addsLife_22 : Snd MX6_addsLife 22 (xK 23 (nI 1)) := snd_iconst (M := MX6_addsLife) (pc := 22) dX6_addsLife_22 (by decide +kernel)
theorem sX6_addsLife_23 : Snd MX6_addsLife 23 (xBin 24 f_iadd) := snd_iadd (M := MX6_addsLife) (pc := 23) dX6_addsLife_23
theorem sX6_addsLife_24 : Snd MX6_addsLife 24 (xLdI 25 2) := snd_iload_n (M := MX6_addsLife) (pc := 24) dX6_addsLife_24
theorem sX6_addsLife_25 : Snd MX6_addsLife 25 (xiastore 26) := snd_iastore (M := MX6_addsLife) (pc := 25) dX6_addsLife_25
theorem sX6_addsLife_26 : Snd MX6_addsLife 26 (xLdA 27 0) := snd_aload_n (M := MX6_addsLife) (pc := 26) dX6_addsLife_26
theorem sX6_addsLife_27 : Snd MX6_addsLife 27 (xGf 30 6 26) := snd_gf (M := MX6_addsLife) (pc := 27) (C0 := RX6) (T0 := TX6) (N := 32) dX6_addsLife_27 rfl tbX6 (by decide) w454
theorem sX6_addsLife_30 : Snd MX6_addsLife 30 (xK 31 (nI 3)) := snd_iconst (M := MX6_addsLife) (pc := 30) dX6_addsLife_30 (by decide +kernel)
theorem sX6_addsLife_31 : Snd MX6_addsLife 31 (xLdA 32 0) := snd_aload_n (M := MX6_addsLife) (pc := 31) dX6_addsLife_31
theorem sX6_addsLife_32 : Snd MX6_addsLife 32 (xGf 35 6 25) := snd_gf (M := MX6_addsLife) (pc := 32) (C0 := RX6) (T0 := TX6) (N := 32) dX6_addsLife_32 rfl tbX6 (by decide) w481
theorem sX6_addsLife_35 : Snd MX6_addsLife 35 (xBin 36 f_imul) := snd_imul (M := MX6_addsLife) (pc := 35) dX6_addsLife_35
theorem sX6_addsLife_36 : Snd MX6_addsLife 36 (xK 37 (nI 2)) := snd_iconst (M := MX6_addsLife) (pc := 36) dX6_addsLife_36 (by decide +kernel)
theorem sX6_addsLife_37 : Snd MX6_addsLife 37 (xBin 38 f_iadd) := snd_iadd (M := MX6_addsLife) (pc := 37) dX6_addsLife_37
theorem sX6_addsLife_38 : Snd MX6_addsLife 38 (xLdI 39 3) := snd_iload_n (M := MX6_addsLife) (pc := 38) dX6_addsLife_38
theorem sX6_addsLife_39 : Snd MX6_addsLife 39 (xiastore 40) := snd_iastore (M := MX6_addsLife) (pc := 39) dX6_addsLife_39
theorem sX6_addsLife_40 : Snd MX6_addsLife 40 (xLdA 41 0) := snd_aload_n (M := MX6_addsLife) (pc := 40) dX6_addsLife_40
theorem sX6_addsLife_41 : Snd MX6_addsLife 41 (xGf 44 6 27) := snd_gf (M := MX6_addsLife) (pc := 41) (C0 := RX6) (T0 := TX6) (N := 32) dX6_addsLife_41 rfl tbX6 (by decide) w455
theorem sX6_addsLife_44 : Snd MX6_addsLife 44 (xLdA 45 0) := snd_aload_n (M := MX6_addsLife) (pc := 44) dX6_addsLife_44
theorem sX6_addsLife_45 : Snd MX6_addsLife 45 (xGf 48 6 25) := snd_gf (M := MX6_addsLife) (pc := 45) (C0 := RX6) (T0 := TX6) (N := 32) dX6_addsLife_45 rfl tbX6 (by decide) w481
theorem sX6_addsLife_48 : Snd MX6_addsLife 48 (xK 49 (nI 0)) := snd_iconst (M := MX6_addsLife) (pc := 48) dX6_addsLife_48 (by decide +kernel)
theorem sX6_addsLife_49 : Snd MX6_addsLife 49 (xiastore 50) := snd_iastore (M := MX6_addsLife) (pc := 49) dX6_addsLife_49
theorem sX6_addsLife_50 : Snd MX6_addsLife 50 (xLdA 51 0) := snd_aload_n (M := MX6_addsLife) (pc := 50) dX6_addsLife_50
theorem sX6_addsLife_51 : Snd MX6_addsLife 51 (xDup 52) := snd_dup (M := MX6_addsLife) (pc := 51) dX6_addsLife_51
theorem sX6_addsLife_52 : Snd MX6_addsLife 52 (xGf 55 6 25) := snd_gf (M := MX6_addsLife) (pc := 52) (C0 := RX6) (T0 := TX6) (N := 32) dX6_addsLife_52 rfl tbX6 (by decide) w481
theorem sX6_addsLife_55 : Snd MX6_addsLife 55 (xK 56 (nI 1)) := snd_iconst (M := MX6_addsLife) (pc := 55) dX6_addsLife_55 (by decide +kernel)
theorem sX6_addsLife_56 : Snd MX6_addsLife 56 (xBin 57 f_iadd) := snd_iadd (M := MX6_addsLife) (pc := 56) dX6_addsLife_56
theorem sX6_addsLife_57 : Snd MX6_addsLife 57 (xPfI 60 6 25) := snd_pfI (M := MX6_addsLife) (pc := 57) (C0 := RX6) (T0 := TX6) (N := 32) dX6_addsLife_57 rfl tbX6 tyX6 tyX6_ok nmX6 (by decide) w481 rfl (by decide +kernel)
theorem sX6_addsLife_60 : Snd MX6_addsLife 60 (xRetV) := snd_vret (M := MX6_addsLife) (pc := 60) dX6_addsLife_60 rfl
theorem VX6_addsLife : Valid MX6_addsLife LX6_addsLife := va_lid sX6_addsLife_0 (va_lid sX6_addsLife_1 (va_lid sX6_addsLife_4 (va_lid sX6_addsLife_5 (va_lid sX6_addsLife_6 (va_lid sX6_addsLife_9 (va_lid sX6_addsLife_10 (va_lid sX6_addsLife_11 (va_lid sX6_addsLife_12 (va_lid sX6_addsLife_13 (va_lid sX6_addsLife_16 (va_lid sX6_addsLife_17 (va_lid sX6_addsLife_18 (va_lid sX6_addsLife_21 (va_lid sX6_addsLife_22 (va_lid sX6_addsLife_23 (va_lid sX6_addsLife_24 (va_lid sX6_addsLife_25 (va_lid sX6_addsLife_26 (va_lid sX6_addsLife_27 (va_lid sX6_addsLife_30 (va_lid sX6_addsLife_31 (va_lid sX6_addsLife_32 (va_lid sX6_addsLife_35 (va_lid sX6_addsLife_36 (va_lid sX6_addsLife_37 (va_lid sX6_addsLife_38 (va_lid sX6_addsLife_39 (va_lid sX6_addsLife_40 (va_lid sX6_addsLife_41 (va_lid sX6_addsLife_44 (va_lid sX6_addsLife_45 (va_lid sX6_addsLife_48 (va_lid sX6_addsLife_49 (va_lid sX6_addsLife_50 (va_lid sX6_addsLife_51 (va_lid sX6_addsLife_52 (va_lid sX6_addsLife_55 (va_lid sX6_addsLife_56 (va_lid sX6_addsLife_57 (va_lid sX6_addsLife_60 (va_lid0)))))))))))))))))))))))))))))))))))))))))
theorem kX6_addsLife_0 : lk LX6_addsLife 0 = some (xLdA 1 0) := rfl
theorem kX6_addsLife_1 : lk LX6_addsLife 1 = some (xGf 4 6 26) := rfl
theorem kX6_addsLife_4 : lk LX6_addsLife 4 = some (xK 5 (nI 3)) := rfl
theorem kX6_addsLife_5 : lk LX6_addsLife 5 = some (xLdA 6 0) := rfl
theorem kX6_addsLife_6 : lk LX6_addsLife 6 = some (xGf 9 6 25) := rfl
theorem kX6_addsLife_9 : lk LX6_addsLife 9 = some (xBin 10 f_imul) := rfl
theorem kX6_addsLife_10 : lk LX6_addsLife 10 = some (xLdI 11 1) := rfl
theorem kX6_addsLife_11 : lk LX6_addsLife 11 = some (xiastore 12) := rfl
theorem kX6_addsLife_12 : lk LX6_addsLife 12 = some (xLdA 13 0) := rfl
theorem kX6_addsLife_13 : lk LX6_addsLife 13 = some (xGf 16 6 26) := rfl
theorem kX6_addsLife_16 : lk LX6_addsLife 16 = some (xK 17 (nI 3)) := rfl
theorem kX6_addsLife_17 : lk LX6_addsLife 17 = some (xLdA 18 0) := rfl
theorem kX6_addsLife_18 : lk LX6_addsLife 18 = some (xGf 21 6 25) := rfl
theorem kX6_addsLife_21 : lk LX6_addsLife 21 = some (xBin 22 f_imul) := rfl
theorem kX6_addsLife_22 : lk LX6_addsLife 22 = some (xK 23 (nI 1)) := rfl
theorem kX6_addsLife_23 : lk LX6_addsLife 23 = some (xBin 24 f_iadd) := rfl
theorem kX6_addsLife_24 : lk LX6_addsLife 24 = some (xLdI 25 2) := rfl
theorem kX6_addsLife_25 : lk LX6_addsLife 25 = some (xiastore 26) := rfl
theorem kX6_addsLife_26 : lk LX6_addsLife 26 = some (xLdA 27 0) := rfl
theorem kX6_addsLife_27 : lk LX6_addsLife 27 = some (xGf 30 6 26) := rfl
theorem kX6_addsLife_30 : lk LX6_addsLife 30 = some (xK 31 (nI 3)) := rfl
theorem kX6_addsLife_31 : lk LX6_addsLife 31 = some (xLdA 32 0) := rfl
theorem kX6_addsLife_32 : lk LX6_addsLife 32 = some (xGf 35 6 25) := rfl
theorem kX6_addsLife_35 : lk LX6_addsLife 35 = some (xBin 36 f_imul) := rfl
theorem kX6_addsLife_36 : lk LX6_addsLife 36 = some (xK 37 (nI 2)) := rfl
theorem kX6_addsLife_37 : lk LX6_addsLife 37 = some (xBin 38 f_iadd) := rfl
theorem kX6_addsLife_38 : lk LX6_addsLife 38 = some (xLdI 39 3) := rfl
theorem kX6_addsLife_39 : lk LX6_addsLife 39 = some (xiastore 40) := rfl
theorem kX6_addsLife_40 : lk LX6_addsLife 40 = some (xLdA 41 0) := rfl
theorem kX6_addsLife_41 : lk LX6_addsLife 41 = some (xGf 44 6 27) := rfl
theorem kX6_addsLife_44 : lk LX6_addsLife 44 = some (xLdA 45 0) := rfl
theorem kX6_addsLife_45 : lk LX6_addsLife 45 = some (xGf 48 6 25) := rfl
theorem kX6_addsLife_48 : lk LX6_addsLife 48 = some (xK 49 (nI 0)) := rfl
theorem kX6_addsLife_49 : lk LX6_addsLife 49 = some (xiastore 50) := rfl
theorem kX6_addsLife_50 : lk LX6_addsLife 50 = some (xLdA 51 0) := rfl
theorem kX6_addsLife_51 : lk LX6_addsLife 51 = some (xDup 52) := rfl
theorem kX6_addsLife_52 : lk LX6_addsLife 52 = some (xGf 55 6 25) := rfl
theorem kX6_addsLife_55 : lk LX6_addsLife 55 = some (xK 56 (nI 1)) := rfl
theorem kX6_addsLife_56 : lk LX6_addsLife 56 = some (xBin 57 f_iadd) := rfl
theorem kX6_addsLife_57 : lk LX6_addsLife 57 = some (xPfI 60 6 25) := rfl
theorem kX6_addsLife_60 : lk LX6_addsLife 60 = some (xRetV) := rfl
def LX6_begins : List (Nat × XI) := [(0, xLdA 1 0),
  (1, xLdA 2 0),
  (2, xGf 5 6 21),
  (5, xPfI 8 6 3),
  (8, xLdA 9 0),
  (9, xLdA 10 0),
  (10, xGf 13 6 22),
  (13, xPfI 16 6 4),
  (16, xLdA 17 0),
  (17, xLdA 18 0),
  (18, xGf 21 6 23),
  (21, xPfI 24 6 5),
  (24, xLdA 25 0),
  (25, xLdA 26 0),
  (26, xGf 29 6 25),
  (29, xPfI 32 6 9),
  (32, xK 33 (nI 0)),
  (33, xStI 34 1),
  (34, xLdI 35 1),
  (35, xLdA 36 0),
  (36, xGf 39 6 5),
  (39, xC_ge 94 42),
  (42, xLdA 43 0),
  (43, xGf 46 6 6),
  (46, xLdI 47 1),
  (47, xLdA 48 0),
  (48, xGf 51 6 24),
  (51, xK 52 (nI 3)),
  (52, xLdI 53 1),
  (53, xBin 54 f_imul),
  (54, xiaload 55),
  (55, xiastore 56),
  (56, xLdA 57 0),
  (57, xGf 60 6 7),
  (60, xLdI 61 1),
  (61, xLdA 62 0),
  (62, xGf 65 6 24),
  (65, xK 66 (nI 3)),
  (66, xLdI 67 1),
  (67, xBin 68 f_imul),
  (68, xK 69 (nI 1)),
  (69, xBin 70 f_iadd),
  (70, xiaload 71),
  (71, xiastore 72),
  (72, xLdA 73 0),
  (73, xGf 76 6 8),
  (76, xLdI 77 1),
  (77, xLdA 78 0),
  (78, xGf 81 6 24),
  (81, xK 82 (nI 3)),
  (82, xLdI 83 1),
  (83, xBin 84 f_imul),
  (84, xK 85 (nI 2)),
  (85, xBin 86 f_iadd),
  (86, xiaload 87),
  (87, xiastore 88),
  (88, xInc 91 1 (nI 1)),
  (91, xGo 34),
  (94, xK 95 (nI 0)),
  (95, xStI 96 1),
  (96, xLdI 97 1),
  (97, xLdA 98 0),
  (98, xGf 101 6 9),
  (101, xC_ge 168 104),
  (104, xLdA 105 0),
  (105, xGf 108 6 10),
  (108, xLdI 109 1),
  (109, xLdA 110 0),
  (110, xGf 113 6 26),
  (113, xK 114 (nI 3)),
  (114, xLdI 115 1),
  (115, xBin 116 f_imul),
  (116, xiaload 117),
  (117, xiastore 118),
  (118, xLdA 119 0),
  (119, xGf 122 6 11),
  (122, xLdI 123 1),
  (123, xLdA 124 0),
  (124, xGf 127 6 26),
  (127, xK 128 (nI 3)),
  (128, xLdI 129 1),
  (129, xBin 130 f_imul),
  (130, xK 131 (nI 1)),
  (131, xBin 132 f_iadd),
  (132, xiaload 133),
  (133, xiastore 134),
  (134, xLdA 135 0),
  (135, xGf 138 6 12),
  (138, xLdI 139 1),
  (139, xLdA 140 0),
  (140, xGf 143 6 26),
  (143, xK 144 (nI 3)),
  (144, xLdI 145 1),
  (145, xBin 146 f_imul),
  (146, xK 147 (nI 2)),
  (147, xBin 148 f_iadd),
  (148, xiaload 149),
  (149, xiastore 150),
  (150, xLdA 151 0),
  (151, xGf 154 6 13),
  (154, xLdI 155 1),
  (155, xLdA 156 0),
  (156, xGf 159 6 27),
  (159, xLdI 160 1),
  (160, xiaload 161),
  (161, xiastore 162),
  (162, xInc 165 1 (nI 1)),
  (165, xGo 96),
  (168, xLdA 169 0),
  (169, xGf 172 6 0),
  (172, xK 173 (nI 0)),
  (173, xK 174 (nI 0)),
  (174, xiastore 175),
  (175, xLdA 176 0),
  (176, xGf 179 6 0),
  (179, xK 180 (nI 1)),
  (180, xLdA 181 0),
  (181, xGf 184 6 4),
  (184, xiastore 185),
  (185, xLdA 186 0),
  (186, xGf 189 6 0),
  (189, xK 190 (nI 2)),
  (190, xK 191 (nI 0)),
  (191, xiastore 192),
  (192, xLdA 193 0),
  (193, xGf 196 6 0),
  (196, xK 197 (nI 3)),
  (197, xK 198 (nI 0)),
  (198, xiastore 199),
  (199, xLdA 200 0),
  (200, xK 201 (nI 0)),
  (201, xPfI 204 6 1),
  (204, xLdA 205 0),
  (205, xK 206 (nI 0)),
  (206, xPfI 209 6 2),
  (209, xLdA 210 0),
  (210, xCallV MX6_forget 6 0 213),
  (213, xPop 214),
  (214, xRetV)]
theorem sX6_begins_0 : Snd MX6_begins 0 (xLdA 1 0) := snd_aload_n (M := MX6_begins) (pc := 0) dX6_begins_0
theorem sX6_begins_1 : Snd MX6_begins 1 (xLdA 2 0) := snd_aload_n (M := MX6_begins) (pc := 1) dX6_begins_1
theorem sX6_begins_2 : Snd MX6_begins 2 (xGf 5 6 21) := snd_gf (M := MX6_begins) (pc := 2) (C0 := RX6) (T0 := TX6) (N := 32) dX6_begins_2 rfl tbX6 (by decide) w460
theorem sX6_begins_5 : Snd MX6_begins 5 (xPfI 8 6 3) := snd_pfI (M := MX6_begins) (pc := 5) (C0 := RX6) (T0 := TX6) (N := 32) dX6_begins_5 rfl tbX6 tyX6 tyX6_ok nmX6 (by decide) w482 rfl (by decide +kernel)
theorem sX6_begins_8 : Snd MX6_begins 8 (xLdA 9 0) := snd_aload_n (M := MX6_begins) (pc := 8) dX6_begins_8
theorem sX6_begins_9 : Snd MX6_begins 9 (xLdA 10 0) := snd_aload_n (M := MX6_begins) (pc := 9) dX6_begins_9
theorem sX6_begins_10 : Snd MX6_begins 10 (xGf 13 6 22) := snd_gf (M := MX6_begins) (pc := 10) (C0 := RX6) (T0 := TX6) (N := 32) dX6_begins_10 rfl tbX6 (by decide) w461
theorem sX6_begins_13 : Snd MX6_begins 13 (xPfI 16 6 4) := snd_pfI (M := MX6_begins) (pc := 13) (C0 := RX6) (T0 := TX6) (N := 32) dX6_begins_13 rfl tbX6 tyX6 tyX6_ok nmX6 (by decide) w483 rfl (by decide +kernel)
theorem sX6_begins_16 : Snd MX6_begins 16 (xLdA 17 0) := snd_aload_n (M := MX6_begins) (pc := 16) dX6_begins_16
theorem sX6_begins_17 : Snd MX6_begins 17 (xLdA 18 0) := snd_aload_n (M := MX6_begins) (pc := 17) dX6_begins_17
theorem sX6_begins_18 : Snd MX6_begins 18 (xGf 21 6 23) := snd_gf (M := MX6_begins) (pc := 18) (C0 := RX6) (T0 := TX6) (N := 32) dX6_begins_18 rfl tbX6 (by decide) w480
theorem sX6_begins_21 : Snd MX6_begins 21 (xPfI 24 6 5) := snd_pfI (M := MX6_begins) (pc := 21) (C0 := RX6) (T0 := TX6) (N := 32) dX6_begins_21 rfl tbX6 tyX6 tyX6_ok nmX6 (by decide) w475 rfl (by decide +kernel)
theorem sX6_begins_24 : Snd MX6_begins 24 (xLdA 25 0) := snd_aload_n (M := MX6_begins) (pc := 24) dX6_begins_24
theorem sX6_begins_25 : Snd MX6_begins 25 (xLdA 26 0) := snd_aload_n (M := MX6_begins) (pc := 25) dX6_begins_25
theorem sX6_begins_26 : Snd MX6_begins 26 (xGf 29 6 25) := snd_gf (M := MX6_begins) (pc := 26) (C0 := RX6) (T0 := TX6) (N := 32) dX6_begins_26 rfl tbX6 (by decide) w481
theorem sX6_begins_29 : Snd MX6_begins 29 (xPfI 32 6 9) := snd_pfI (M := MX6_begins) (pc := 29) (C0 := RX6) (T0 := TX6) (N := 32) dX6_begins_29 rfl tbX6 tyX6 tyX6_ok nmX6 (by decide) w479 rfl (by decide +kernel)
theorem sX6_begins_32 : Snd MX6_begins 32 (xK 33 (nI 0)) := snd_iconst (M := MX6_begins) (pc := 32) dX6_begins_32 (by decide +kernel)
theorem sX6_begins_33 : Snd MX6_begins 33 (xStI 34 1) := snd_istore_n (M := MX6_begins) (pc := 33) dX6_begins_33 (by decide)
theorem sX6_begins_34 : Snd MX6_begins 34 (xLdI 35 1) := snd_iload_n (M := MX6_begins) (pc := 34) dX6_begins_34
theorem sX6_begins_35 : Snd MX6_begins 35 (xLdA 36 0) := snd_aload_n (M := MX6_begins) (pc := 35) dX6_begins_35
theorem sX6_begins_36 : Snd MX6_begins 36 (xGf 39 6 5) := snd_gf (M := MX6_begins) (pc := 36) (C0 := RX6) (T0 := TX6) (N := 32) dX6_begins_36 rfl tbX6 (by decide) w475
theorem sX6_begins_39 : Snd MX6_begins 39 (xC_ge 94 42) := snd_icmp_ge (M := MX6_begins) (pc := 39) dX6_begins_39 (by decide)
theorem sX6_begins_42 : Snd MX6_begins 42 (xLdA 43 0) := snd_aload_n (M := MX6_begins) (pc := 42) dX6_begins_42
theorem sX6_begins_43 : Snd MX6_begins 43 (xGf 46 6 6) := snd_gf (M := MX6_begins) (pc := 43) (C0 := RX6) (T0 := TX6) (N := 32) dX6_begins_43 rfl tbX6 (by decide) w445
theorem sX6_begins_46 : Snd MX6_begins 46 (xLdI 47 1) := snd_iload_n (M := MX6_begins) (pc := 46) dX6_begins_46
theorem sX6_begins_47 : Snd MX6_begins 47 (xLdA 48 0) := snd_aload_n (M := MX6_begins) (pc := 47) dX6_begins_47
theorem sX6_begins_48 : Snd MX6_begins 48 (xGf 51 6 24) := snd_gf (M := MX6_begins) (pc := 48) (C0 := RX6) (T0 := TX6) (N := 32) dX6_begins_48 rfl tbX6 (by decide) w453
theorem sX6_begins_51 : Snd MX6_begins 51 (xK 52 (nI 3)) := snd_iconst (M := MX6_begins) (pc := 51) dX6_begins_51 (by decide +kernel)
theorem sX6_begins_52 : Snd MX6_begins 52 (xLdI 53 1) := snd_iload_n (M := MX6_begins) (pc := 52) dX6_begins_52
theorem sX6_begins_53 : Snd MX6_begins 53 (xBin 54 f_imul) := snd_imul (M := MX6_begins) (pc := 53) dX6_begins_53
theorem sX6_begins_54 : Snd MX6_begins 54 (xiaload 55) := snd_iaload (M := MX6_begins) (pc := 54) dX6_begins_54
theorem sX6_begins_55 : Snd MX6_begins 55 (xiastore 56) := snd_iastore (M := MX6_begins) (pc := 55) dX6_begins_55
theorem sX6_begins_56 : Snd MX6_begins 56 (xLdA 57 0) := snd_aload_n (M := MX6_begins) (pc := 56) dX6_begins_56
theorem sX6_begins_57 : Snd MX6_begins 57 (xGf 60 6 7) := snd_gf (M := MX6_begins) (pc := 57) (C0 := RX6) (T0 := TX6) (N := 32) dX6_begins_57 rfl tbX6 (by decide) w446
theorem sX6_begins_60 : Snd MX6_begins 60 (xLdI 61 1) := snd_iload_n (M := MX6_begins) (pc := 60) dX6_begins_60
theorem sX6_begins_61 : Snd MX6_begins 61 (xLdA 62 0) := snd_aload_n (M := MX6_begins) (pc := 61) dX6_begins_61
theorem sX6_begins_62 : Snd MX6_begins 62 (xGf 65 6 24) := snd_gf (M := MX6_begins) (pc := 62) (C0 := RX6) (T0 := TX6) (N := 32) dX6_begins_62 rfl tbX6 (by decide) w453
theorem sX6_begins_65 : Snd MX6_begins 65 (xK 66 (nI 3)) := snd_iconst (M := MX6_begins) (pc := 65) dX6_begins_65 (by decide +kernel)
theorem sX6_begins_66 : Snd MX6_begins 66 (xLdI 67 1) := snd_iload_n (M := MX6_begins) (pc := 66) dX6_begins_66
theorem sX6_begins_67 : Snd MX6_begins 67 (xBin 68 f_imul) := snd_imul (M := MX6_begins) (pc := 67) dX6_begins_67
theorem sX6_begins_68 : Snd MX6_begins 68 (xK 69 (nI 1)) := snd_iconst (M := MX6_begins) (pc := 68) dX6_begins_68 (by decide +kernel)
theorem sX6_begins_69 : Snd MX6_begins 69 (xBin 70 f_iadd) := snd_iadd (M := MX6_begins) (pc := 69) dX6_begins_69
theorem sX6_begins_70 : Snd MX6_begins 70 (xiaload 71) := snd_iaload (M := MX6_begins) (pc := 70) dX6_begins_70
theorem sX6_begins_71 : Snd MX6_begins 71 (xiastore 72) := snd_iastore (M := MX6_begins) (pc := 71) dX6_begins_71
theorem sX6_begins_72 : Snd MX6_begins 72 (xLdA 73 0) := snd_aload_n (M := MX6_begins) (pc := 72) dX6_begins_72
theorem sX6_begins_73 : Snd MX6_begins 73 (xGf 76 6 8) := snd_gf (M := MX6_begins) (pc := 73) (C0 := RX6) (T0 := TX6) (N := 32) dX6_begins_73 rfl tbX6 (by decide) w447
theorem sX6_begins_76 : Snd MX6_begins 76 (xLdI 77 1) := snd_iload_n (M := MX6_begins) (pc := 76) dX6_begins_76
theorem sX6_begins_77 : Snd MX6_begins 77 (xLdA 78 0) := snd_aload_n (M := MX6_begins) (pc := 77) dX6_begins_77
theorem sX6_begins_78 : Snd MX6_begins 78 (xGf 81 6 24) := snd_gf (M := MX6_begins) (pc := 78) (C0 := RX6) (T0 := TX6) (N := 32) dX6_begins_78 rfl tbX6 (by decide) w453
theorem sX6_begins_81 : Snd MX6_begins 81 (xK 82 (nI 3)) := snd_iconst (M := MX6_begins) (pc := 81) dX6_begins_81 (by decide +kernel)
theorem sX6_begins_82 : Snd MX6_begins 82 (xLdI 83 1) := snd_iload_n (M := MX6_begins) (pc := 82) dX6_begins_82
theorem sX6_begins_83 : Snd MX6_begins 83 (xBin 84 f_imul) := snd_imul (M := MX6_begins) (pc := 83) dX6_begins_83
theorem sX6_begins_84 : Snd MX6_begins 84 (xK 85 (nI 2)) := snd_iconst (M := MX6_begins) (pc := 84) dX6_begins_84 (by decide +kernel)
theorem sX6_begins_85 : Snd MX6_begins 85 (xBin 86 f_iadd) := snd_iadd (M := MX6_begins) (pc := 85) dX6_begins_85
theorem sX6_begins_86 : Snd MX6_begins 86 (xiaload 87) := snd_iaload (M := MX6_begins) (pc := 86) dX6_begins_86
theorem sX6_begins_87 : Snd MX6_begins 87 (xiastore 88) := snd_iastore (M := MX6_begins) (pc := 87) dX6_begins_87
theorem sX6_begins_88 : Snd MX6_begins 88 (xInc 91 1 (nI 1)) := snd_iinc (M := MX6_begins) (pc := 88) dX6_begins_88 (by decide +kernel) (by decide)
theorem sX6_begins_91 : Snd MX6_begins 91 (xGo 34) := snd_goto (M := MX6_begins) (pc := 91) dX6_begins_91 (by decide)
theorem sX6_begins_94 : Snd MX6_begins 94 (xK 95 (nI 0)) := snd_iconst (M := MX6_begins) (pc := 94) dX6_begins_94 (by decide +kernel)
theorem sX6_begins_95 : Snd MX6_begins 95 (xStI 96 1) := snd_istore_n (M := MX6_begins) (pc := 95) dX6_begins_95 (by decide)
theorem sX6_begins_96 : Snd MX6_begins 96 (xLdI 97 1) := snd_iload_n (M := MX6_begins) (pc := 96) dX6_begins_96
theorem sX6_begins_97 : Snd MX6_begins 97 (xLdA 98 0) := snd_aload_n (M := MX6_begins) (pc := 97) dX6_begins_97
theorem sX6_begins_98 : Snd MX6_begins 98 (xGf 101 6 9) := snd_gf (M := MX6_begins) (pc := 98) (C0 := RX6) (T0 := TX6) (N := 32) dX6_begins_98 rfl tbX6 (by decide) w479
theorem sX6_begins_101 : Snd MX6_begins 101 (xC_ge 168 104) := snd_icmp_ge (M := MX6_begins) (pc := 101) dX6_begins_101 (by decide)
theorem sX6_begins_104 : Snd MX6_begins 104 (xLdA 105 0) := snd_aload_n (M := MX6_begins) (pc := 104) dX6_begins_104
theorem sX6_begins_105 : Snd MX6_begins 105 (xGf 108 6 10) := snd_gf (M := MX6_begins) (pc := 105) (C0 := RX6) (T0 := TX6) (N := 32) dX6_begins_105 rfl tbX6 (by decide) w448
theorem sX6_begins_108 : Snd MX6_begins 108 (xLdI 109 1) := snd_iload_n (M := MX6_begins) (pc := 108) dX6_begins_108
theorem sX6_begins_109 : Snd MX6_begins 109 (xLdA 110 0) := snd_aload_n (M := MX6_begins) (pc := 109) dX6_begins_109
theorem sX6_begins_110 : Snd MX6_begins 110 (xGf 113 6 26) := snd_gf (M := MX6_begins) (pc := 110) (C0 := RX6) (T0 := TX6) (N := 32) dX6_begins_110 rfl tbX6 (by decide) w454
theorem sX6_begins_113 : Snd MX6_begins 113 (xK 114 (nI 3)) := snd_iconst (M := MX6_begins) (pc := 113) dX6_begins_113 (by decide +kernel)
theorem sX6_begins_114 : Snd MX6_begins 114 (xLdI 115 1) := snd_iload_n (M := MX6_begins) (pc := 114) dX6_begins_114
theorem sX6_begins_115 : Snd MX6_begins 115 (xBin 116 f_imul) := snd_imul (M := MX6_begins) (pc := 115) dX6_begins_115
theorem sX6_begins_116 : Snd MX6_begins 116 (xiaload 117) := snd_iaload (M := MX6_begins) (pc := 116) dX6_begins_116
theorem sX6_begins_117 : Snd MX6_begins 117 (xiastore 118) := snd_iastore (M := MX6_begins) (pc := 117) dX6_begins_117
theorem sX6_begins_118 : Snd MX6_begins 118 (xLdA 119 0) := snd_aload_n (M := MX6_begins) (pc := 118) dX6_begins_118
theorem sX6_begins_119 : Snd MX6_begins 119 (xGf 122 6 11) := snd_gf (M := MX6_begins) (pc := 119) (C0 := RX6) (T0 := TX6) (N := 32) dX6_begins_119 rfl tbX6 (by decide) w449
theorem sX6_begins_122 : Snd MX6_begins 122 (xLdI 123 1) := snd_iload_n (M := MX6_begins) (pc := 122) dX6_begins_122
theorem sX6_begins_123 : Snd MX6_begins 123 (xLdA 124 0) := snd_aload_n (M := MX6_begins) (pc := 123) dX6_begins_123
theorem sX6_begins_124 : Snd MX6_begins 124 (xGf 127 6 26) := snd_gf (M := MX6_begins) (pc := 124) (C0 := RX6) (T0 := TX6) (N := 32) dX6_begins_124 rfl tbX6 (by decide) w454
theorem sX6_begins_127 : Snd MX6_begins 127 (xK 128 (nI 3)) := snd_iconst (M := MX6_begins) (pc := 127) dX6_begins_127 (by decide +kernel)
theorem sX6_begins_128 : Snd MX6_begins 128 (xLdI 129 1) := snd_iload_n (M := MX6_begins) (pc := 128) dX6_begins_128
theorem sX6_begins_129 : Snd MX6_begins 129 (xBin 130 f_imul) := snd_imul (M := MX6_begins) (pc := 129) dX6_begins_129
theorem sX6_begins_130 : Snd MX6_begins 130 (xK 131 (nI 1)) := snd_iconst (M := MX6_begins) (pc := 130) dX6_begins_130 (by decide +kernel)
theorem sX6_begins_131 : Snd MX6_begins 131 (xBin 132 f_iadd) := snd_iadd (M := MX6_begins) (pc := 131) dX6_begins_131
theorem sX6_begins_132 : Snd MX6_begins 132 (xiaload 133) := snd_iaload (M := MX6_begins) (pc := 132) dX6_begins_132
theorem sX6_begins_133 : Snd MX6_begins 133 (xiastore 134) := snd_iastore (M := MX6_begins) (pc := 133) dX6_begins_133
theorem sX6_begins_134 : Snd MX6_begins 134 (xLdA 135 0) := snd_aload_n (M := MX6_begins) (pc := 134) dX6_begins_134
theorem sX6_begins_135 : Snd MX6_begins 135 (xGf 138 6 12) := snd_gf (M := MX6_begins) (pc := 135) (C0 := RX6) (T0 := TX6) (N := 32) dX6_begins_135 rfl tbX6 (by decide) w450
theorem sX6_begins_138 : Snd MX6_begins 138 (xLdI 139 1) := snd_iload_n (M := MX6_begins) (pc := 138) dX6_begins_138
theorem sX6_begins_139 : Snd MX6_begins 139 (xLdA 140 0) := snd_aload_n (M := MX6_begins) (pc := 139) dX6_begins_139
theorem sX6_begins_140 : Snd MX6_begins 140 (xGf 143 6 26) := snd_gf (M := MX6_begins) (pc := 140) (C0 := RX6) (T0 := TX6) (N := 32) dX6_begins_140 rfl tbX6 (by decide) w454
theorem sX6_begins_143 : Snd MX6_begins 143 (xK 144 (nI 3)) := snd_iconst (M := MX6_begins) (pc := 143) dX6_begins_143 (by decide +kernel)
theorem sX6_begins_144 : Snd MX6_begins 144 (xLdI 145 1) := snd_iload_n (M := MX6_begins) (pc := 144) dX6_begins_144
theorem sX6_begins_145 : Snd MX6_begins 145 (xBin 146 f_imul) := snd_imul (M := MX6_begins) (pc := 145) dX6_begins_145
theorem sX6_begins_146 : Snd MX6_begins 146 (xK 147 (nI 2)) := snd_iconst (M := MX6_begins) (pc := 146) dX6_begins_146 (by decide +kernel)
theorem sX6_begins_147 : Snd MX6_begins 147 (xBin 148 f_iadd) := snd_iadd (M := MX6_begins) (pc := 147) dX6_begins_147
theorem sX6_begins_148 : Snd MX6_begins 148 (xiaload 149) := snd_iaload (M := MX6_begins) (pc := 148) dX6_begins_148
theorem sX6_begins_149 : Snd MX6_begins 149 (xiastore 150) := snd_iastore (M := MX6_begins) (pc := 149) dX6_begins_149
theorem sX6_begins_150 : Snd MX6_begins 150 (xLdA 151 0) := snd_aload_n (M := MX6_begins) (pc := 150) dX6_begins_150
theorem sX6_begins_151 : Snd MX6_begins 151 (xGf 154 6 13) := snd_gf (M := MX6_begins) (pc := 151) (C0 := RX6) (T0 := TX6) (N := 32) dX6_begins_151 rfl tbX6 (by decide) w451
theorem sX6_begins_154 : Snd MX6_begins 154 (xLdI 155 1) := snd_iload_n (M := MX6_begins) (pc := 154) dX6_begins_154
theorem sX6_begins_155 : Snd MX6_begins 155 (xLdA 156 0) := snd_aload_n (M := MX6_begins) (pc := 155) dX6_begins_155
theorem sX6_begins_156 : Snd MX6_begins 156 (xGf 159 6 27) := snd_gf (M := MX6_begins) (pc := 156) (C0 := RX6) (T0 := TX6) (N := 32) dX6_begins_156 rfl tbX6 (by decide) w455
theorem sX6_begins_159 : Snd MX6_begins 159 (xLdI 160 1) := snd_iload_n (M := MX6_begins) (pc := 159) dX6_begins_159
theorem sX6_begins_160 : Snd MX6_begins 160 (xiaload 161) := snd_iaload (M := MX6_begins) (pc := 160) dX6_begins_160
theorem sX6_begins_161 : Snd MX6_begins 161 (xiastore 162) := snd_iastore (M := MX6_begins) (pc := 161) dX6_begins_161
theorem sX6_begins_162 : Snd MX6_begins 162 (xInc 165 1 (nI 1)) := snd_iinc (M := MX6_begins) (pc := 162) dX6_begins_162 (by decide +kernel) (by decide)
theorem sX6_begins_165 : Snd MX6_begins 165 (xGo 96) := snd_goto (M := MX6_begins) (pc := 165) dX6_begins_165 (by decide)
theorem sX6_begins_168 : Snd MX6_begins 168 (xLdA 169 0) := snd_aload_n (M := MX6_begins) (pc := 168) dX6_begins_168
theorem sX6_begins_169 : Snd MX6_begins 169 (xGf 172 6 0) := snd_gf (M := MX6_begins) (pc := 169) (C0 := RX6) (T0 := TX6) (N := 32) dX6_begins_169 rfl tbX6 (by decide) w444
theorem sX6_begins_172 : Snd MX6_begins 172 (xK 173 (nI 0)) := snd_iconst (M := MX6_begins) (pc := 172) dX6_begins_172 (by decide +kernel)
theorem sX6_begins_173 : Snd MX6_begins 173 (xK 174 (nI 0)) := snd_iconst (M := MX6_begins) (pc := 173) dX6_begins_173 (by decide +kernel)
theorem sX6_begins_174 : Snd MX6_begins 174 (xiastore 175) := snd_iastore (M := MX6_begins) (pc := 174) dX6_begins_174
theorem sX6_begins_175 : Snd MX6_begins 175 (xLdA 176 0) := snd_aload_n (M := MX6_begins) (pc := 175) dX6_begins_175
theorem sX6_begins_176 : Snd MX6_begins 176 (xGf 179 6 0) := snd_gf (M := MX6_begins) (pc := 176) (C0 := RX6) (T0 := TX6) (N := 32) dX6_begins_176 rfl tbX6 (by decide) w444
theorem sX6_begins_179 : Snd MX6_begins 179 (xK 180 (nI 1)) := snd_iconst (M := MX6_begins) (pc := 179) dX6_begins_179 (by decide +kernel)
theorem sX6_begins_180 : Snd MX6_begins 180 (xLdA 181 0) := snd_aload_n (M := MX6_begins) (pc := 180) dX6_begins_180
theorem sX6_begins_181 : Snd MX6_begins 181 (xGf 184 6 4) := snd_gf (M := MX6_begins) (pc := 181) (C0 := RX6) (T0 := TX6) (N := 32) dX6_begins_181 rfl tbX6 (by decide) w483
theorem sX6_begins_184 : Snd MX6_begins 184 (xiastore 185) := snd_iastore (M := MX6_begins) (pc := 184) dX6_begins_184
theorem sX6_begins_185 : Snd MX6_begins 185 (xLdA 186 0) := snd_aload_n (M := MX6_begins) (pc := 185) dX6_begins_185
theorem sX6_begins_186 : Snd MX6_begins 186 (xGf 189 6 0) := snd_gf (M := MX6_begins) (pc := 186) (C0 := RX6) (T0 := TX6) (N := 32) dX6_begins_186 rfl tbX6 (by decide) w444
theorem sX6_begins_189 : Snd MX6_begins 189 (xK 190 (nI 2)) := snd_iconst (M := MX6_begins) (pc := 189) dX6_begins_189 (by decide +kernel)
theorem sX6_begins_190 : Snd MX6_begins 190 (xK 191 (nI 0)) := snd_iconst (M := MX6_begins) (pc := 190) dX6_begins_190 (by decide +kernel)
theorem sX6_begins_191 : Snd MX6_begins 191 (xiastore 192) := snd_iastore (M := MX6_begins) (pc := 191) dX6_begins_191
theorem sX6_begins_192 : Snd MX6_begins 192 (xLdA 193 0) := snd_aload_n (M := MX6_begins) (pc := 192) dX6_begins_192
theorem sX6_begins_193 : Snd MX6_begins 193 (xGf 196 6 0) := snd_gf (M := MX6_begins) (pc := 193) (C0 := RX6) (T0 := TX6) (N := 32) dX6_begins_193 rfl tbX6 (by decide) w444
theorem sX6_begins_196 : Snd MX6_begins 196 (xK 197 (nI 3)) := snd_iconst (M := MX6_begins) (pc := 196) dX6_begins_196 (by decide +kernel)
theorem sX6_begins_197 : Snd MX6_begins 197 (xK 198 (nI 0)) := snd_iconst (M := MX6_begins) (pc := 197) dX6_begins_197 (by decide +kernel)
theorem sX6_begins_198 : Snd MX6_begins 198 (xiastore 199) := snd_iastore (M := MX6_begins) (pc := 198) dX6_begins_198
theorem sX6_begins_199 : Snd MX6_begins 199 (xLdA 200 0) := snd_aload_n (M := MX6_begins) (pc := 199) dX6_begins_199
theorem sX6_begins_200 : Snd MX6_begins 200 (xK 201 (nI 0)) := snd_iconst (M := MX6_begins) (pc := 200) dX6_begins_200 (by decide +kernel)
theorem sX6_begins_201 : Snd MX6_begins 201 (xPfI 204 6 1) := snd_pfI (M := MX6_begins) (pc := 201) (C0 := RX6) (T0 := TX6) (N := 32) dX6_begins_201 rfl tbX6 tyX6 tyX6_ok nmX6 (by decide) w484 rfl (by decide +kernel)
theorem sX6_begins_204 : Snd MX6_begins 204 (xLdA 205 0) := snd_aload_n (M := MX6_begins) (pc := 204) dX6_begins_204
theorem sX6_begins_205 : Snd MX6_begins 205 (xK 206 (nI 0)) := snd_iconst (M := MX6_begins) (pc := 205) dX6_begins_205 (by decide +kernel)
theorem sX6_begins_206 : Snd MX6_begins 206 (xPfI 209 6 2) := snd_pfI (M := MX6_begins) (pc := 206) (C0 := RX6) (T0 := TX6) (N := 32) dX6_begins_206 rfl tbX6 tyX6 tyX6_ok nmX6 (by decide) w485 rfl (by decide +kernel)
theorem sX6_begins_209 : Snd MX6_begins 209 (xLdA 210 0) := snd_aload_n (M := MX6_begins) (pc := 209) dX6_begins_209
theorem sX6_begins_210 : Snd MX6_begins 210 (xCallV MX6_forget 6 0 213) := snd_callV (M := MX6_begins) (pc := 210) (n := 0) dX6_begins_210 rfl w487 w488 w489 ⟨w462, w486, ⟨by decide, by decide, by decide +kernel⟩, by decide⟩ ⟨rfl, rfl⟩
theorem sX6_begins_213 : Snd MX6_begins 213 (xPop 214) := snd_pop (M := MX6_begins) (pc := 213) dX6_begins_213
theorem sX6_begins_214 : Snd MX6_begins 214 (xRetV) := snd_vret (M := MX6_begins) (pc := 214) dX6_begins_214 rfl
theorem VX6_begins : Valid MX6_begins LX6_begins := va_lid sX6_begins_0 (va_lid sX6_begins_1 (va_lid sX6_begins_2 (va_lid sX6_begins_5 (va_lid sX6_begins_8 (va_lid sX6_begins_9 (va_lid sX6_begins_10 (va_lid sX6_begins_13 (va_lid sX6_begins_16 (va_lid sX6_begins_17 (va_lid sX6_begins_18 (va_lid sX6_begins_21 (va_lid sX6_begins_24 (va_lid sX6_begins_25 (va_lid sX6_begins_26 (va_lid sX6_begins_29 (va_lid sX6_begins_32 (va_lid sX6_begins_33 (va_lid sX6_begins_34 (va_lid sX6_begins_35 (va_lid sX6_begins_36 (va_lid sX6_begins_39 (va_lid sX6_begins_42 (va_lid sX6_begins_43 (va_lid sX6_begins_46 (va_lid sX6_begins_47 (va_lid sX6_begins_48 (va_lid sX6_begins_51 (va_lid sX6_begins_52 (va_lid sX6_begins_53 (va_lid sX6_begins_54 (va_lid sX6_begins_55 (va_lid sX6_begins_56 (va_lid sX6_begins_57 (va_lid sX6_begins_60 (va_lid sX6_begins_61 (va_lid sX6_begins_62 (va_lid sX6_begins_65 (va_lid sX6_begins_66 (va_lid sX6_begins_67 (va_lid sX6_begins_68 (va_lid sX6_begins_69 (va_lid sX6_begins_70 (va_lid sX6_begins_71 (va_lid sX6_begins_72 (va_lid sX6_begins_73 (va_lid sX6_begins_76 (va_lid sX6_begins_77 (va_lid sX6_begins_78 (va_lid sX6_begins_81 (va_lid sX6_begins_82 (va_lid sX6_begins_83 (va_lid sX6_begins_84 (va_lid sX6_begins_85 (va_lid sX6_begins_86 (va_lid sX6_begins_87 (va_lid sX6_begins_88 (va_lid sX6_begins_91 (va_lid sX6_begins_94 (va_lid sX6_begins_95 (va_lid sX6_begins_96 (va_lid sX6_begins_97 (va_lid sX6_begins_98 (va_lid sX6_begins_101 (va_lid sX6_begins_104 (va_lid sX6_begins_105 (va_lid sX6_begins_108 (va_lid sX6_begins_109 (va_lid sX6_begins_110 (va_lid sX6_begins_113 (va_lid sX6_begins_114 (va_lid sX6_begins_115 (va_lid sX6_begins_116 (va_lid sX6_begins_117 (va_lid sX6_begins_118 (va_lid sX6_begins_119 (va_lid sX6_begins_122 (va_lid sX6_begins_123 (va_lid sX6_begins_124 (va_lid sX6_begins_127 (va_lid sX6_begins_128 (va_lid sX6_begins_129 (va_lid sX6_begins_130 (va_lid sX6_begins_131 (va_lid sX6_begins_132 (va_lid sX6_begins_133 (va_lid sX6_begins_134 (va_lid sX6_begins_135 (va_lid sX6_begins_138 (va_lid sX6_begins_139 (va_lid sX6_begins_140 (va_lid sX6_begins_143 (va_lid sX6_begins_144 (va_lid sX6_begins_145 (va_lid sX6_begins_146 (va_lid sX6_begins_147 (va_lid sX6_begins_148 (va_lid sX6_begins_149 (va_lid sX6_begins_150 (va_lid sX6_begins_151 (va_lid sX6_begins_154 (va_lid sX6_begins_155 (va_lid sX6_begins_156 (va_lid sX6_begins_159 (va_lid sX6_begins_160 (va_lid sX6_begins_161 (va_lid sX6_begins_162 (va_lid sX6_begins_165 (va_lid sX6_begins_168 (va_lid sX6_begins_169 (va_lid sX6_begins_172 (va_lid sX6_begins_173 (va_lid sX6_begins_174 (va_lid sX6_begins_175 (va_lid sX6_begins_176 (va_lid sX6_begins_179 (va_lid sX6_begins_180 (va_lid sX6_begins_181 (va_lid sX6_begins_184 (va_lid sX6_begins_185 (va_lid sX6_begins_186 (va_lid sX6_begins_189 (va_lid sX6_begins_190 (va_lid sX6_begins_191 (va_lid sX6_begins_192 (va_lid sX6_begins_193 (va_lid sX6_begins_196 (va_lid sX6_begins_197 (va_lid sX6_begins_198 (va_lid sX6_begins_199 (va_lid sX6_begins_200 (va_lid sX6_begins_201 (va_lid sX6_begins_204 (va_lid sX6_begins_205 (va_lid sX6_begins_206 (va_lid sX6_begins_209 (va_lid sX6_begins_210 (va_lid sX6_begins_213 (va_lid sX6_begins_214 (va_lid0)))))))))))))))))))))))))))))))))))))))))))))))))))))))))))))))))))))))))))))))))))))))))))))))))))))))))))))))))))))))))))))))))))))))))))
theorem kX6_begins_0 : lk LX6_begins 0 = some (xLdA 1 0) := rfl
theorem kX6_begins_1 : lk LX6_begins 1 = some (xLdA 2 0) := rfl
theorem kX6_begins_2 : lk LX6_begins 2 = some (xGf 5 6 21) := rfl
theorem kX6_begins_5 : lk LX6_begins 5 = some (xPfI 8 6 3) := rfl
theorem kX6_begins_8 : lk LX6_begins 8 = some (xLdA 9 0) := rfl
theorem kX6_begins_9 : lk LX6_begins 9 = some (xLdA 10 0) := rfl
theorem kX6_begins_10 : lk LX6_begins 10 = some (xGf 13 6 22) := rfl
theorem kX6_begins_13 : lk LX6_begins 13 = some (xPfI 16 6 4) := rfl
theorem kX6_begins_16 : lk LX6_begins 16 = some (xLdA 17 0) := rfl
theorem kX6_begins_17 : lk LX6_begins 17 = some (xLdA 18 0) := rfl
theorem kX6_begins_18 : lk LX6_begins 18 = some (xGf 21 6 23) := rfl
theorem kX6_begins_21 : lk LX6_begins 21 = some (xPfI 24 6 5) := rfl
theorem kX6_begins_24 : lk LX6_begins 24 = some (xLdA 25 0) := rfl
theorem kX6_begins_25 : lk LX6_begins 25 = some (xLdA 26 0) := rfl
theorem kX6_begins_26 : lk LX6_begins 26 = some (xGf 29 6 25) := rfl
theorem kX6_begins_29 : lk LX6_begins 29 = some (xPfI 32 6 9) := rfl
theorem kX6_begins_32 : lk LX6_begins 32 = some (xK 33 (nI 0)) := rfl
theorem kX6_begins_33 : lk LX6_begins 33 = some (xStI 34 1) := rfl
theorem kX6_begins_34 : lk LX6_begins 34 = some (xLdI 35 1) := rfl
theorem kX6_begins_35 : lk LX6_begins 35 = some (xLdA 36 0) := rfl
theorem kX6_begins_36 : lk LX6_begins 36 = some (xGf 39 6 5) := rfl
theorem kX6_begins_39 : lk LX6_begins 39 = some (xC_ge 94 42) := rfl
theorem kX6_begins_42 : lk LX6_begins 42 = some (xLdA 43 0) := rfl
theorem kX6_begins_43 : lk LX6_begins 43 = some (xGf 46 6 6) := rfl
theorem kX6_begins_46 : lk LX6_begins 46 = some (xLdI 47 1) := rfl
theorem kX6_begins_47 : lk LX6_begins 47 = some (xLdA 48 0) := rfl
theorem kX6_begins_48 : lk LX6_begins 48 = some (xGf 51 6 24) := rfl
theorem kX6_begins_51 : lk LX6_begins 51 = some (xK 52 (nI 3)) := rfl
theorem kX6_begins_52 : lk LX6_begins 52 = some (xLdI 53 1) := rfl
theorem kX6_begins_53 : lk LX6_begins 53 = some (xBin 54 f_imul) := rfl
theorem kX6_begins_54 : lk LX6_begins 54 = some (xiaload 55) := rfl
theorem kX6_begins_55 : lk LX6_begins 55 = some (xiastore 56) := rfl
theorem kX6_begins_56 : lk LX6_begins 56 = some (xLdA 57 0) := rfl
theorem kX6_begins_57 : lk LX6_begins 57 = some (xGf 60 6 7) := rfl
theorem kX6_begins_60 : lk LX6_begins 60 = some (xLdI 61 1) := rfl
theorem kX6_begins_61 : lk LX6_begins 61 = some (xLdA 62 0) := rfl
theorem kX6_begins_62 : lk LX6_begins 62 = some (xGf 65 6 24) := rfl
theorem kX6_begins_65 : lk LX6_begins 65 = some (xK 66 (nI 3)) := rfl
theorem kX6_begins_66 : lk LX6_begins 66 = some (xLdI 67 1) := rfl
theorem kX6_begins_67 : lk LX6_begins 67 = some (xBin 68 f_imul) := rfl
theorem kX6_begins_68 : lk LX6_begins 68 = some (xK 69 (nI 1)) := rfl
theorem kX6_begins_69 : lk LX6_begins 69 = some (xBin 70 f_iadd) := rfl
theorem kX6_begins_70 : lk LX6_begins 70 = some (xiaload 71) := rfl
theorem kX6_begins_71 : lk LX6_begins 71 = some (xiastore 72) := rfl
theorem kX6_begins_72 : lk LX6_begins 72 = some (xLdA 73 0) := rfl
theorem kX6_begins_73 : lk LX6_begins 73 = some (xGf 76 6 8) := rfl
theorem kX6_begins_76 : lk LX6_begins 76 = some (xLdI 77 1) := rfl
theorem kX6_begins_77 : lk LX6_begins 77 = some (xLdA 78 0) := rfl
theorem kX6_begins_78 : lk LX6_begins 78 = some (xGf 81 6 24) := rfl
theorem kX6_begins_81 : lk LX6_begins 81 = some (xK 82 (nI 3)) := rfl
theorem kX6_begins_82 : lk LX6_begins 82 = some (xLdI 83 1) := rfl
theorem kX6_begins_83 : lk LX6_begins 83 = some (xBin 84 f_imul) := rfl
theorem kX6_begins_84 : lk LX6_begins 84 = some (xK 85 (nI 2)) := rfl
theorem kX6_begins_85 : lk LX6_begins 85 = some (xBin 86 f_iadd) := rfl
theorem kX6_begins_86 : lk LX6_begins 86 = some (xiaload 87) := rfl
theorem kX6_begins_87 : lk LX6_begins 87 = some (xiastore 88) := rfl
theorem kX6_begins_88 : lk LX6_begins 88 = some (xInc 91 1 (nI 1)) := rfl
theorem kX6_begins_91 : lk LX6_begins 91 = some (xGo 34) := rfl
theorem kX6_begins_94 : lk LX6_begins 94 = some (xK 95 (nI 0)) := rfl
theorem kX6_begins_95 : lk LX6_begins 95 = some (xStI 96 1) := rfl
theorem kX6_begins_96 : lk LX6_begins 96 = some (xLdI 97 1) := rfl
theorem kX6_begins_97 : lk LX6_begins 97 = some (xLdA 98 0) := rfl
theorem kX6_begins_98 : lk LX6_begins 98 = some (xGf 101 6 9) := rfl
theorem kX6_begins_101 : lk LX6_begins 101 = some (xC_ge 168 104) := rfl
theorem kX6_begins_104 : lk LX6_begins 104 = some (xLdA 105 0) := rfl
theorem kX6_begins_105 : lk LX6_begins 105 = some (xGf 108 6 10) := rfl
theorem kX6_begins_108 : lk LX6_begins 108 = some (xLdI 109 1) := rfl
theorem kX6_begins_109 : lk LX6_begins 109 = some (xLdA 110 0) := rfl
theorem kX6_begins_110 : lk LX6_begins 110 = some (xGf 113 6 26) := rfl
theorem kX6_begins_113 : lk LX6_begins 113 = some (xK 114 (nI 3)) := rfl
theorem kX6_begins_114 : lk LX6_begins 114 = some (xLdI 115 1) := rfl
theorem kX6_begins_115 : lk LX6_begins 115 = some (xBin 116 f_imul) := rfl
theorem kX6_begins_116 : lk LX6_begins 116 = some (xiaload 117) := rfl
theorem kX6_begins_117 : lk LX6_begins 117 = some (xiastore 118) := rfl
theorem kX6_begins_118 : lk LX6_begins 118 = some (xLdA 119 0) := rfl
theorem kX6_begins_119 : lk LX6_begins 119 = some (xGf 122 6 11) := rfl
theorem kX6_begins_122 : lk LX6_begins 122 = some (xLdI 123 1) := rfl
theorem kX6_begins_123 : lk LX6_begins 123 = some (xLdA 124 0) := rfl
theorem kX6_begins_124 : lk LX6_begins 124 = some (xGf 127 6 26) := rfl
theorem kX6_begins_127 : lk LX6_begins 127 = some (xK 128 (nI 3)) := rfl
set_option maxRecDepth 20000 in
theorem kX6_begins_128 : lk LX6_begins 128 = some (xLdI 129 1) := rfl
set_option maxRecDepth 20000 in
theorem kX6_begins_129 : lk LX6_begins 129 = some (xBin 130 f_imul) := rfl
set_option maxRecDepth 20000 in
theorem kX6_begins_130 : lk LX6_begins 130 = some (xK 131 (nI 1)) := rfl
set_option maxRecDepth 20000 in
theorem kX6_begins_131 : lk LX6_begins 131 = some (xBin 132 f_iadd) := rfl
set_option maxRecDepth 20000 in
theorem kX6_begins_132 : lk LX6_begins 132 = some (xiaload 133) := rfl
set_option maxRecDepth 20000 in
theorem kX6_begins_133 : lk LX6_begins 133 = some (xiastore 134) := rfl
set_option maxRecDepth 20000 in
theorem kX6_begins_134 : lk LX6_begins 134 = some (xLdA 135 0) := rfl
set_option maxRecDepth 20000 in
theorem kX6_begins_135 : lk LX6_begins 135 = some (xGf 138 6 12) := rfl
set_option maxRecDepth 20000 in
theorem kX6_begins_138 : lk LX6_begins 138 = some (xLdI 139 1) := rfl
set_option maxRecDepth 20000 in
theorem kX6_begins_139 : lk LX6_begins 139 = some (xLdA 140 0) := rfl
set_option maxRecDepth 20000 in
theorem kX6_begins_140 : lk LX6_begins 140 = some (xGf 143 6 26) := rfl
set_option maxRecDepth 20000 in
theorem kX6_begins_143 : lk LX6_begins 143 = some (xK 144 (nI 3)) := rfl
set_option maxRecDepth 20000 in
theorem kX6_begins_144 : lk LX6_begins 144 = some (xLdI 145 1) := rfl
set_option maxRecDepth 20000 in
theorem kX6_begins_145 : lk LX6_begins 145 = some (xBin 146 f_imul) := rfl
set_option maxRecDepth 20000 in
theorem kX6_begins_146 : lk LX6_begins 146 = some (xK 147 (nI 2)) := rfl
set_option maxRecDepth 20000 in
theorem kX6_begins_147 : lk LX6_begins 147 = some (xBin 148 f_iadd) := rfl
set_option maxRecDepth 20000 in
theorem kX6_begins_148 : lk LX6_begins 148 = some (xiaload 149) := rfl
set_option maxRecDepth 20000 in
theorem kX6_begins_149 : lk LX6_begins 149 = some (xiastore 150) := rfl
set_option maxRecDepth 20000 in
theorem kX6_begins_150 : lk LX6_begins 150 = some (xLdA 151 0) := rfl
set_option maxRecDepth 20000 in
theorem kX6_begins_151 : lk LX6_begins 151 = some (xGf 154 6 13) := rfl
set_option maxRecDepth 20000 in
theorem kX6_begins_154 : lk LX6_begins 154 = some (xLdI 155 1) := rfl
set_option maxRecDepth 20000 in
theorem kX6_begins_155 : lk LX6_begins 155 = some (xLdA 156 0) := rfl
set_option maxRecDepth 20000 in
theorem kX6_begins_156 : lk LX6_begins 156 = some (xGf 159 6 27) := rfl
set_option maxRecDepth 20000 in
theorem kX6_begins_159 : lk LX6_begins 159 = some (xLdI 160 1) := rfl
set_option maxRecDepth 20000 in
theorem kX6_begins_160 : lk LX6_begins 160 = some (xiaload 161) := rfl
set_option maxRecDepth 20000 in
theorem kX6_begins_161 : lk LX6_begins 161 = some (xiastore 162) := rfl
set_option maxRecDepth 20000 in
theorem kX6_begins_162 : lk LX6_begins 162 = some (xInc 165 1 (nI 1)) := rfl
set_option maxRecDepth 20000 in
theorem kX6_begins_165 : lk LX6_begins 165 = some (xGo 96) := rfl
set_option maxRecDepth 20000 in
theorem kX6_begins_168 : lk LX6_begins 168 = some (xLdA 169 0) := rfl
set_option maxRecDepth 20000 in
theorem kX6_begins_169 : lk LX6_begins 169 = some (xGf 172 6 0) := rfl
set_option maxRecDepth 20000 in
theorem kX6_begins_172 : lk LX6_begins 172 = some (xK 173 (nI 0)) := rfl
set_option maxRecDepth 20000 in
theorem kX6_begins_173 : lk LX6_begins 173 = some (xK 174 (nI 0)) := rfl
set_option maxRecDepth 20000 in
theorem kX6_begins_174 : lk LX6_begins 174 = some (xiastore 175) := rfl
set_option maxRecDepth 20000 in
theorem kX6_begins_175 : lk LX6_begins 175 = some (xLdA 176 0) := rfl
set_option maxRecDepth 20000 in
theorem kX6_begins_176 : lk LX6_begins 176 = some (xGf 179 6 0) := rfl
set_option maxRecDepth 20000 in
theorem kX6_begins_179 : lk LX6_begins 179 = some (xK 180 (nI 1)) := rfl
set_option maxRecDepth 20000 in
theorem kX6_begins_180 : lk LX6_begins 180 = some (xLdA 181 0) := rfl
set_option maxRecDepth 20000 in
theorem kX6_begins_181 : lk LX6_begins 181 = some (xGf 184 6 4) := rfl
set_option maxRecDepth 20000 in
theorem kX6_begins_184 : lk LX6_begins 184 = some (xiastore 185) := rfl
set_option maxRecDepth 20000 in
theorem kX6_begins_185 : lk LX6_begins 185 = some (xLdA 186 0) := rfl
set_option maxRecDepth 20000 in
theorem kX6_begins_186 : lk LX6_begins 186 = some (xGf 189 6 0) := rfl
set_option maxRecDepth 20000 in
theorem kX6_begins_189 : lk LX6_begins 189 = some (xK 190 (nI 2)) := rfl
set_option maxRecDepth 20000 in
theorem kX6_begins_190 : lk LX6_begins 190 = some (xK 191 (nI 0)) := rfl
set_option maxRecDepth 20000 in
theorem kX6_begins_191 : lk LX6_begins 191 = some (xiastore 192) := rfl
set_option maxRecDepth 20000 in
theorem kX6_begins_192 : lk LX6_begins 192 = some (xLdA 193 0) := rfl
set_option maxRecDepth 20000 in
theorem kX6_begins_193 : lk LX6_begins 193 = some (xGf 196 6 0) := rfl
set_option maxRecDepth 20000 in
theorem kX6_begins_196 : lk LX6_begins 196 = some (xK 197 (nI 3)) := rfl
set_option maxRecDepth 20000 in
theorem kX6_begins_197 : lk LX6_begins 197 = some (xK 198 (nI 0)) := rfl
set_option maxRecDepth 20000 in
theorem kX6_begins_198 : lk LX6_begins 198 = some (xiastore 199) := rfl
set_option maxRecDepth 20000 in
theorem kX6_begins_199 : lk LX6_begins 199 = some (xLdA 200 0) := rfl
set_option maxRecDepth 20000 in
theorem kX6_begins_200 : lk LX6_begins 200 = some (xK 201 (nI 0)) := rfl
set_option maxRecDepth 20000 in
theorem kX6_begins_201 : lk LX6_begins 201 = some (xPfI 204 6 1) := rfl
set_option maxRecDepth 20000 in
theorem kX6_begins_204 : lk LX6_begins 204 = some (xLdA 205 0) := rfl
set_option maxRecDepth 20000 in
theorem kX6_begins_205 : lk LX6_begins 205 = some (xK 206 (nI 0)) := rfl
set_option maxRecDepth 20000 in
theorem kX6_begins_206 : lk LX6_begins 206 = some (xPfI 209 6 2) := rfl
set_option maxRecDepth 20000 in
theorem kX6_begins_209 : lk LX6_begins 209 = some (xLdA 210 0) := rfl
set_option maxRecDepth 20000 in
theorem kX6_begins_210 : lk LX6_begins 210 = some (xCallV MX6_forget 6 0 213) := rfl
set_option maxRecDepth 20000 in
theorem kX6_begins_213 : lk LX6_begins 213 = some (xPop 214) := rfl
set_option maxRecDepth 20000 in
theorem kX6_begins_214 : lk LX6_begins 214 = some (xRetV) := rfl
def LX6_write : List (Nat × XI) := [(0, xLdI 1 1),
  (1, xI2l 2),
  (2, xKL 5 (lN 32)),
  (5, xKL 8 (lN 126)),
  (8, xCallS MX6_in 3 11),
  (11, xZ_ne 16 14),
  (14, xK 15 ((-1))),
  (15, xRet),
  (16, xLdA 17 0),
  (17, xGf 20 6 18),
  (20, xK 23 (nI 200)),
  (23, xC_ne 29 26),
  (26, xK 28 ((-3))),
  (28, xRet),
  (29, xLdA 30 0),
  (30, xGf 33 6 17),
  (33, xLdA 34 0),
  (34, xGf 37 6 18),
  (37, xLdI 38 1),
  (38, xiastore 39),
  (39, xLdA 40 0),
  (40, xDup 41),
  (41, xGf 44 6 18),
  (44, xK 45 (nI 1)),
  (45, xBin 46 f_iadd),
  (46, xPfI 49 6 18),
  (49, xLdA 50 0),
  (50, xGf 53 6 18),
  (53, xRet)]
theorem sX6_write_0 : Snd MX6_write 0 (xLdI 1 1) := snd_iload_n (M := MX6_write) (pc := 0) dX6_write_0
theorem sX6_write_1 : Snd MX6_write 1 (xI2l 2) := snd_i2l (M := MX6_write) (pc := 1) dX6_write_1
theorem sX6_write_2 : Snd MX6_write 2 (xKL 5 (lN 32)) := snd_ldc2 (M := MX6_write) (pc := 2) dX6_write_2 w490
theorem sX6_write_5 : Snd MX6_write 5 (xKL 8 (lN 126)) := snd_ldc2 (M := MX6_write) (pc := 5) dX6_write_5 w491
theorem sX6_write_8 : Snd MX6_write 8 (xCallS MX6_in 3 11) := snd_callS (M := MX6_write) (pc := 8) (n := 3) dX6_write_8 w477 w478 ⟨w462, w476, ⟨by decide, by decide, by decide +kernel⟩, by decide⟩ ⟨rfl, rfl⟩
theorem sX6_write_11 : Snd MX6_write 11 (xZ_ne 16 14) := snd_if_ne (M := MX6_write) (pc := 11) dX6_write_11 (by decide)
theorem sX6_write_14 : Snd MX6_write 14 (xK 15 ((-1))) := snd_iconst (M := MX6_write) (pc := 14) dX6_write_14 (by decide +kernel)
theorem sX6_write_15 : Snd MX6_write 15 (xRet) := snd_iret (M := MX6_write) (pc := 15) dX6_write_15 rfl
theorem sX6_write_16 : Snd MX6_write 16 (xLdA 17 0) := snd_aload_n (M := MX6_write) (pc := 16) dX6_write_16
theorem sX6_write_17 : Snd MX6_write 17 (xGf 20 6 18) := snd_gf (M := MX6_write) (pc := 17) (C0 := RX6) (T0 := TX6) (N := 32) dX6_write_17 rfl tbX6 (by decide) w492
theorem sX6_write_20 : Snd MX6_write 20 (xK 23 (nI 200)) := snd_sipush (M := MX6_write) (pc := 20) dX6_write_20 (by decide +kernel)
theorem sX6_write_23 : Snd MX6_write 23 (xC_ne 29 26) := snd_icmp_ne (M := MX6_write) (pc := 23) dX6_write_23 (by decide)
theorem sX6_write_26 : Snd MX6_write 26 (xK 28 ((-3))) := snd_bipush (M := MX6_write) (pc := 26) dX6_write_26 (by decide +kernel)
theorem sX6_write_28 : Snd MX6_write 28 (xRet) := snd_iret (M := MX6_write) (pc := 28) dX6_write_28 rfl
theorem sX6_write_29 : Snd MX6_write 29 (xLdA 30 0) := snd_aload_n (M := MX6_write) (pc := 29) dX6_write_29
theorem sX6_write_30 : Snd MX6_write 30 (xGf 33 6 17) := snd_gf (M := MX6_write) (pc := 30) (C0 := RX6) (T0 := TX6) (N := 32) dX6_write_30 rfl tbX6 (by decide) w452
theorem sX6_write_33 : Snd MX6_write 33 (xLdA 34 0) := snd_aload_n (M := MX6_write) (pc := 33) dX6_write_33
theorem sX6_write_34 : Snd MX6_write 34 (xGf 37 6 18) := snd_gf (M := MX6_write) (pc := 34) (C0 := RX6) (T0 := TX6) (N := 32) dX6_write_34 rfl tbX6 (by decide) w492
theorem sX6_write_37 : Snd MX6_write 37 (xLdI 38 1) := snd_iload_n (M := MX6_write) (pc := 37) dX6_write_37
theorem sX6_write_38 : Snd MX6_write 38 (xiastore 39) := snd_iastore (M := MX6_write) (pc := 38) dX6_write_38
theorem sX6_write_39 : Snd MX6_write 39 (xLdA 40 0) := snd_aload_n (M := MX6_write) (pc := 39) dX6_write_39
theorem sX6_write_40 : Snd MX6_write 40 (xDup 41) := snd_dup (M := MX6_write) (pc := 40) dX6_write_40
theorem sX6_write_41 : Snd MX6_write 41 (xGf 44 6 18) := snd_gf (M := MX6_write) (pc := 41) (C0 := RX6) (T0 := TX6) (N := 32) dX6_write_41 rfl tbX6 (by decide) w492
theorem sX6_write_44 : Snd MX6_write 44 (xK 45 (nI 1)) := snd_iconst (M := MX6_write) (pc := 44) dX6_write_44 (by decide +kernel)
theorem sX6_write_45 : Snd MX6_write 45 (xBin 46 f_iadd) := snd_iadd (M := MX6_write) (pc := 45) dX6_write_45
theorem sX6_write_46 : Snd MX6_write 46 (xPfI 49 6 18) := snd_pfI (M := MX6_write) (pc := 46) (C0 := RX6) (T0 := TX6) (N := 32) dX6_write_46 rfl tbX6 tyX6 tyX6_ok nmX6 (by decide) w492 rfl (by decide +kernel)
theorem sX6_write_49 : Snd MX6_write 49 (xLdA 50 0) := snd_aload_n (M := MX6_write) (pc := 49) dX6_write_49
theorem sX6_write_50 : Snd MX6_write 50 (xGf 53 6 18) := snd_gf (M := MX6_write) (pc := 50) (C0 := RX6) (T0 := TX6) (N := 32) dX6_write_50 rfl tbX6 (by decide) w492
theorem sX6_write_53 : Snd MX6_write 53 (xRet) := snd_iret (M := MX6_write) (pc := 53) dX6_write_53 rfl
theorem VX6_write : Valid MX6_write LX6_write := va_lid sX6_write_0 (va_lid sX6_write_1 (va_lid sX6_write_2 (va_lid sX6_write_5 (va_lid sX6_write_8 (va_lid sX6_write_11 (va_lid sX6_write_14 (va_lid sX6_write_15 (va_lid sX6_write_16 (va_lid sX6_write_17 (va_lid sX6_write_20 (va_lid sX6_write_23 (va_lid sX6_write_26 (va_lid sX6_write_28 (va_lid sX6_write_29 (va_lid sX6_write_30 (va_lid sX6_write_33 (va_lid sX6_write_34 (va_lid sX6_write_37 (va_lid sX6_write_38 (va_lid sX6_write_39 (va_lid sX6_write_40 (va_lid sX6_write_41 (va_lid sX6_write_44 (va_lid sX6_write_45 (va_lid sX6_write_46 (va_lid sX6_write_49 (va_lid sX6_write_50 (va_lid sX6_write_53 (va_lid0)))))))))))))))))))))))))))))
theorem kX6_write_0 : lk LX6_write 0 = some (xLdI 1 1) := rfl
theorem kX6_write_1 : lk LX6_write 1 = some (xI2l 2) := rfl
theorem kX6_write_2 : lk LX6_write 2 = some (xKL 5 (lN 32)) := rfl
theorem kX6_write_5 : lk LX6_write 5 = some (xKL 8 (lN 126)) := rfl
theorem kX6_write_8 : lk LX6_write 8 = some (xCallS MX6_in 3 11) := rfl
theorem kX6_write_11 : lk LX6_write 11 = some (xZ_ne 16 14) := rfl
theorem kX6_write_14 : lk LX6_write 14 = some (xK 15 ((-1))) := rfl
theorem kX6_write_15 : lk LX6_write 15 = some (xRet) := rfl
theorem kX6_write_16 : lk LX6_write 16 = some (xLdA 17 0) := rfl
theorem kX6_write_17 : lk LX6_write 17 = some (xGf 20 6 18) := rfl
theorem kX6_write_20 : lk LX6_write 20 = some (xK 23 (nI 200)) := rfl
theorem kX6_write_23 : lk LX6_write 23 = some (xC_ne 29 26) := rfl
theorem kX6_write_26 : lk LX6_write 26 = some (xK 28 ((-3))) := rfl
theorem kX6_write_28 : lk LX6_write 28 = some (xRet) := rfl
theorem kX6_write_29 : lk LX6_write 29 = some (xLdA 30 0) := rfl
theorem kX6_write_30 : lk LX6_write 30 = some (xGf 33 6 17) := rfl
theorem kX6_write_33 : lk LX6_write 33 = some (xLdA 34 0) := rfl
theorem kX6_write_34 : lk LX6_write 34 = some (xGf 37 6 18) := rfl
theorem kX6_write_37 : lk LX6_write 37 = some (xLdI 38 1) := rfl
theorem kX6_write_38 : lk LX6_write 38 = some (xiastore 39) := rfl
theorem kX6_write_39 : lk LX6_write 39 = some (xLdA 40 0) := rfl
theorem kX6_write_40 : lk LX6_write 40 = some (xDup 41) := rfl
theorem kX6_write_41 : lk LX6_write 41 = some (xGf 44 6 18) := rfl
theorem kX6_write_44 : lk LX6_write 44 = some (xK 45 (nI 1)) := rfl
theorem kX6_write_45 : lk LX6_write 45 = some (xBin 46 f_iadd) := rfl
theorem kX6_write_46 : lk LX6_write 46 = some (xPfI 49 6 18) := rfl
theorem kX6_write_49 : lk LX6_write 49 = some (xLdA 50 0) := rfl
theorem kX6_write_50 : lk LX6_write 50 = some (xGf 53 6 18) := rfl
theorem kX6_write_53 : lk LX6_write 53 = some (xRet) := rfl
def LX6_wipe : List (Nat × XI) := [(0, xLdA 1 0),
  (1, xGf 4 6 18),
  (4, xStI 5 1),
  (5, xLdA 6 0),
  (6, xK 7 (nI 0)),
  (7, xPfI 10 6 18),
  (10, xLdI 11 1),
  (11, xRet)]
theorem sX6_wipe_0 : Snd MX6_wipe 0 (xLdA 1 0) := snd_aload_n (M := MX6_wipe) (pc := 0) dX6_wipe_0
theorem sX6_wipe_1 : Snd MX6_wipe 1 (xGf 4 6 18) := snd_gf (M := MX6_wipe) (pc := 1) (C0 := RX6) (T0 := TX6) (N := 32) dX6_wipe_1 rfl tbX6 (by decide) w492
theorem sX6_wipe_4 : Snd MX6_wipe 4 (xStI 5 1) := snd_istore_n (M := MX6_wipe) (pc := 4) dX6_wipe_4 (by decide)
theorem sX6_wipe_5 : Snd MX6_wipe 5 (xLdA 6 0) := snd_aload_n (M := MX6_wipe) (pc := 5) dX6_wipe_5
theorem sX6_wipe_6 : Snd MX6_wipe 6 (xK 7 (nI 0)) := snd_iconst (M := MX6_wipe) (pc := 6) dX6_wipe_6 (by decide +kernel)
theorem sX6_wipe_7 : Snd MX6_wipe 7 (xPfI 10 6 18) := snd_pfI (M := MX6_wipe) (pc := 7) (C0 := RX6) (T0 := TX6) (N := 32) dX6_wipe_7 rfl tbX6 tyX6 tyX6_ok nmX6 (by decide) w492 rfl (by decide +kernel)
theorem sX6_wipe_10 : Snd MX6_wipe 10 (xLdI 11 1) := snd_iload_n (M := MX6_wipe) (pc := 10) dX6_wipe_10
theorem sX6_wipe_11 : Snd MX6_wipe 11 (xRet) := snd_iret (M := MX6_wipe) (pc := 11) dX6_wipe_11 rfl
theorem VX6_wipe : Valid MX6_wipe LX6_wipe := va_lid sX6_wipe_0 (va_lid sX6_wipe_1 (va_lid sX6_wipe_4 (va_lid sX6_wipe_5 (va_lid sX6_wipe_6 (va_lid sX6_wipe_7 (va_lid sX6_wipe_10 (va_lid sX6_wipe_11 (va_lid0))))))))
theorem kX6_wipe_0 : lk LX6_wipe 0 = some (xLdA 1 0) := rfl
theorem kX6_wipe_1 : lk LX6_wipe 1 = some (xGf 4 6 18) := rfl
theorem kX6_wipe_4 : lk LX6_wipe 4 = some (xStI 5 1) := rfl
theorem kX6_wipe_5 : lk LX6_wipe 5 = some (xLdA 6 0) := rfl
theorem kX6_wipe_6 : lk LX6_wipe 6 = some (xK 7 (nI 0)) := rfl
theorem kX6_wipe_7 : lk LX6_wipe 7 = some (xPfI 10 6 18) := rfl
theorem kX6_wipe_10 : lk LX6_wipe 10 = some (xLdI 11 1) := rfl
theorem kX6_wipe_11 : lk LX6_wipe 11 = some (xRet) := rfl
def LX6_letterAt : List (Nat × XI) := [(0, xLdI 1 1),
  (1, xLdA 2 0),
  (2, xGf 5 6 18),
  (5, xC_ge 17 8),
  (8, xLdA 9 0),
  (9, xGf 12 6 17),
  (12, xLdI 13 1),
  (13, xiaload 14),
  (14, xGo 18),
  (17, xK 18 ((-1))),
  (18, xRet)]
theorem sX6_letterAt_0 : Snd MX6_letterAt 0 (xLdI 1 1) := snd_iload_n (M := MX6_letterAt) (pc := 0) dX6_letterAt_0
theorem sX6_letterAt_1 : Snd MX6_letterAt 1 (xLdA 2 0) := snd_aload_n (M := MX6_letterAt) (pc := 1) dX6_letterAt_1
theorem sX6_letterAt_2 : Snd MX6_letterAt 2 (xGf 5 6 18) := snd_gf (M := MX6_letterAt) (pc := 2) (C0 := RX6) (T0 := TX6) (N := 32) dX6_letterAt_2 rfl tbX6 (by decide) w492
theorem sX6_letterAt_5 : Snd MX6_letterAt 5 (xC_ge 17 8) := snd_icmp_ge (M := MX6_letterAt) (pc := 5) dX6_letterAt_5 (by decide)
theorem sX6_letterAt_8 : Snd MX6_letterAt 8 (xLdA 9 0) := snd_aload_n (M := MX6_letterAt) (pc := 8) dX6_letterAt_8
theorem sX6_letterAt_9 : Snd MX6_letterAt 9 (xGf 12 6 17) := snd_gf (M := MX6_letterAt) (pc := 9) (C0 := RX6) (T0 := TX6) (N := 32) dX6_letterAt_9 rfl tbX6 (by decide) w452
theorem sX6_letterAt_12 : Snd MX6_letterAt 12 (xLdI 13 1) := snd_iload_n (M := MX6_letterAt) (pc := 12) dX6_letterAt_12
theorem sX6_letterAt_13 : Snd MX6_letterAt 13 (xiaload 14) := snd_iaload (M := MX6_letterAt) (pc := 13) dX6_letterAt_13
theorem sX6_letterAt_14 : Snd MX6_letterAt 14 (xGo 18) := snd_goto (M := MX6_letterAt) (pc := 14) dX6_letterAt_14 (by decide)
theorem sX6_letterAt_17 : Snd MX6_letterAt 17 (xK 18 ((-1))) := snd_iconst (M := MX6_letterAt) (pc := 17) dX6_letterAt_17 (by decide +kernel)
theorem sX6_letterAt_18 : Snd MX6_letterAt 18 (xRet) := snd_iret (M := MX6_letterAt) (pc := 18) dX6_letterAt_18 rfl
theorem VX6_letterAt : Valid MX6_letterAt LX6_letterAt := va_lid sX6_letterAt_0 (va_lid sX6_letterAt_1 (va_lid sX6_letterAt_2 (va_lid sX6_letterAt_5 (va_lid sX6_letterAt_8 (va_lid sX6_letterAt_9 (va_lid sX6_letterAt_12 (va_lid sX6_letterAt_13 (va_lid sX6_letterAt_14 (va_lid sX6_letterAt_17 (va_lid sX6_letterAt_18 (va_lid0)))))))))))
theorem kX6_letterAt_0 : lk LX6_letterAt 0 = some (xLdI 1 1) := rfl
theorem kX6_letterAt_1 : lk LX6_letterAt 1 = some (xLdA 2 0) := rfl
theorem kX6_letterAt_2 : lk LX6_letterAt 2 = some (xGf 5 6 18) := rfl
theorem kX6_letterAt_5 : lk LX6_letterAt 5 = some (xC_ge 17 8) := rfl
theorem kX6_letterAt_8 : lk LX6_letterAt 8 = some (xLdA 9 0) := rfl
theorem kX6_letterAt_9 : lk LX6_letterAt 9 = some (xGf 12 6 17) := rfl
theorem kX6_letterAt_12 : lk LX6_letterAt 12 = some (xLdI 13 1) := rfl
theorem kX6_letterAt_13 : lk LX6_letterAt 13 = some (xiaload 14) := rfl
theorem kX6_letterAt_14 : lk LX6_letterAt 14 = some (xGo 18) := rfl
theorem kX6_letterAt_17 : lk LX6_letterAt 17 = some (xK 18 ((-1))) := rfl
theorem kX6_letterAt_18 : lk LX6_letterAt 18 = some (xRet) := rfl
def LX6_takesNumber : List (Nat × XI) := [(0, xLdA 1 0),
  (1, xGf 4 6 19),
  (4, xStI 6 4),
  (6, xLdA 7 0),
  (7, xK 8 (nI 0)),
  (8, xPfI 11 6 20),
  (11, xLdA 12 0),
  (12, xGf 15 6 19),
  (15, xLdI 17 4),
  (17, xBin 18 f_isub),
  (18, xK 19 (nI 2)),
  (19, xC_ge 79 22),
  (22, xLdA 23 0),
  (23, xLdA 24 0),
  (24, xGf 27 6 19),
  (27, xCallV MX6_letterAt 6 1 30),
  (30, xI2l 31),
  (31, xKL 34 (lN 48)),
  (34, xKL 37 (lN 57)),
  (37, xCallS MX6_in 3 40),
  (40, xZ_eq 79 43),
  (43, xLdA 44 0),
  (44, xK 46 (nI 10)),
  (46, xLdA 47 0),
  (47, xGf 50 6 20),
  (50, xBin 51 f_imul),
  (51, xLdA 52 0),
  (52, xLdA 53 0),
  (53, xGf 56 6 19),
  (56, xCallV MX6_letterAt 6 1 59),
  (59, xBin 60 f_iadd),
  (60, xK 62 (nI 48)),
  (62, xBin 63 f_isub),
  (63, xPfI 66 6 20),
  (66, xLdA 67 0),
  (67, xDup 68),
  (68, xGf 71 6 19),
  (71, xK 72 (nI 1)),
  (72, xBin 73 f_iadd),
  (73, xPfI 76 6 19),
  (76, xGo 11),
  (79, xLdA 80 0),
  (80, xGf 83 6 19),
  (83, xLdI 85 4),
  (85, xC_eq 115 88),
  (88, xLdA 89 0),
  (89, xGf 92 6 20),
  (92, xI2l 93),
  (93, xLdI 94 1),
  (94, xI2l 95),
  (95, xLdI 96 2),
  (96, xI2l 97),
  (97, xCallS MX6_in 3 100),
  (100, xZ_eq 115 103),
  (103, xLdA 104 0),
  (104, xLdA 105 0),
  (105, xGf 108 6 19),
  (108, xCallV MX6_letterAt 6 1 111),
  (111, xLdI 112 3),
  (112, xC_eq 117 115),
  (115, xK 116 (nI 0)),
  (116, xRetZ),
  (117, xLdA 118 0),
  (118, xDup 119),
  (119, xGf 122 6 19),
  (122, xK 123 (nI 1)),
  (123, xBin 124 f_iadd),
  (124, xPfI 127 6 19),
  (127, xK 128 (nI 1)),
  (128, xRetZ)]
theorem sX6_takesNumber_0 : Snd MX6_takesNumber 0 (xLdA 1 0) := snd_aload_n (M := MX6_takesNumber) (pc := 0) dX6_takesNumber_0
theorem sX6_takesNumber_1 : Snd MX6_takesNumber 1 (xGf 4 6 19) := snd_gf (M := MX6_takesNumber) (pc := 1) (C0 := RX6) (T0 := TX6) (N := 32) dX6_takesNumber_1 rfl tbX6 (by decide) w493
theorem sX6_takesNumber_4 : Snd MX6_takesNumber 4 (xStI 6 4) := snd_istore (M := MX6_takesNumber) (pc := 4) dX6_takesNumber_4 (by decide)
theorem sX6_takesNumber_6 : Snd MX6_takesNumber 6 (xLdA 7 0) := snd_aload_n (M := MX6_takesNumber) (pc := 6) dX6_takesNumber_6
theorem sX6_takesNumber_7 : Snd MX6_takesNumber 7 (xK 8 (nI 0)) := snd_iconst (M := MX6_takesNumber) (pc := 7) dX6_takesNumber_7 (by decide +kernel)
theorem sX6_takesNumber_8 : Snd MX6_takesNumber 8 (xPfI 11 6 20) := snd_pfI (M := MX6_takesNumber) (pc := 8) (C0 := RX6) (T0 := TX6) (N := 32) dX6_takesNumber_8 rfl tbX6 tyX6 tyX6_ok nmX6 (by decide) w494 rfl (by decide +kernel)
theorem sX6_takesNumber_11 : Snd MX6_takesNumber 11 (xLdA 12 0) := snd_aload_n (M := MX6_takesNumber) (pc := 11) dX6_takesNumber_11
theorem sX6_takesNumber_12 : Snd MX6_takesNumber 12 (xGf 15 6 19) := snd_gf (M := MX6_takesNumber) (pc := 12) (C0 := RX6) (T0 := TX6) (N := 32) dX6_takesNumber_12 rfl tbX6 (by decide) w493
theorem sX6_takesNumber_15 : Snd MX6_takesNumber 15 (xLdI 17 4) := snd_iload (M := MX6_takesNumber) (pc := 15) dX6_takesNumber_15
theorem sX6_takesNumber_17 : Snd MX6_takesNumber 17 (xBin 18 f_isub) := snd_isub (M := MX6_takesNumber) (pc := 17) dX6_takesNumber_17
theorem sX6_takesNumber_18 : Snd MX6_takesNumber 18 (xK 19 (nI 2)) := snd_iconst (M := MX6_takesNumber) (pc := 18) dX6_takesNumber_18 (by decide +kernel)
theorem sX6_takesNumber_19 : Snd MX6_takesNumber 19 (xC_ge 79 22) := snd_icmp_ge (M := MX6_takesNumber) (pc := 19) dX6_takesNumber_19 (by decide)
theorem sX6_takesNumber_22 : Snd MX6_takesNumber 22 (xLdA 23 0) := snd_aload_n (M := MX6_takesNumber) (pc := 22) dX6_takesNumber_22
theorem sX6_takesNumber_23 : Snd MX6_takesNumber 23 (xLdA 24 0) := snd_aload_n (M := MX6_takesNumber) (pc := 23) dX6_takesNumber_23
theorem sX6_takesNumber_24 : Snd MX6_takesNumber 24 (xGf 27 6 19) := snd_gf (M := MX6_takesNumber) (pc := 24) (C0 := RX6) (T0 := TX6) (N := 32) dX6_takesNumber_24 rfl tbX6 (by decide) w493
theorem sX6_takesNumber_27 : Snd MX6_takesNumber 27 (xCallV MX6_letterAt 6 1 30) := snd_callV (M := MX6_takesNumber) (pc := 27) (n := 1) dX6_takesNumber_27 rfl w496 w497 w498 ⟨w462, w495, ⟨by decide, by decide, by decide +kernel⟩, by decide⟩ ⟨rfl, rfl⟩
theorem sX6_takesNumber_30 : Snd MX6_takesNumber 30 (xI2l 31) := snd_i2l (M := MX6_takesNumber) (pc := 30) dX6_takesNumber_30
theorem sX6_takesNumber_31 : Snd MX6_takesNumber 31 (xKL 34 (lN 48)) := snd_ldc2 (M := MX6_takesNumber) (pc := 31) dX6_takesNumber_31 w499
theorem sX6_takesNumber_34 : Snd MX6_takesNumber 34 (xKL 37 (lN 57)) := snd_ldc2 (M := MX6_takesNumber) (pc := 34) dX6_takesNumber_34 w500
theorem sX6_takesNumber_37 : Snd MX6_takesNumber 37 (xCallS MX6_in 3 40) := snd_callS (M := MX6_takesNumber) (pc := 37) (n := 3) dX6_takesNumber_37 w477 w478 ⟨w462, w476, ⟨by decide, by decide, by decide +kernel⟩, by decide⟩ ⟨rfl, rfl⟩
theorem sX6_takesNumber_40 : Snd MX6_takesNumber 40 (xZ_eq 79 43) := snd_if_eq (M := MX6_takesNumber) (pc := 40) dX6_takesNumber_40 (by decide)
theorem sX6_takesNumber_43 : Snd MX6_takesNumber 43 (xLdA 44 0) := snd_aload_n (M := MX6_takesNumber) (pc := 43) dX6_takesNumber_43
theorem sX6_takesNumber_44 : Snd MX6_takesNumber 44 (xK 46 (nI 10)) := snd_bipush (M := MX6_takesNumber) (pc := 44) dX6_takesNumber_44 (by decide +kernel)
theorem sX6_takesNumber_46 : Snd MX6_takesNumber 46 (xLdA 47 0) := snd_aload_n (M := MX6_takesNumber) (pc := 46) dX6_takesNumber_46
theorem sX6_takesNumber_47 : Snd MX6_takesNumber 47 (xGf 50 6 20) := snd_gf (M := MX6_takesNumber) (pc := 47) (C0 := RX6) (T0 := TX6) (N := 32) dX6_takesNumber_47 rfl tbX6 (by decide) w494
theorem sX6_takesNumber_50 : Snd MX6_takesNumber 50 (xBin 51 f_imul) := snd_imul (M := MX6_takesNumber) (pc := 50) dX6_takesNumber_50
theorem sX6_takesNumber_51 : Snd MX6_takesNumber 51 (xLdA 52 0) := snd_aload_n (M := MX6_takesNumber) (pc := 51) dX6_takesNumber_51
theorem sX6_takesNumber_52 : Snd MX6_takesNumber 52 (xLdA 53 0) := snd_aload_n (M := MX6_takesNumber) (pc := 52) dX6_takesNumber_52
theorem sX6_takesNumber_53 : Snd MX6_takesNumber 53 (xGf 56 6 19) := snd_gf (M := MX6_takesNumber) (pc := 53) (C0 := RX6) (T0 := TX6) (N := 32) dX6_takesNumber_53 rfl tbX6 (by decide) w493
theorem sX6_takesNumber_56 : Snd MX6_takesNumber 56 (xCallV MX6_letterAt 6 1 59) := snd_callV (M := MX6_takesNumber) (pc := 56) (n := 1) dX6_takesNumber_56 rfl w496 w497 w498 ⟨w462, w495, ⟨by decide, by decide, by decide +kernel⟩, by decide⟩ ⟨rfl, rfl⟩
theorem sX6_takesNumber_59 : Snd MX6_takesNumber 59 (xBin 60 f_iadd) := snd_iadd (M := MX6_takesNumber) (pc := 59) dX6_takesNumber_59
theorem sX6_takesNumber_60 : Snd MX6_takesNumber 60 (xK 62 (nI 48)) := snd_bipush (M := MX6_takesNumber) (pc := 60) dX6_takesNumber_60 (by decide +kernel)
theorem sX6_takesNumber_62 : Snd MX6_takesNumber 62 (xBin 63 f_isub) := snd_isub (M := MX6_takesNumber) (pc := 62) dX6_takesNumber_62
theorem sX6_takesNumber_63 : Snd MX6_takesNumber 63 (xPfI 66 6 20) := snd_pfI (M := MX6_takesNumber) (pc := 63) (C0 := RX6) (T0 := TX6) (N := 32) dX6_takesNumber_63 rfl tbX6 tyX6 tyX6_ok nmX6 (by decide) w494 rfl (by decide +kernel)
theorem sX6_takesNumber_66 : Snd MX6_takesNumber 66 (xLdA 67 0) := snd_aload_n (M := MX6_takesNumber) (pc := 66) dX6_takesNumber_66
theorem sX6_takesNumber_67 : Snd MX6_takesNumber 67 (xDup 68) := snd_dup (M := MX6_takesNumber) (pc := 67) dX6_takesNumber_67
theorem sX6_takesNumber_68 : Snd MX6_takesNumber 68 (xGf 71 6 19) := snd_gf (M := MX6_takesNumber) (pc := 68) (C0 := RX6) (T0 := TX6) (N := 32) dX6_takesNumber_68 rfl tbX6 (by decide) w493
theorem sX6_takesNumber_71 : Snd MX6_takesNumber 71 (xK 72 (nI 1)) := snd_iconst (M := MX6_takesNumber) (pc := 71) dX6_takesNumber_71 (by decide +kernel)
theorem sX6_takesNumber_72 : Snd MX6_takesNumber 72 (xBin 73 f_iadd) := snd_iadd (M := MX6_takesNumber) (pc := 72) dX6_takesNumber_72
theorem sX6_takesNumber_73 : Snd MX6_takesNumber 73 (xPfI 76 6 19) := snd_pfI (M := MX6_takesNumber) (pc := 73) (C0 := RX6) (T0 := TX6) (N := 32) dX6_takesNumber_73 rfl tbX6 tyX6 tyX6_ok nmX6 (by decide) w493 rfl (by decide +kernel)
theorem sX6_takesNumber_76 : Snd MX6_takesNumber 76 (xGo 11) := snd_goto (M := MX6_takesNumber) (pc := 76) dX6_takesNumber_76 (by decide)
theorem sX6_takesNumber_79 : Snd MX6_takesNumber 79 (xLdA 80 0) := snd_aload_n (M := MX6_takesNumber) (pc := 79) dX6_takesNumber_79
theorem sX6_takesNumber_80 : Snd MX6_takesNumber 80 (xGf 83 6 19) := snd_gf (M := MX6_takesNumber) (pc := 80) (C0 := RX6) (T0 := TX6) (N := 32) dX6_takesNumber_80 rfl tbX6 (by decide) w493
theorem sX6_takesNumber_83 : Snd MX6_takesNumber 83 (xLdI 85 4) := snd_iload (M := MX6_takesNumber) (pc := 83) dX6_takesNumber_83
theorem sX6_takesNumber_85 : Snd MX6_takesNumber 85 (xC_eq 115 88) := snd_icmp_eq (M := MX6_takesNumber) (pc := 85) dX6_takesNumber_85 (by decide)
theorem sX6_takesNumber_88 : Snd MX6_takesNumber 88 (xLdA 89 0) := snd_aload_n (M := MX6_takesNumber) (pc := 88) dX6_takesNumber_88
theorem sX6_takesNumber_89 : Snd MX6_takesNumber 89 (xGf 92 6 20) := snd_gf (M := MX6_takesNumber) (pc := 89) (C0 := RX6) (T0 := TX6) (N := 32) dX6_takesNumber_89 rfl tbX6 (by decide) w494
theorem sX6_takesNumber_92 : Snd MX6_takesNumber 92 (xI2l 93) := snd_i2l (M := MX6_takesNumber) (pc := 92) dX6_takesNumber_92
theorem sX6_takesNumber_93 : Snd MX6_takesNumber 93 (xLdI 94 1) := snd_iload_n (M := MX6_takesNumber) (pc := 93) dX6_takesNumber_93
theorem sX6_takesNumber_94 : Snd MX6_takesNumber 94 (xI2l 95) := snd_i2l (M := MX6_takesNumber) (pc := 94) dX6_takesNumber_94
theorem sX6_takesNumber_95 : Snd MX6_takesNumber 95 (xLdI 96 2) := snd_iload_n (M := MX6_takesNumber) (pc := 95) dX6_takesNumber_95
theorem sX6_takesNumber_96 : Snd MX6_takesNumber 96 (xI2l 97) := snd_i2l (M := MX6_takesNumber) (pc := 96) dX6_takesNumber_96
theorem sX6_takesNumber_97 : Snd MX6_takesNumber 97 (xCallS MX6_in 3 100) := snd_callS (M := MX6_takesNumber) (pc := 97) (n := 3) dX6_takesNumber_97 w477 w478 ⟨w462, w476, ⟨by decide, by decide, by decide +kernel⟩, by decide⟩ ⟨rfl, rfl⟩
theorem sX6_takesNumber_100 : Snd MX6_takesNumber 100 (xZ_eq 115 103) := snd_if_eq (M := MX6_takesNumber) (pc := 100) dX6_takesNumber_100 (by decide)
theorem sX6_takesNumber_103 : Snd MX6_takesNumber 103 (xLdA 104 0) := snd_aload_n (M := MX6_takesNumber) (pc := 103) dX6_takesNumber_103
theorem sX6_takesNumber_104 : Snd MX6_takesNumber 104 (xLdA 105 0) := snd_aload_n (M := MX6_takesNumber) (pc := 104) dX6_takesNumber_104
theorem sX6_takesNumber_105 : Snd MX6_takesNumber 105 (xGf 108 6 19) := snd_gf (M := MX6_takesNumber) (pc := 105) (C0 := RX6) (T0 := TX6) (N := 32) dX6_takesNumber_105 rfl tbX6 (by decide) w493
theorem sX6_takesNumber_108 : Snd MX6_takesNumber 108 (xCallV MX6_letterAt 6 1 111) := snd_callV (M := MX6_takesNumber) (pc := 108) (n := 1) dX6_takesNumber_108 rfl w496 w497 w498 ⟨w462, w495, ⟨by decide, by decide, by decide +kernel⟩, by decide⟩ ⟨rfl, rfl⟩
theorem sX6_takesNumber_111 : Snd MX6_takesNumber 111 (xLdI 112 3) := snd_iload_n (M := MX6_takesNumber) (pc := 111) dX6_takesNumber_111
theorem sX6_takesNumber_112 : Snd MX6_takesNumber 112 (xC_eq 117 115) := snd_icmp_eq (M := MX6_takesNumber) (pc := 112) dX6_takesNumber_112 (by decide)
theorem sX6_takesNumber_115 : Snd MX6_takesNumber 115 (xK 116 (nI 0)) := snd_iconst (M := MX6_takesNumber) (pc := 115) dX6_takesNumber_115 (by decide +kernel)
theorem sX6_takesNumber_116 : Snd MX6_takesNumber 116 (xRetZ) := snd_zret (M := MX6_takesNumber) (pc := 116) dX6_takesNumber_116 rfl
theorem sX6_takesNumber_117 : Snd MX6_takesNumber 117 (xLdA 118 0) := snd_aload_n (M := MX6_takesNumber) (pc := 117) dX6_takesNumber_117
theorem sX6_takesNumber_118 : Snd MX6_takesNumber 118 (xDup 119) := snd_dup (M := MX6_takesNumber) (pc := 118) dX6_takesNumber_118
theorem sX6_takesNumber_119 : Snd MX6_takesNumber 119 (xGf 122 6 19) := snd_gf (M := MX6_takesNumber) (pc := 119) (C0 := RX6) (T0 := TX6) (N := 32) dX6_takesNumber_119 rfl tbX6 (by decide) w493
theorem sX6_takesNumber_122 : Snd MX6_takesNumber 122 (xK 123 (nI 1)) := snd_iconst (M := MX6_takesNumber) (pc := 122) dX6_takesNumber_122 (by decide +kernel)
theorem sX6_takesNumber_123 : Snd MX6_takesNumber 123 (xBin 124 f_iadd) := snd_iadd (M := MX6_takesNumber) (pc := 123) dX6_takesNumber_123
theorem sX6_takesNumber_124 : Snd MX6_takesNumber 124 (xPfI 127 6 19) := snd_pfI (M := MX6_takesNumber) (pc := 124) (C0 := RX6) (T0 := TX6) (N := 32) dX6_takesNumber_124 rfl tbX6 tyX6 tyX6_ok nmX6 (by decide) w493 rfl (by decide +kernel)
theorem sX6_takesNumber_127 : Snd MX6_takesNumber 127 (xK 128 (nI 1)) := snd_iconst (M := MX6_takesNumber) (pc := 127) dX6_takesNumber_127 (by decide +kernel)
theorem sX6_takesNumber_128 : Snd MX6_takesNumber 128 (xRetZ) := snd_zret (M := MX6_takesNumber) (pc := 128) dX6_takesNumber_128 rfl
theorem VX6_takesNumber : Valid MX6_takesNumber LX6_takesNumber := va_lid sX6_takesNumber_0 (va_lid sX6_takesNumber_1 (va_lid sX6_takesNumber_4 (va_lid sX6_takesNumber_6 (va_lid sX6_takesNumber_7 (va_lid sX6_takesNumber_8 (va_lid sX6_takesNumber_11 (va_lid sX6_takesNumber_12 (va_lid sX6_takesNumber_15 (va_lid sX6_takesNumber_17 (va_lid sX6_takesNumber_18 (va_lid sX6_takesNumber_19 (va_lid sX6_takesNumber_22 (va_lid sX6_takesNumber_23 (va_lid sX6_takesNumber_24 (va_lid sX6_takesNumber_27 (va_lid sX6_takesNumber_30 (va_lid sX6_takesNumber_31 (va_lid sX6_takesNumber_34 (va_lid sX6_takesNumber_37 (va_lid sX6_takesNumber_40 (va_lid sX6_takesNumber_43 (va_lid sX6_takesNumber_44 (va_lid sX6_takesNumber_46 (va_lid sX6_takesNumber_47 (va_lid sX6_takesNumber_50 (va_lid sX6_takesNumber_51 (va_lid sX6_takesNumber_52 (va_lid sX6_takesNumber_53 (va_lid sX6_takesNumber_56 (va_lid sX6_takesNumber_59 (va_lid sX6_takesNumber_60 (va_lid sX6_takesNumber_62 (va_lid sX6_takesNumber_63 (va_lid sX6_takesNumber_66 (va_lid sX6_takesNumber_67 (va_lid sX6_takesNumber_68 (va_lid sX6_takesNumber_71 (va_lid sX6_takesNumber_72 (va_lid sX6_takesNumber_73 (va_lid sX6_takesNumber_76 (va_lid sX6_takesNumber_79 (va_lid sX6_takesNumber_80 (va_lid sX6_takesNumber_83 (va_lid sX6_takesNumber_85 (va_lid sX6_takesNumber_88 (va_lid sX6_takesNumber_89 (va_lid sX6_takesNumber_92 (va_lid sX6_takesNumber_93 (va_lid sX6_takesNumber_94 (va_lid sX6_takesNumber_95 (va_lid sX6_takesNumber_96 (va_lid sX6_takesNumber_97 (va_lid sX6_takesNumber_100 (va_lid sX6_takesNumber_103 (va_lid sX6_takesNumber_104 (va_lid sX6_takesNumber_105 (va_lid sX6_takesNumber_108 (va_lid sX6_takesNumber_111 (va_lid sX6_takesNumber_112 (va_lid sX6_takesNumber_115 (va_lid sX6_takesNumber_116 (va_lid sX6_takesNumber_117 (va_lid sX6_takesNumber_118 (va_lid sX6_takesNumber_119 (va_lid sX6_takesNumber_122 (va_lid sX6_takesNumber_123 (va_lid sX6_takesNumber_124 (va_lid sX6_takesNumber_127 (va_lid sX6_takesNumber_128 (va_lid0))))))))))))))))))))))))))))))))))))))))))))))))))))))))))))))))))))))
theorem kX6_takesNumber_0 : lk LX6_takesNumber 0 = some (xLdA 1 0) := rfl
theorem kX6_takesNumber_1 : lk LX6_takesNumber 1 = some (xGf 4 6 19) := rfl
theorem kX6_takesNumber_4 : lk LX6_takesNumber 4 = some (xStI 6 4) := rfl
theorem kX6_takesNumber_6 : lk LX6_takesNumber 6 = some (xLdA 7 0) := rfl
theorem kX6_takesNumber_7 : lk LX6_takesNumber 7 = some (xK 8 (nI 0)) := rfl
theorem kX6_takesNumber_8 : lk LX6_takesNumber 8 = some (xPfI 11 6 20) := rfl
theorem kX6_takesNumber_11 : lk LX6_takesNumber 11 = some (xLdA 12 0) := rfl
theorem kX6_takesNumber_12 : lk LX6_takesNumber 12 = some (xGf 15 6 19) := rfl
theorem kX6_takesNumber_15 : lk LX6_takesNumber 15 = some (xLdI 17 4) := rfl
theorem kX6_takesNumber_17 : lk LX6_takesNumber 17 = some (xBin 18 f_isub) := rfl
theorem kX6_takesNumber_18 : lk LX6_takesNumber 18 = some (xK 19 (nI 2)) := rfl
theorem kX6_takesNumber_19 : lk LX6_takesNumber 19 = some (xC_ge 79 22) := rfl
theorem kX6_takesNumber_22 : lk LX6_takesNumber 22 = some (xLdA 23 0) := rfl
theorem kX6_takesNumber_23 : lk LX6_takesNumber 23 = some (xLdA 24 0) := rfl
theorem kX6_takesNumber_24 : lk LX6_takesNumber 24 = some (xGf 27 6 19) := rfl
theorem kX6_takesNumber_27 : lk LX6_takesNumber 27 = some (xCallV MX6_letterAt 6 1 30) := rfl
theorem kX6_takesNumber_30 : lk LX6_takesNumber 30 = some (xI2l 31) := rfl
theorem kX6_takesNumber_31 : lk LX6_takesNumber 31 = some (xKL 34 (lN 48)) := rfl
theorem kX6_takesNumber_34 : lk LX6_takesNumber 34 = some (xKL 37 (lN 57)) := rfl
theorem kX6_takesNumber_37 : lk LX6_takesNumber 37 = some (xCallS MX6_in 3 40) := rfl
theorem kX6_takesNumber_40 : lk LX6_takesNumber 40 = some (xZ_eq 79 43) := rfl
theorem kX6_takesNumber_43 : lk LX6_takesNumber 43 = some (xLdA 44 0) := rfl
theorem kX6_takesNumber_44 : lk LX6_takesNumber 44 = some (xK 46 (nI 10)) := rfl
theorem kX6_takesNumber_46 : lk LX6_takesNumber 46 = some (xLdA 47 0) := rfl
theorem kX6_takesNumber_47 : lk LX6_takesNumber 47 = some (xGf 50 6 20) := rfl
theorem kX6_takesNumber_50 : lk LX6_takesNumber 50 = some (xBin 51 f_imul) := rfl
theorem kX6_takesNumber_51 : lk LX6_takesNumber 51 = some (xLdA 52 0) := rfl
theorem kX6_takesNumber_52 : lk LX6_takesNumber 52 = some (xLdA 53 0) := rfl
theorem kX6_takesNumber_53 : lk LX6_takesNumber 53 = some (xGf 56 6 19) := rfl
theorem kX6_takesNumber_56 : lk LX6_takesNumber 56 = some (xCallV MX6_letterAt 6 1 59) := rfl
theorem kX6_takesNumber_59 : lk LX6_takesNumber 59 = some (xBin 60 f_iadd) := rfl
theorem kX6_takesNumber_60 : lk LX6_takesNumber 60 = some (xK 62 (nI 48)) := rfl
theorem kX6_takesNumber_62 : lk LX6_takesNumber 62 = some (xBin 63 f_isub) := rfl
theorem kX6_takesNumber_63 : lk LX6_takesNumber 63 = some (xPfI 66 6 20) := rfl
theorem kX6_takesNumber_66 : lk LX6_takesNumber 66 = some (xLdA 67 0) := rfl
theorem kX6_takesNumber_67 : lk LX6_takesNumber 67 = some (xDup 68) := rfl
theorem kX6_takesNumber_68 : lk LX6_takesNumber 68 = some (xGf 71 6 19) := rfl
theorem kX6_takesNumber_71 : lk LX6_takesNumber 71 = some (xK 72 (nI 1)) := rfl
theorem kX6_takesNumber_72 : lk LX6_takesNumber 72 = some (xBin 73 f_iadd) := rfl
theorem kX6_takesNumber_73 : lk LX6_takesNumber 73 = some (xPfI 76 6 19) := rfl
theorem kX6_takesNumber_76 : lk LX6_takesNumber 76 = some (xGo 11) := rfl
theorem kX6_takesNumber_79 : lk LX6_takesNumber 79 = some (xLdA 80 0) := rfl
theorem kX6_takesNumber_80 : lk LX6_takesNumber 80 = some (xGf 83 6 19) := rfl
theorem kX6_takesNumber_83 : lk LX6_takesNumber 83 = some (xLdI 85 4) := rfl
theorem kX6_takesNumber_85 : lk LX6_takesNumber 85 = some (xC_eq 115 88) := rfl
theorem kX6_takesNumber_88 : lk LX6_takesNumber 88 = some (xLdA 89 0) := rfl
theorem kX6_takesNumber_89 : lk LX6_takesNumber 89 = some (xGf 92 6 20) := rfl
theorem kX6_takesNumber_92 : lk LX6_takesNumber 92 = some (xI2l 93) := rfl
theorem kX6_takesNumber_93 : lk LX6_takesNumber 93 = some (xLdI 94 1) := rfl
theorem kX6_takesNumber_94 : lk LX6_takesNumber 94 = some (xI2l 95) := rfl
theorem kX6_takesNumber_95 : lk LX6_takesNumber 95 = some (xLdI 96 2) := rfl
theorem kX6_takesNumber_96 : lk LX6_takesNumber 96 = some (xI2l 97) := rfl
theorem kX6_takesNumber_97 : lk LX6_takesNumber 97 = some (xCallS MX6_in 3 100) := rfl
theorem kX6_takesNumber_100 : lk LX6_takesNumber 100 = some (xZ_eq 115 103) := rfl
theorem kX6_takesNumber_103 : lk LX6_takesNumber 103 = some (xLdA 104 0) := rfl
theorem kX6_takesNumber_104 : lk LX6_takesNumber 104 = some (xLdA 105 0) := rfl
theorem kX6_takesNumber_105 : lk LX6_takesNumber 105 = some (xGf 108 6 19) := rfl
theorem kX6_takesNumber_108 : lk LX6_takesNumber 108 = some (xCallV MX6_letterAt 6 1 111) := rfl
theorem kX6_takesNumber_111 : lk LX6_takesNumber 111 = some (xLdI 112 3) := rfl
theorem kX6_takesNumber_112 : lk LX6_takesNumber 112 = some (xC_eq 117 115) := rfl
theorem kX6_takesNumber_115 : lk LX6_takesNumber 115 = some (xK 116 (nI 0)) := rfl
theorem kX6_takesNumber_116 : lk LX6_takesNumber 116 = some (xRetZ) := rfl
theorem kX6_takesNumber_117 : lk LX6_takesNumber 117 = some (xLdA 118 0) := rfl
theorem kX6_takesNumber_118 : lk LX6_takesNumber 118 = some (xDup 119) := rfl
theorem kX6_takesNumber_119 : lk LX6_takesNumber 119 = some (xGf 122 6 19) := rfl
theorem kX6_takesNumber_122 : lk LX6_takesNumber 122 = some (xK 123 (nI 1)) := rfl
theorem kX6_takesNumber_123 : lk LX6_takesNumber 123 = some (xBin 124 f_iadd) := rfl
theorem kX6_takesNumber_124 : lk LX6_takesNumber 124 = some (xPfI 127 6 19) := rfl
theorem kX6_takesNumber_127 : lk LX6_takesNumber 127 = some (xK 128 (nI 1)) := rfl
theorem kX6_takesNumber_128 : lk LX6_takesNumber 128 = some (xRetZ) := rfl
def LX6_takesRoom : List (Nat × XI) := [(0, xLdA 1 0),
  (1, xK 2 (nI 1)),
  (2, xK 4 (nI 99)),
  (4, xK 6 (nI 44)),
  (6, xCallV MX6_takesNumber 6 3 9),
  (9, xZ_ne 14 12),
  (12, xK 13 (nI 0)),
  (13, xRetZ),
  (14, xLdA 15 0),
  (15, xGf 18 6 20),
  (18, xStI 19 1),
  (19, xLdA 20 0),
  (20, xK 21 (nI 0)),
  (21, xK 23 (nI 20)),
  (23, xK 25 (nI 59)),
  (25, xCallV MX6_takesNumber 6 3 28),
  (28, xZ_ne 33 31),
  (31, xK 32 (nI 0)),
  (32, xRetZ),
  (33, xLdA 34 0),
  (34, xLdI 35 1),
  (35, xPfI 38 6 21),
  (38, xLdA 39 0),
  (39, xLdA 40 0),
  (40, xGf 43 6 20),
  (43, xPfI 46 6 22),
  (46, xK 47 (nI 1)),
  (47, xRetZ)]
theorem sX6_takesRoom_0 : Snd MX6_takesRoom 0 (xLdA 1 0) := snd_aload_n (M := MX6_takesRoom) (pc := 0) dX6_takesRoom_0
theorem sX6_takesRoom_1 : Snd MX6_takesRoom 1 (xK 2 (nI 1)) := snd_iconst (M := MX6_takesRoom) (pc := 1) dX6_takesRoom_1 (by decide +kernel)
theorem sX6_takesRoom_2 : Snd MX6_takesRoom 2 (xK 4 (nI 99)) := snd_bipush (M := MX6_takesRoom) (pc := 2) dX6_takesRoom_2 (by decide +kernel)
theorem sX6_takesRoom_4 : Snd MX6_takesRoom 4 (xK 6 (nI 44)) := snd_bipush (M := MX6_takesRoom) (pc := 4) dX6_takesRoom_4 (by decide +kernel)
theorem sX6_takesRoom_6 : Snd MX6_takesRoom 6 (xCallV MX6_takesNumber 6 3 9) := snd_callV (M := MX6_takesRoom) (pc := 6) (n := 3) dX6_takesRoom_6 rfl w502 w503 w504 ⟨w462, w501, ⟨by decide, by decide, by decide +kernel⟩, by decide⟩ ⟨rfl, rfl⟩
theorem sX6_takesRoom_9 : Snd MX6_takesRoom 9 (xZ_ne 14 12) := snd_if_ne (M := MX6_takesRoom) (pc := 9) dX6_takesRoom_9 (by decide)
theorem sX6_takesRoom_12 : Snd MX6_takesRoom 12 (xK 13 (nI 0)) := snd_iconst (M := MX6_takesRoom) (pc := 12) dX6_takesRoom_12 (by decide +kernel)
theorem sX6_takesRoom_13 : Snd MX6_takesRoom 13 (xRetZ) := snd_zret (M := MX6_takesRoom) (pc := 13) dX6_takesRoom_13 rfl
theorem sX6_takesRoom_14 : Snd MX6_takesRoom 14 (xLdA 15 0) := snd_aload_n (M := MX6_takesRoom) (pc := 14) dX6_takesRoom_14
theorem sX6_takesRoom_15 : Snd MX6_takesRoom 15 (xGf 18 6 20) := snd_gf (M := MX6_takesRoom) (pc := 15) (C0 := RX6) (T0 := TX6) (N := 32) dX6_takesRoom_15 rfl tbX6 (by decide) w494
theorem sX6_takesRoom_18 : Snd MX6_takesRoom 18 (xStI 19 1) := snd_istore_n (M := MX6_takesRoom) (pc := 18) dX6_takesRoom_18 (by decide)
theorem sX6_takesRoom_19 : Snd MX6_takesRoom 19 (xLdA 20 0) := snd_aload_n (M := MX6_takesRoom) (pc := 19) dX6_takesRoom_19
theorem sX6_takesRoom_20 : Snd MX6_takesRoom 20 (xK 21 (nI 0)) := snd_iconst (M := MX6_takesRoom) (pc := 20) dX6_takesRoom_20 (by decide +kernel)
theorem sX6_takesRoom_21 : Snd MX6_takesRoom 21 (xK 23 (nI 20)) := snd_bipush (M := MX6_takesRoom) (pc := 21) dX6_takesRoom_21 (by decide +kernel)
theorem sX6_takesRoom_23 : Snd MX6_takesRoom 23 (xK 25 (nI 59)) := snd_bipush (M := MX6_takesRoom) (pc := 23) dX6_takesRoom_23 (by decide +kernel)
theorem sX6_takesRoom_25 : Snd MX6_takesRoom 25 (xCallV MX6_takesNumber 6 3 28) := snd_callV (M := MX6_takesRoom) (pc := 25) (n := 3) dX6_takesRoom_25 rfl w502 w503 w504 ⟨w462, w501, ⟨by decide, by decide, by decide +kernel⟩, by decide⟩ ⟨rfl, rfl⟩
theorem sX6_takesRoom_28 : Snd MX6_takesRoom 28 (xZ_ne 33 31) := snd_if_ne (M := MX6_takesRoom) (pc := 28) dX6_takesRoom_28 (by decide)
theorem sX6_takesRoom_31 : Snd MX6_takesRoom 31 (xK 32 (nI 0)) := snd_iconst (M := MX6_takesRoom) (pc := 31) dX6_takesRoom_31 (by decide +kernel)
theorem sX6_takesRoom_32 : Snd MX6_takesRoom 32 (xRetZ) := snd_zret (M := MX6_takesRoom) (pc := 32) dX6_takesRoom_32 rfl
theorem sX6_takesRoom_33 : Snd MX6_takesRoom 33 (xLdA 34 0) := snd_aload_n (M := MX6_takesRoom) (pc := 33) dX6_takesRoom_33
theorem sX6_takesRoom_34 : Snd MX6_takesRoom 34 (xLdI 35 1) := snd_iload_n (M := MX6_takesRoom) (pc := 34) dX6_takesRoom_34
theorem sX6_takesRoom_35 : Snd MX6_takesRoom 35 (xPfI 38 6 21) := snd_pfI (M := MX6_takesRoom) (pc := 35) (C0 := RX6) (T0 := TX6) (N := 32) dX6_takesRoom_35 rfl tbX6 tyX6 tyX6_ok nmX6 (by decide) w460 rfl (by decide +kernel)
theorem sX6_takesRoom_38 : Snd MX6_takesRoom 38 (xLdA 39 0) := snd_aload_n (M := MX6_takesRoom) (pc := 38) dX6_takesRoom_38
theorem sX6_takesRoom_39 : Snd MX6_takesRoom 39 (xLdA 40 0) := snd_aload_n (M := MX6_takesRoom) (pc := 39) dX6_takesRoom_39
theorem sX6_takesRoom_40 : Snd MX6_takesRoom 40 (xGf 43 6 20) := snd_gf (M := MX6_takesRoom) (pc := 40) (C0 := RX6) (T0 := TX6) (N := 32) dX6_takesRoom_40 rfl tbX6 (by decide) w494
theorem sX6_takesRoom_43 : Snd MX6_takesRoom 43 (xPfI 46 6 22) := snd_pfI (M := MX6_takesRoom) (pc := 43) (C0 := RX6) (T0 := TX6) (N := 32) dX6_takesRoom_43 rfl tbX6 tyX6 tyX6_ok nmX6 (by decide) w461 rfl (by decide +kernel)
theorem sX6_takesRoom_46 : Snd MX6_takesRoom 46 (xK 47 (nI 1)) := snd_iconst (M := MX6_takesRoom) (pc := 46) dX6_takesRoom_46 (by decide +kernel)
theorem sX6_takesRoom_47 : Snd MX6_takesRoom 47 (xRetZ) := snd_zret (M := MX6_takesRoom) (pc := 47) dX6_takesRoom_47 rfl
theorem VX6_takesRoom : Valid MX6_takesRoom LX6_takesRoom := va_lid sX6_takesRoom_0 (va_lid sX6_takesRoom_1 (va_lid sX6_takesRoom_2 (va_lid sX6_takesRoom_4 (va_lid sX6_takesRoom_6 (va_lid sX6_takesRoom_9 (va_lid sX6_takesRoom_12 (va_lid sX6_takesRoom_13 (va_lid sX6_takesRoom_14 (va_lid sX6_takesRoom_15 (va_lid sX6_takesRoom_18 (va_lid sX6_takesRoom_19 (va_lid sX6_takesRoom_20 (va_lid sX6_takesRoom_21 (va_lid sX6_takesRoom_23 (va_lid sX6_takesRoom_25 (va_lid sX6_takesRoom_28 (va_lid sX6_takesRoom_31 (va_lid sX6_takesRoom_32 (va_lid sX6_takesRoom_33 (va_lid sX6_takesRoom_34 (va_lid sX6_takesRoom_35 (va_lid sX6_takesRoom_38 (va_lid sX6_takesRoom_39 (va_lid sX6_takesRoom_40 (va_lid sX6_takesRoom_43 (va_lid sX6_takesRoom_46 (va_lid sX6_takesRoom_47 (va_lid0))))))))))))))))))))))))))))
theorem kX6_takesRoom_0 : lk LX6_takesRoom 0 = some (xLdA 1 0) := rfl
theorem kX6_takesRoom_1 : lk LX6_takesRoom 1 = some (xK 2 (nI 1)) := rfl
theorem kX6_takesRoom_2 : lk LX6_takesRoom 2 = some (xK 4 (nI 99)) := rfl
theorem kX6_takesRoom_4 : lk LX6_takesRoom 4 = some (xK 6 (nI 44)) := rfl
theorem kX6_takesRoom_6 : lk LX6_takesRoom 6 = some (xCallV MX6_takesNumber 6 3 9) := rfl
theorem kX6_takesRoom_9 : lk LX6_takesRoom 9 = some (xZ_ne 14 12) := rfl
theorem kX6_takesRoom_12 : lk LX6_takesRoom 12 = some (xK 13 (nI 0)) := rfl
theorem kX6_takesRoom_13 : lk LX6_takesRoom 13 = some (xRetZ) := rfl
theorem kX6_takesRoom_14 : lk LX6_takesRoom 14 = some (xLdA 15 0) := rfl
theorem kX6_takesRoom_15 : lk LX6_takesRoom 15 = some (xGf 18 6 20) := rfl
theorem kX6_takesRoom_18 : lk LX6_takesRoom 18 = some (xStI 19 1) := rfl
theorem kX6_takesRoom_19 : lk LX6_takesRoom 19 = some (xLdA 20 0) := rfl
theorem kX6_takesRoom_20 : lk LX6_takesRoom 20 = some (xK 21 (nI 0)) := rfl
theorem kX6_takesRoom_21 : lk LX6_takesRoom 21 = some (xK 23 (nI 20)) := rfl
theorem kX6_takesRoom_23 : lk LX6_takesRoom 23 = some (xK 25 (nI 59)) := rfl
theorem kX6_takesRoom_25 : lk LX6_takesRoom 25 = some (xCallV MX6_takesNumber 6 3 28) := rfl
theorem kX6_takesRoom_28 : lk LX6_takesRoom 28 = some (xZ_ne 33 31) := rfl
theorem kX6_takesRoom_31 : lk LX6_takesRoom 31 = some (xK 32 (nI 0)) := rfl
theorem kX6_takesRoom_32 : lk LX6_takesRoom 32 = some (xRetZ) := rfl
theorem kX6_takesRoom_33 : lk LX6_takesRoom 33 = some (xLdA 34 0) := rfl
theorem kX6_takesRoom_34 : lk LX6_takesRoom 34 = some (xLdI 35 1) := rfl
theorem kX6_takesRoom_35 : lk LX6_takesRoom 35 = some (xPfI 38 6 21) := rfl
theorem kX6_takesRoom_38 : lk LX6_takesRoom 38 = some (xLdA 39 0) := rfl
theorem kX6_takesRoom_39 : lk LX6_takesRoom 39 = some (xLdA 40 0) := rfl
theorem kX6_takesRoom_40 : lk LX6_takesRoom 40 = some (xGf 43 6 20) := rfl
theorem kX6_takesRoom_43 : lk LX6_takesRoom 43 = some (xPfI 46 6 22) := rfl
theorem kX6_takesRoom_46 : lk LX6_takesRoom 46 = some (xK 47 (nI 1)) := rfl
theorem kX6_takesRoom_47 : lk LX6_takesRoom 47 = some (xRetZ) := rfl
def LX6_takesThing : List (Nat × XI) := [(0, xLdA 1 0),
  (1, xGf 4 6 23),
  (4, xK 6 (nI 8)),
  (6, xC_eq 20 9),
  (9, xLdA 10 0),
  (10, xK 11 (nI 0)),
  (11, xK 12 (nI 3)),
  (12, xK 14 (nI 44)),
  (14, xCallV MX6_takesNumber 6 3 17),
  (17, xZ_ne 22 20),
  (20, xK 21 (nI 0)),
  (21, xRetZ),
  (22, xLdA 23 0),
  (23, xGf 26 6 20),
  (26, xStI 27 1),
  (27, xLdA 28 0),
  (28, xK 29 (nI 1)),
  (29, xK 31 (nI 20)),
  (31, xK 33 (nI 44)),
  (33, xCallV MX6_takesNumber 6 3 36),
  (36, xZ_ne 41 39),
  (39, xK 40 (nI 0)),
  (40, xRetZ),
  (41, xLdA 42 0),
  (42, xGf 45 6 20),
  (45, xStI 46 2),
  (46, xLdA 47 0),
  (47, xK 48 (nI 0)),
  (48, xK 50 (nI 20)),
  (50, xK 52 (nI 59)),
  (52, xCallV MX6_takesNumber 6 3 55),
  (55, xZ_ne 60 58),
  (58, xK 59 (nI 0)),
  (59, xRetZ),
  (60, xLdA 61 0),
  (61, xLdI 62 1),
  (62, xLdI 63 2),
  (63, xLdA 64 0),
  (64, xGf 67 6 20),
  (67, xCallV MX6_addsThing 6 3 70),
  (70, xK 71 (nI 1)),
  (71, xRetZ)]
theorem sX6_takesThing_0 : Snd MX6_takesThing 0 (xLdA 1 0) := snd_aload_n (M := MX6_takesThing) (pc := 0) dX6_takesThing_0
theorem sX6_takesThing_1 : Snd MX6_takesThing 1 (xGf 4 6 23) := snd_gf (M := MX6_takesThing) (pc := 1) (C0 := RX6) (T0 := TX6) (N := 32) dX6_takesThing_1 rfl tbX6 (by decide) w480
theorem sX6_takesThing_4 : Snd MX6_takesThing 4 (xK 6 (nI 8)) := snd_bipush (M := MX6_takesThing) (pc := 4) dX6_takesThing_4 (by decide +kernel)
theorem sX6_takesThing_6 : Snd MX6_takesThing 6 (xC_eq 20 9) := snd_icmp_eq (M := MX6_takesThing) (pc := 6) dX6_takesThing_6 (by decide)
theorem sX6_takesThing_9 : Snd MX6_takesThing 9 (xLdA 10 0) := snd_aload_n (M := MX6_takesThing) (pc := 9) dX6_takesThing_9
theorem sX6_takesThing_10 : Snd MX6_takesThing 10 (xK 11 (nI 0)) := snd_iconst (M := MX6_takesThing) (pc := 10) dX6_takesThing_10 (by decide +kernel)
theorem sX6_takesThing_11 : Snd MX6_takesThing 11 (xK 12 (nI 3)) := snd_iconst (M := MX6_takesThing) (pc := 11) dX6_takesThing_11 (by decide +kernel)
theorem sX6_takesThing_12 : Snd MX6_takesThing 12 (xK 14 (nI 44)) := snd_bipush (M := MX6_takesThing) (pc := 12) dX6_takesThing_12 (by decide +kernel)
theorem sX6_takesThing_14 : Snd MX6_takesThing 14 (xCallV MX6_takesNumber 6 3 17) := snd_callV (M := MX6_takesThing) (pc := 14) (n := 3) dX6_takesThing_14 rfl w502 w503 w504 ⟨w462, w501, ⟨by decide, by decide, by decide +kernel⟩, by decide⟩ ⟨rfl, rfl⟩
theorem sX6_takesThing_17 : Snd MX6_takesThing 17 (xZ_ne 22 20) := snd_if_ne (M := MX6_takesThing) (pc := 17) dX6_takesThing_17 (by decide)
theorem sX6_takesThing_20 : Snd MX6_takesThing 20 (xK 21 (nI 0)) := snd_iconst (M := MX6_takesThing) (pc := 20) dX6_takesThing_20 (by decide +kernel)
theorem sX6_takesThing_21 : Snd MX6_takesThing 21 (xRetZ) := snd_zret (M := MX6_takesThing) (pc := 21) dX6_takesThing_21 rfl
theorem sX6_takesThing_22 : Snd MX6_takesThing 22 (xLdA 23 0) := snd_aload_n (M := MX6_takesThing) (pc := 22) dX6_takesThing_22
theorem sX6_takesThing_23 : Snd MX6_takesThing 23 (xGf 26 6 20) := snd_gf (M := MX6_takesThing) (pc := 23) (C0 := RX6) (T0 := TX6) (N := 32) dX6_takesThing_23 rfl tbX6 (by decide) w494
theorem sX6_takesThing_26 : Snd MX6_takesThing 26 (xStI 27 1) := snd_istore_n (M := MX6_takesThing) (pc := 26) dX6_takesThing_26 (by decide)
theorem sX6_takesThing_27 : Snd MX6_takesThing 27 (xLdA 28 0) := snd_aload_n (M := MX6_takesThing) (pc := 27) dX6_takesThing_27
theorem sX6_takesThing_28 : Snd MX6_takesThing 28 (xK 29 (nI 1)) := snd_iconst (M := MX6_takesThing) (pc := 28) dX6_takesThing_28 (by decide +kernel)
theorem sX6_takesThing_29 : Snd MX6_takesThing 29 (xK 31 (nI 20)) := snd_bipush (M := MX6_takesThing) (pc := 29) dX6_takesThing_29 (by decide +kernel)
theorem sX6_takesThing_31 : Snd MX6_takesThing 31 (xK 33 (nI 44)) := snd_bipush (M := MX6_takesThing) (pc := 31) dX6_takesThing_31 (by decide +kernel)
theorem sX6_takesThing_33 : Snd MX6_takesThing 33 (xCallV MX6_takesNumber 6 3 36) := snd_callV (M := MX6_takesThing) (pc := 33) (n := 3) dX6_takesThing_33 rfl w502 w503 w504 ⟨w462, w501, ⟨by decide, by decide, by decide +kernel⟩, by decide⟩ ⟨rfl, rfl⟩
theorem sX6_takesThing_36 : Snd MX6_takesThing 36 (xZ_ne 41 39) := snd_if_ne (M := MX6_takesThing) (pc := 36) dX6_takesThing_36 (by decide)
theorem sX6_takesThing_39 : Snd MX6_takesThing 39 (xK 40 (nI 0)) := snd_iconst (M := MX6_takesThing) (pc := 39) dX6_takesThing_39 (by decide +kernel)
theorem sX6_takesThing_40 : Snd MX6_takesThing 40 (xRetZ) := snd_zret (M := MX6_takesThing) (pc := 40) dX6_takesThing_40 rfl
theorem sX6_takesThing_41 : Snd MX6_takesThing 41 (xLdA 42 0) := snd_aload_n (M := MX6_takesThing) (pc := 41) dX6_takesThing_41
theorem sX6_takesThing_42 : Snd MX6_takesThing 42 (xGf 45 6 20) := snd_gf (M := MX6_takesThing) (pc := 42) (C0 := RX6) (T0 := TX6) (N := 32) dX6_takesThing_42 rfl tbX6 (by decide) w494
theorem sX6_takesThing_45 : Snd MX6_takesThing 45 (xStI 46 2) := snd_istore_n (M := MX6_takesThing) (pc := 45) dX6_takesThing_45 (by decide)
theorem sX6_takesThing_46 : Snd MX6_takesThing 46 (xLdA 47 0) := snd_aload_n (M := MX6_takesThing) (pc := 46) dX6_takesThing_46
theorem sX6_takesThing_47 : Snd MX6_takesThing 47 (xK 48 (nI 0)) := snd_iconst (M := MX6_takesThing) (pc := 47) dX6_takesThing_47 (by decide +kernel)
theorem sX6_takesThing_48 : Snd MX6_takesThing 48 (xK 50 (nI 20)) := snd_bipush (M := MX6_takesThing) (pc := 48) dX6_takesThing_48 (by decide +kernel)
theorem sX6_takesThing_50 : Snd MX6_takesThing 50 (xK 52 (nI 59)) := snd_bipush (M := MX6_takesThing) (pc := 50) dX6_takesThing_50 (by decide +kernel)
theorem sX6_takesThing_52 : Snd MX6_takesThing 52 (xCallV MX6_takesNumber 6 3 55) := snd_callV (M := MX6_takesThing) (pc := 52) (n := 3) dX6_takesThing_52 rfl w502 w503 w504 ⟨w462, w501, ⟨by decide, by decide, by decide +kernel⟩, by decide⟩ ⟨rfl, rfl⟩
theorem sX6_takesThing_55 : Snd MX6_takesThing 55 (xZ_ne 60 58) := snd_if_ne (M := MX6_takesThing) (pc := 55) dX6_takesThing_55 (by decide)
theorem sX6_takesThing_58 : Snd MX6_takesThing 58 (xK 59 (nI 0)) := snd_iconst (M := MX6_takesThing) (pc := 58) dX6_takesThing_58 (by decide +kernel)
theorem sX6_takesThing_59 : Snd MX6_takesThing 59 (xRetZ) := snd_zret (M := MX6_takesThing) (pc := 59) dX6_takesThing_59 rfl
theorem sX6_takesThing_60 : Snd MX6_takesThing 60 (xLdA 61 0) := snd_aload_n (M := MX6_takesThing) (pc := 60) dX6_takesThing_60
theorem sX6_takesThing_61 : Snd MX6_takesThing 61 (xLdI 62 1) := snd_iload_n (M := MX6_takesThing) (pc := 61) dX6_takesThing_61
theorem sX6_takesThing_62 : Snd MX6_takesThing 62 (xLdI 63 2) := snd_iload_n (M := MX6_takesThing) (pc := 62) dX6_takesThing_62
theorem sX6_takesThing_63 : Snd MX6_takesThing 63 (xLdA 64 0) := snd_aload_n (M := MX6_takesThing) (pc := 63) dX6_takesThing_63
theorem sX6_takesThing_64 : Snd MX6_takesThing 64 (xGf 67 6 20) := snd_gf (M := MX6_takesThing) (pc := 64) (C0 := RX6) (T0 := TX6) (N := 32) dX6_takesThing_64 rfl tbX6 (by decide) w494
theorem sX6_takesThing_67 : Snd MX6_takesThing 67 (xCallV MX6_addsThing 6 3 70) := snd_callV (M := MX6_takesThing) (pc := 67) (n := 3) dX6_takesThing_67 rfl w464 w465 w466 ⟨w462, w463, ⟨by decide, by decide, by decide +kernel⟩, by decide⟩ ⟨rfl, rfl⟩
theorem sX6_takesThing_70 : Snd MX6_takesThing 70 (xK 71 (nI 1)) := snd_iconst (M := MX6_takesThing) (pc := 70) dX6_takesThing_70 (by decide +kernel)
theorem sX6_takesThing_71 : Snd MX6_takesThing 71 (xRetZ) := snd_zret (M := MX6_takesThing) (pc := 71) dX6_takesThing_71 rfl
theorem VX6_takesThing : Valid MX6_takesThing LX6_takesThing := va_lid sX6_takesThing_0 (va_lid sX6_takesThing_1 (va_lid sX6_takesThing_4 (va_lid sX6_takesThing_6 (va_lid sX6_takesThing_9 (va_lid sX6_takesThing_10 (va_lid sX6_takesThing_11 (va_lid sX6_takesThing_12 (va_lid sX6_takesThing_14 (va_lid sX6_takesThing_17 (va_lid sX6_takesThing_20 (va_lid sX6_takesThing_21 (va_lid sX6_takesThing_22 (va_lid sX6_takesThing_23 (va_lid sX6_takesThing_26 (va_lid sX6_takesThing_27 (va_lid sX6_takesThing_28 (va_lid sX6_takesThing_29 (va_lid sX6_takesThing_31 (va_lid sX6_takesThing_33 (va_lid sX6_takesThing_36 (va_lid sX6_takesThing_39 (va_lid sX6_takesThing_40 (va_lid sX6_takesThing_41 (va_lid sX6_takesThing_42 (va_lid sX6_takesThing_45 (va_lid sX6_takesThing_46 (va_lid sX6_takesThing_47 (va_lid sX6_takesThing_48 (va_lid sX6_takesThing_50 (va_lid sX6_takesThing_52 (va_lid sX6_takesThing_55 (va_lid sX6_takesThing_58 (va_lid sX6_takesThing_59 (va_lid sX6_takesThing_60 (va_lid sX6_takesThing_61 (va_lid sX6_takesThing_62 (va_lid sX6_takesThing_63 (va_lid sX6_takesThing_64 (va_lid sX6_takesThing_67 (va_lid sX6_takesThing_70 (va_lid sX6_takesThing_71 (va_lid0))))))))))))))))))))))))))))))))))))))))))
theorem kX6_takesThing_0 : lk LX6_takesThing 0 = some (xLdA 1 0) := rfl
theorem kX6_takesThing_1 : lk LX6_takesThing 1 = some (xGf 4 6 23) := rfl
theorem kX6_takesThing_4 : lk LX6_takesThing 4 = some (xK 6 (nI 8)) := rfl
theorem kX6_takesThing_6 : lk LX6_takesThing 6 = some (xC_eq 20 9) := rfl
theorem kX6_takesThing_9 : lk LX6_takesThing 9 = some (xLdA 10 0) := rfl
theorem kX6_takesThing_10 : lk LX6_takesThing 10 = some (xK 11 (nI 0)) := rfl
theorem kX6_takesThing_11 : lk LX6_takesThing 11 = some (xK 12 (nI 3)) := rfl
theorem kX6_takesThing_12 : lk LX6_takesThing 12 = some (xK 14 (nI 44)) := rfl
theorem kX6_takesThing_14 : lk LX6_takesThing 14 = some (xCallV MX6_takesNumber 6 3 17) := rfl
theorem kX6_takesThing_17 : lk LX6_takesThing 17 = some (xZ_ne 22 20) := rfl
theorem kX6_takesThing_20 : lk LX6_takesThing 20 = some (xK 21 (nI 0)) := rfl
theorem kX6_takesThing_21 : lk LX6_takesThing 21 = some (xRetZ) := rfl
theorem kX6_takesThing_22 : lk LX6_takesThing 22 = some (xLdA 23 0) := rfl
theorem kX6_takesThing_23 : lk LX6_takesThing 23 = some (xGf 26 6 20) := rfl
theorem kX6_takesThing_26 : lk LX6_takesThing 26 = some (xStI 27 1) := rfl
theorem kX6_takesThing_27 : lk LX6_takesThing 27 = some (xLdA 28 0) := rfl
theorem kX6_takesThing_28 : lk LX6_takesThing 28 = some (xK 29 (nI 1)) := rfl
theorem kX6_takesThing_29 : lk LX6_takesThing 29 = some (xK 31 (nI 20)) := rfl
theorem kX6_takesThing_31 : lk LX6_takesThing 31 = some (xK 33 (nI 44)) := rfl
theorem kX6_takesThing_33 : lk LX6_takesThing 33 = some (xCallV MX6_takesNumber 6 3 36) := rfl
theorem kX6_takesThing_36 : lk LX6_takesThing 36 = some (xZ_ne 41 39) := rfl
theorem kX6_takesThing_39 : lk LX6_takesThing 39 = some (xK 40 (nI 0)) := rfl
theorem kX6_takesThing_40 : lk LX6_takesThing 40 = some (xRetZ) := rfl
theorem kX6_takesThing_41 : lk LX6_takesThing 41 = some (xLdA 42 0) := rfl
theorem kX6_takesThing_42 : lk LX6_takesThing 42 = some (xGf 45 6 20) := rfl
theorem kX6_takesThing_45 : lk LX6_takesThing 45 = some (xStI 46 2) := rfl
theorem kX6_takesThing_46 : lk LX6_takesThing 46 = some (xLdA 47 0) := rfl
theorem kX6_takesThing_47 : lk LX6_takesThing 47 = some (xK 48 (nI 0)) := rfl
theorem kX6_takesThing_48 : lk LX6_takesThing 48 = some (xK 50 (nI 20)) := rfl
theorem kX6_takesThing_50 : lk LX6_takesThing 50 = some (xK 52 (nI 59)) := rfl
theorem kX6_takesThing_52 : lk LX6_takesThing 52 = some (xCallV MX6_takesNumber 6 3 55) := rfl
theorem kX6_takesThing_55 : lk LX6_takesThing 55 = some (xZ_ne 60 58) := rfl
theorem kX6_takesThing_58 : lk LX6_takesThing 58 = some (xK 59 (nI 0)) := rfl
theorem kX6_takesThing_59 : lk LX6_takesThing 59 = some (xRetZ) := rfl
theorem kX6_takesThing_60 : lk LX6_takesThing 60 = some (xLdA 61 0) := rfl
theorem kX6_takesThing_61 : lk LX6_takesThing 61 = some (xLdI 62 1) := rfl
theorem kX6_takesThing_62 : lk LX6_takesThing 62 = some (xLdI 63 2) := rfl
theorem kX6_takesThing_63 : lk LX6_takesThing 63 = some (xLdA 64 0) := rfl
theorem kX6_takesThing_64 : lk LX6_takesThing 64 = some (xGf 67 6 20) := rfl
theorem kX6_takesThing_67 : lk LX6_takesThing 67 = some (xCallV MX6_addsThing 6 3 70) := rfl
theorem kX6_takesThing_70 : lk LX6_takesThing 70 = some (xK 71 (nI 1)) := rfl
theorem kX6_takesThing_71 : lk LX6_takesThing 71 = some (xRetZ) := rfl
def LX6_takesLife : List (Nat × XI) := [(0, xLdA 1 0),
  (1, xGf 4 6 25),
  (4, xK 6 (nI 6)),
  (6, xC_eq 21 9),
  (9, xLdA 10 0),
  (10, xK 11 (nI 0)),
  (11, xK 13 (nI 9)),
  (13, xK 15 (nI 44)),
  (15, xCallV MX6_takesNumber 6 3 18),
  (18, xZ_ne 23 21),
  (21, xK 22 (nI 0)),
  (22, xRetZ),
  (23, xLdA 24 0),
  (24, xGf 27 6 20),
  (27, xStI 28 1),
  (28, xLdA 29 0),
  (29, xK 30 (nI 0)),
  (30, xK 32 (nI 60)),
  (32, xK 34 (nI 44)),
  (34, xCallV MX6_takesNumber 6 3 37),
  (37, xZ_ne 42 40),
  (40, xK 41 (nI 0)),
  (41, xRetZ),
  (42, xLdA 43 0),
  (43, xGf 46 6 20),
  (46, xStI 47 2),
  (47, xLdA 48 0),
  (48, xK 49 (nI 0)),
  (49, xK 51 (nI 60)),
  (51, xK 53 (nI 59)),
  (53, xCallV MX6_takesNumber 6 3 56),
  (56, xZ_ne 61 59),
  (59, xK 60 (nI 0)),
  (60, xRetZ),
  (61, xLdA 62 0),
  (62, xLdI 63 1),
  (63, xLdI 64 2),
  (64, xLdA 65 0),
  (65, xGf 68 6 20),
  (68, xCallV MX6_addsLife 6 3 71),
  (71, xK 72 (nI 1)),
  (72, xRetZ)]
theorem sX6_takesLife_0 : Snd MX6_takesLife 0 (xLdA 1 0) := snd_aload_n (M := MX6_takesLife) (pc := 0) dX6_takesLife_0
theorem sX6_takesLife_1 : Snd MX6_takesLife 1 (xGf 4 6 25) := snd_gf (M := MX6_takesLife) (pc := 1) (C0 := RX6) (T0 := TX6) (N := 32) dX6_takesLife_1 rfl tbX6 (by decide) w481
theorem sX6_takesLife_4 : Snd MX6_takesLife 4 (xK 6 (nI 6)) := snd_bipush (M := MX6_takesLife) (pc := 4) dX6_takesLife_4 (by decide +kernel)
theorem sX6_takesLife_6 : Snd MX6_takesLife 6 (xC_eq 21 9) := snd_icmp_eq (M := MX6_takesLife) (pc := 6) dX6_takesLife_6 (by decide)
theorem sX6_takesLife_9 : Snd MX6_takesLife 9 (xLdA 10 0) := snd_aload_n (M := MX6_takesLife) (pc := 9) dX6_takesLife_9
theorem sX6_takesLife_10 : Snd MX6_takesLife 10 (xK 11 (nI 0)) := snd_iconst (M := MX6_takesLife) (pc := 10) dX6_takesLife_10 (by decide +kernel)
theorem sX6_takesLife_11 : Snd MX6_takesLife 11 (xK 13 (nI 9)) := snd_bipush (M := MX6_takesLife) (pc := 11) dX6_takesLife_11 (by decide +kernel)
theorem sX6_takesLife_13 : Snd MX6_takesLife 13 (xK 15 (nI 44)) := snd_bipush (M := MX6_takesLife) (pc := 13) dX6_takesLife_13 (by decide +kernel)
theorem sX6_takesLife_15 : Snd MX6_takesLife 15 (xCallV MX6_takesNumber 6 3 18) := snd_callV (M := MX6_takesLife) (pc := 15) (n := 3) dX6_takesLife_15 rfl w502 w503 w504 ⟨w462, w501, ⟨by decide, by decide, by decide +kernel⟩, by decide⟩ ⟨rfl, rfl⟩
theorem sX6_takesLife_18 : Snd MX6_takesLife 18 (xZ_ne 23 21) := snd_if_ne (M := MX6_takesLife) (pc := 18) dX6_takesLife_18 (by decide)
theorem sX6_takesLife_21 : Snd MX6_takesLife 21 (xK 22 (nI 0)) := snd_iconst (M := MX6_takesLife) (pc := 21) dX6_takesLife_21 (by decide +kernel)
theorem sX6_takesLife_22 : Snd MX6_takesLife 22 (xRetZ) := snd_zret (M := MX6_takesLife) (pc := 22) dX6_takesLife_22 rfl
theorem sX6_takesLife_23 : Snd MX6_takesLife 23 (xLdA 24 0) := snd_aload_n (M := MX6_takesLife) (pc := 23) dX6_takesLife_23
theorem sX6_takesLife_24 : Snd MX6_takesLife 24 (xGf 27 6 20) := snd_gf (M := MX6_takesLife) (pc := 24) (C0 := RX6) (T0 := TX6) (N := 32) dX6_takesLife_24 rfl tbX6 (by decide) w494
theorem sX6_takesLife_27 : Snd MX6_takesLife 27 (xStI 28 1) := snd_istore_n (M := MX6_takesLife) (pc := 27) dX6_takesLife_27 (by decide)
theorem sX6_takesLife_28 : Snd MX6_takesLife 28 (xLdA 29 0) := snd_aload_n (M := MX6_takesLife) (pc := 28) dX6_takesLife_28
theorem sX6_takesLife_29 : Snd MX6_takesLife 29 (xK 30 (nI 0)) := snd_iconst (M := MX6_takesLife) (pc := 29) dX6_takesLife_29 (by decide +kernel)
theorem sX6_takesLife_30 : Snd MX6_takesLife 30 (xK 32 (nI 60)) := snd_bipush (M := MX6_takesLife) (pc := 30) dX6_takesLife_30 (by decide +kernel)
theorem sX6_takesLife_32 : Snd MX6_takesLife 32 (xK 34 (nI 44)) := snd_bipush (M := MX6_takesLife) (pc := 32) dX6_takesLife_32 (by decide +kernel)
theorem sX6_takesLife_34 : Snd MX6_takesLife 34 (xCallV MX6_takesNumber 6 3 37) := snd_callV (M := MX6_takesLife) (pc := 34) (n := 3) dX6_takesLife_34 rfl w502 w503 w504 ⟨w462, w501, ⟨by decide, by decide, by decide +kernel⟩, by decide⟩ ⟨rfl, rfl⟩
theorem sX6_takesLife_37 : Snd MX6_takesLife 37 (xZ_ne 42 40) := snd_if_ne (M := MX6_takesLife) (pc := 37) dX6_takesLife_37 (by decide)
theorem sX6_takesLife_40 : Snd MX6_takesLife 40 (xK 41 (nI 0)) := snd_iconst (M := MX6_takesLife) (pc := 40) dX6_takesLife_40 (by decide +kernel)
theorem sX6_takesLife_41 : Snd MX6_takesLife 41 (xRetZ) := snd_zret (M := MX6_takesLife) (pc := 41) dX6_takesLife_41 rfl
theorem sX6_takesLife_42 : Snd MX6_takesLife 42 (xLdA 43 0) := snd_aload_n (M := MX6_takesLife) (pc := 42) dX6_takesLife_42
theorem sX6_takesLife_43 : Snd MX6_takesLife 43 (xGf 46 6 20) := snd_gf (M := MX6_takesLife) (pc := 43) (C0 := RX6) (T0 := TX6) (N := 32) dX6_takesLife_43 rfl tbX6 (by decide) w494
theorem sX6_takesLife_46 : Snd MX6_takesLife 46 (xStI 47 2) := snd_istore_n (M := MX6_takesLife) (pc := 46) dX6_takesLife_46 (by decide)
theorem sX6_takesLife_47 : Snd MX6_takesLife 47 (xLdA 48 0) := snd_aload_n (M := MX6_takesLife) (pc := 47) dX6_takesLife_47
theorem sX6_takesLife_48 : Snd MX6_takesLife 48 (xK 49 (nI 0)) := snd_iconst (M := MX6_takesLife) (pc := 48) dX6_takesLife_48 (by decide +kernel)
theorem sX6_takesLife_49 : Snd MX6_takesLife 49 (xK 51 (nI 60)) := snd_bipush (M := MX6_takesLife) (pc := 49) dX6_takesLife_49 (by decide +kernel)
theorem sX6_takesLife_51 : Snd MX6_takesLife 51 (xK 53 (nI 59)) := snd_bipush (M := MX6_takesLife) (pc := 51) dX6_takesLife_51 (by decide +kernel)
theorem sX6_takesLife_53 : Snd MX6_takesLife 53 (xCallV MX6_takesNumber 6 3 56) := snd_callV (M := MX6_takesLife) (pc := 53) (n := 3) dX6_takesLife_53 rfl w502 w503 w504 ⟨w462, w501, ⟨by decide, by decide, by decide +kernel⟩, by decide⟩ ⟨rfl, rfl⟩
theorem sX6_takesLife_56 : Snd MX6_takesLife 56 (xZ_ne 61 59) := snd_if_ne (M := MX6_takesLife) (pc := 56) dX6_takesLife_56 (by decide)
theorem sX6_takesLife_59 : Snd MX6_takesLife 59 (xK 60 (nI 0)) := snd_iconst (M := MX6_takesLife) (pc := 59) dX6_takesLife_59 (by decide +kernel)
theorem sX6_takesLife_60 : Snd MX6_takesLife 60 (xRetZ) := snd_zret (M := MX6_takesLife) (pc := 60) dX6_takesLife_60 rfl
theorem sX6_takesLife_61 : Snd MX6_takesLife 61 (xLdA 62 0) := snd_aload_n (M := MX6_takesLife) (pc := 61) dX6_takesLife_61
theorem sX6_takesLife_62 : Snd MX6_takesLife 62 (xLdI 63 1) := snd_iload_n (M := MX6_takesLife) (pc := 62) dX6_takesLife_62
theorem sX6_takesLife_63 : Snd MX6_takesLife 63 (xLdI 64 2) := snd_iload_n (M := MX6_takesLife) (pc := 63) dX6_takesLife_63
theorem sX6_takesLife_64 : Snd MX6_takesLife 64 (xLdA 65 0) := snd_aload_n (M := MX6_takesLife) (pc := 64) dX6_takesLife_64
theorem sX6_takesLife_65 : Snd MX6_takesLife 65 (xGf 68 6 20) := snd_gf (M := MX6_takesLife) (pc := 65) (C0 := RX6) (T0 := TX6) (N := 32) dX6_takesLife_65 rfl tbX6 (by decide) w494
theorem sX6_takesLife_68 : Snd MX6_takesLife 68 (xCallV MX6_addsLife 6 3 71) := snd_callV (M := MX6_takesLife) (pc := 68) (n := 3) dX6_takesLife_68 rfl w468 w469 w470 ⟨w462, w467, ⟨by decide, by decide, by decide +kernel⟩, by decide⟩ ⟨rfl, rfl⟩
theorem sX6_takesLife_71 : Snd MX6_takesLife 71 (xK 72 (nI 1)) := snd_iconst (M := MX6_takesLife) (pc := 71) dX6_takesLife_71 (by decide +kernel)
theorem sX6_takesLife_72 : Snd MX6_takesLife 72 (xRetZ) := snd_zret (M := MX6_takesLife) (pc := 72) dX6_takesLife_72 rfl
theorem VX6_takesLife : Valid MX6_takesLife LX6_takesLife := va_lid sX6_takesLife_0 (va_lid sX6_takesLife_1 (va_lid sX6_takesLife_4 (va_lid sX6_takesLife_6 (va_lid sX6_takesLife_9 (va_lid sX6_takesLife_10 (va_lid sX6_takesLife_11 (va_lid sX6_takesLife_13 (va_lid sX6_takesLife_15 (va_lid sX6_takesLife_18 (va_lid sX6_takesLife_21 (va_lid sX6_takesLife_22 (va_lid sX6_takesLife_23 (va_lid sX6_takesLife_24 (va_lid sX6_takesLife_27 (va_lid sX6_takesLife_28 (va_lid sX6_takesLife_29 (va_lid sX6_takesLife_30 (va_lid sX6_takesLife_32 (va_lid sX6_takesLife_34 (va_lid sX6_takesLife_37 (va_lid sX6_takesLife_40 (va_lid sX6_takesLife_41 (va_lid sX6_takesLife_42 (va_lid sX6_takesLife_43 (va_lid sX6_takesLife_46 (va_lid sX6_takesLife_47 (va_lid sX6_takesLife_48 (va_lid sX6_takesLife_49 (va_lid sX6_takesLife_51 (va_lid sX6_takesLife_53 (va_lid sX6_takesLife_56 (va_lid sX6_takesLife_59 (va_lid sX6_takesLife_60 (va_lid sX6_takesLife_61 (va_lid sX6_takesLife_62 (va_lid sX6_takesLife_63 (va_lid sX6_takesLife_64 (va_lid sX6_takesLife_65 (va_lid sX6_takesLife_68 (va_lid sX6_takesLife_71 (va_lid sX6_takesLife_72 (va_lid0))))))))))))))))))))))))))))))))))))))))))
theorem kX6_takesLife_0 : lk LX6_takesLife 0 = some (xLdA 1 0) := rfl
theorem kX6_takesLife_1 : lk LX6_takesLife 1 = some (xGf 4 6 25) := rfl
theorem kX6_takesLife_4 : lk LX6_takesLife 4 = some (xK 6 (nI 6)) := rfl
theorem kX6_takesLife_6 : lk LX6_takesLife 6 = some (xC_eq 21 9) := rfl
theorem kX6_takesLife_9 : lk LX6_takesLife 9 = some (xLdA 10 0) := rfl
theorem kX6_takesLife_10 : lk LX6_takesLife 10 = some (xK 11 (nI 0)) := rfl
theorem kX6_takesLife_11 : lk LX6_takesLife 11 = some (xK 13 (nI 9)) := rfl
theorem kX6_takesLife_13 : lk LX6_takesLife 13 = some (xK 15 (nI 44)) := rfl
theorem kX6_takesLife_15 : lk LX6_takesLife 15 = some (xCallV MX6_takesNumber 6 3 18) := rfl
theorem kX6_takesLife_18 : lk LX6_takesLife 18 = some (xZ_ne 23 21) := rfl
theorem kX6_takesLife_21 : lk LX6_takesLife 21 = some (xK 22 (nI 0)) := rfl
theorem kX6_takesLife_22 : lk LX6_takesLife 22 = some (xRetZ) := rfl
theorem kX6_takesLife_23 : lk LX6_takesLife 23 = some (xLdA 24 0) := rfl
theorem kX6_takesLife_24 : lk LX6_takesLife 24 = some (xGf 27 6 20) := rfl
theorem kX6_takesLife_27 : lk LX6_takesLife 27 = some (xStI 28 1) := rfl
theorem kX6_takesLife_28 : lk LX6_takesLife 28 = some (xLdA 29 0) := rfl
theorem kX6_takesLife_29 : lk LX6_takesLife 29 = some (xK 30 (nI 0)) := rfl
theorem kX6_takesLife_30 : lk LX6_takesLife 30 = some (xK 32 (nI 60)) := rfl
theorem kX6_takesLife_32 : lk LX6_takesLife 32 = some (xK 34 (nI 44)) := rfl
theorem kX6_takesLife_34 : lk LX6_takesLife 34 = some (xCallV MX6_takesNumber 6 3 37) := rfl
theorem kX6_takesLife_37 : lk LX6_takesLife 37 = some (xZ_ne 42 40) := rfl
theorem kX6_takesLife_40 : lk LX6_takesLife 40 = some (xK 41 (nI 0)) := rfl
theorem kX6_takesLife_41 : lk LX6_takesLife 41 = some (xRetZ) := rfl
theorem kX6_takesLife_42 : lk LX6_takesLife 42 = some (xLdA 43 0) := rfl
theorem kX6_takesLife_43 : lk LX6_takesLife 43 = some (xGf 46 6 20) := rfl
theorem kX6_takesLife_46 : lk LX6_takesLife 46 = some (xStI 47 2) := rfl
theorem kX6_takesLife_47 : lk LX6_takesLife 47 = some (xLdA 48 0) := rfl
theorem kX6_takesLife_48 : lk LX6_takesLife 48 = some (xK 49 (nI 0)) := rfl
theorem kX6_takesLife_49 : lk LX6_takesLife 49 = some (xK 51 (nI 60)) := rfl
theorem kX6_takesLife_51 : lk LX6_takesLife 51 = some (xK 53 (nI 59)) := rfl
theorem kX6_takesLife_53 : lk LX6_takesLife 53 = some (xCallV MX6_takesNumber 6 3 56) := rfl
theorem kX6_takesLife_56 : lk LX6_takesLife 56 = some (xZ_ne 61 59) := rfl
theorem kX6_takesLife_59 : lk LX6_takesLife 59 = some (xK 60 (nI 0)) := rfl
theorem kX6_takesLife_60 : lk LX6_takesLife 60 = some (xRetZ) := rfl
theorem kX6_takesLife_61 : lk LX6_takesLife 61 = some (xLdA 62 0) := rfl
theorem kX6_takesLife_62 : lk LX6_takesLife 62 = some (xLdI 63 1) := rfl
theorem kX6_takesLife_63 : lk LX6_takesLife 63 = some (xLdI 64 2) := rfl
theorem kX6_takesLife_64 : lk LX6_takesLife 64 = some (xLdA 65 0) := rfl
theorem kX6_takesLife_65 : lk LX6_takesLife 65 = some (xGf 68 6 20) := rfl
theorem kX6_takesLife_68 : lk LX6_takesLife 68 = some (xCallV MX6_addsLife 6 3 71) := rfl
theorem kX6_takesLife_71 : lk LX6_takesLife 71 = some (xK 72 (nI 1)) := rfl
theorem kX6_takesLife_72 : lk LX6_takesLife 72 = some (xRetZ) := rfl
def LX6_takesNeed : List (Nat × XI) := [(0, xLdA 1 0),
  (1, xK 2 (nI 0)),
  (2, xLdA 3 0),
  (3, xGf 6 6 25),
  (6, xK 7 (nI 1)),
  (7, xBin 8 f_isub),
  (8, xK 10 (nI 44)),
  (10, xCallV MX6_takesNumber 6 3 13),
  (13, xZ_ne 18 16),
  (16, xK 17 (nI 0)),
  (17, xRetZ),
  (18, xLdA 19 0),
  (19, xGf 22 6 20),
  (22, xStI 23 1),
  (23, xLdA 24 0),
  (24, xK 25 (nI 0)),
  (25, xLdA 26 0),
  (26, xGf 29 6 23),
  (29, xK 30 (nI 1)),
  (30, xBin 31 f_isub),
  (31, xK 33 (nI 59)),
  (33, xCallV MX6_takesNumber 6 3 36),
  (36, xZ_ne 41 39),
  (39, xK 40 (nI 0)),
  (40, xRetZ),
  (41, xLdA 42 0),
  (42, xGf 45 6 27),
  (45, xLdI 46 1),
  (46, xDup2 47),
  (47, xiaload 48),
  (48, xK 49 (nI 1)),
  (49, xLdA 50 0),
  (50, xGf 53 6 20),
  (53, xBin 54 f_ishl),
  (54, xBin 55 f_ixor),
  (55, xiastore 56),
  (56, xK 57 (nI 1)),
  (57, xRetZ)]
theorem sX6_takesNeed_0 : Snd MX6_takesNeed 0 (xLdA 1 0) := snd_aload_n (M := MX6_takesNeed) (pc := 0) dX6_takesNeed_0
theorem sX6_takesNeed_1 : Snd MX6_takesNeed 1 (xK 2 (nI 0)) := snd_iconst (M := MX6_takesNeed) (pc := 1) dX6_takesNeed_1 (by decide +kernel)
theorem sX6_takesNeed_2 : Snd MX6_takesNeed 2 (xLdA 3 0) := snd_aload_n (M := MX6_takesNeed) (pc := 2) dX6_takesNeed_2
theorem sX6_takesNeed_3 : Snd MX6_takesNeed 3 (xGf 6 6 25) := snd_gf (M := MX6_takesNeed) (pc := 3) (C0 := RX6) (T0 := TX6) (N := 32) dX6_takesNeed_3 rfl tbX6 (by decide) w481
theorem sX6_takesNeed_6 : Snd MX6_takesNeed 6 (xK 7 (nI 1)) := snd_iconst (M := MX6_takesNeed) (pc := 6) dX6_takesNeed_6 (by decide +kernel)
theorem sX6_takesNeed_7 : Snd MX6_takesNeed 7 (xBin 8 f_isub) := snd_isub (M := MX6_takesNeed) (pc := 7) dX6_takesNeed_7
theorem sX6_takesNeed_8 : Snd MX6_takesNeed 8 (xK 10 (nI 44)) := snd_bipush (M := MX6_takesNeed) (pc := 8) dX6_takesNeed_8 (by decide +kernel)
theorem sX6_takesNeed_10 : Snd MX6_takesNeed 10 (xCallV MX6_takesNumber 6 3 13) := snd_callV (M := MX6_takesNeed) (pc := 10) (n := 3) dX6_takesNeed_10 rfl w502 w503 w504 ⟨w462, w501, ⟨by decide, by decide, by decide +kernel⟩, by decide⟩ ⟨rfl, rfl⟩
theorem sX6_takesNeed_13 : Snd MX6_takesNeed 13 (xZ_ne 18 16) := snd_if_ne (M := MX6_takesNeed) (pc := 13) dX6_takesNeed_13 (by decide)
theorem sX6_takesNeed_16 : Snd MX6_takesNeed 16 (xK 17 (nI 0)) := snd_iconst (M := MX6_takesNeed) (pc := 16) dX6_takesNeed_16 (by decide +kernel)
theorem sX6_takesNeed_17 : Snd MX6_takesNeed 17 (xRetZ) := snd_zret (M := MX6_takesNeed) (pc := 17) dX6_takesNeed_17 rfl
theorem sX6_takesNeed_18 : Snd MX6_takesNeed 18 (xLdA 19 0) := snd_aload_n (M := MX6_takesNeed) (pc := 18) dX6_takesNeed_18
theorem sX6_takesNeed_19 : Snd MX6_takesNeed 19 (xGf 22 6 20) := snd_gf (M := MX6_takesNeed) (pc := 19) (C0 := RX6) (T0 := TX6) (N := 32) dX6_takesNeed_19 rfl tbX6 (by decide) w494
theorem sX6_takesNeed_22 : Snd MX6_takesNeed 22 (xStI 23 1) := snd_istore_n (M := MX6_takesNeed) (pc := 22) dX6_takesNeed_22 (by decide)
theorem sX6_takesNeed_23 : Snd MX6_takesNeed 23 (xLdA 24 0) := snd_aload_n (M := MX6_takesNeed) (pc := 23) dX6_takesNeed_23
theorem sX6_takesNeed_24 : Snd MX6_takesNeed 24 (xK 25 (nI 0)) := snd_iconst (M := MX6_takesNeed) (pc := 24) dX6_takesNeed_24 (by decide +kernel)
theorem sX6_takesNeed_25 : Snd MX6_takesNeed 25 (xLdA 26 0) := snd_aload_n (M := MX6_takesNeed) (pc := 25) dX6_takesNeed_25
theorem sX6_takesNeed_26 : Snd MX6_takesNeed 26 (xGf 29 6 23) := snd_gf (M := MX6_takesNeed) (pc := 26) (C0 := RX6) (T0 := TX6) (N := 32) dX6_takesNeed_26 rfl tbX6 (by decide) w480
theorem sX6_takesNeed_29 : Snd MX6_takesNeed 29 (xK 30 (nI 1)) := snd_iconst (M := MX6_takesNeed) (pc := 29) dX6_takesNeed_29 (by decide +kernel)
theorem sX6_takesNeed_30 : Snd MX6_takesNeed 30 (xBin 31 f_isub) := snd_isub (M := MX6_takesNeed) (pc := 30) dX6_takesNeed_30
theorem sX6_takesNeed_31 : Snd MX6_takesNeed 31 (xK 33 (nI 59)) := snd_bipush (M := MX6_takesNeed) (pc := 31) dX6_takesNeed_31 (by decide +kernel)
theorem sX6_takesNeed_33 : Snd MX6_takesNeed 33 (xCallV MX6_takesNumber 6 3 36) := snd_callV (M := MX6_takesNeed) (pc := 33) (n := 3) dX6_takesNeed_33 rfl w502 w503 w504 ⟨w462, w501, ⟨by decide, by decide, by decide +kernel⟩, by decide⟩ ⟨rfl, rfl⟩
theorem sX6_takesNeed_36 : Snd MX6_takesNeed 36 (xZ_ne 41 39) := snd_if_ne (M := MX6_takesNeed) (pc := 36) dX6_takesNeed_36 (by decide)
theorem sX6_takesNeed_39 : Snd MX6_takesNeed 39 (xK 40 (nI 0)) := snd_iconst (M := MX6_takesNeed) (pc := 39) dX6_takesNeed_39 (by decide +kernel)
theorem sX6_takesNeed_40 : Snd MX6_takesNeed 40 (xRetZ) := snd_zret (M := MX6_takesNeed) (pc := 40) dX6_takesNeed_40 rfl
theorem sX6_takesNeed_41 : Snd MX6_takesNeed 41 (xLdA 42 0) := snd_aload_n (M := MX6_takesNeed) (pc := 41) dX6_takesNeed_41
theorem sX6_takesNeed_42 : Snd MX6_takesNeed 42 (xGf 45 6 27) := snd_gf (M := MX6_takesNeed) (pc := 42) (C0 := RX6) (T0 := TX6) (N := 32) dX6_takesNeed_42 rfl tbX6 (by decide) w455
theorem sX6_takesNeed_45 : Snd MX6_takesNeed 45 (xLdI 46 1) := snd_iload_n (M := MX6_takesNeed) (pc := 45) dX6_takesNeed_45
theorem sX6_takesNeed_46 : Snd MX6_takesNeed 46 (xDup2 47) := snd_dup2 (M := MX6_takesNeed) (pc := 46) dX6_takesNeed_46
theorem sX6_takesNeed_47 : Snd MX6_takesNeed 47 (xiaload 48) := snd_iaload (M := MX6_takesNeed) (pc := 47) dX6_takesNeed_47
theorem sX6_takesNeed_48 : Snd MX6_takesNeed 48 (xK 49 (nI 1)) := snd_iconst (M := MX6_takesNeed) (pc := 48) dX6_takesNeed_48 (by decide +kernel)
theorem sX6_takesNeed_49 : Snd MX6_takesNeed 49 (xLdA 50 0) := snd_aload_n (M := MX6_takesNeed) (pc := 49) dX6_takesNeed_49
theorem sX6_takesNeed_50 : Snd MX6_takesNeed 50 (xGf 53 6 20) := snd_gf (M := MX6_takesNeed) (pc := 50) (C0 := RX6) (T0 := TX6) (N := 32) dX6_takesNeed_50 rfl tbX6 (by decide) w494
theorem sX6_takesNeed_53 : Snd MX6_takesNeed 53 (xBin 54 f_ishl) := snd_ishl (M := MX6_takesNeed) (pc := 53) dX6_takesNeed_53
theorem sX6_takesNeed_54 : Snd MX6_takesNeed 54 (xBin 55 f_ixor) := snd_ixor (M := MX6_takesNeed) (pc := 54) dX6_takesNeed_54
theorem sX6_takesNeed_55 : Snd MX6_takesNeed 55 (xiastore 56) := snd_iastore (M := MX6_takesNeed) (pc := 55) dX6_takesNeed_55
theorem sX6_takesNeed_56 : Snd MX6_takesNeed 56 (xK 57 (nI 1)) := snd_iconst (M := MX6_takesNeed) (pc := 56) dX6_takesNeed_56 (by decide +kernel)
theorem sX6_takesNeed_57 : Snd MX6_takesNeed 57 (xRetZ) := snd_zret (M := MX6_takesNeed) (pc := 57) dX6_takesNeed_57 rfl
theorem VX6_takesNeed : Valid MX6_takesNeed LX6_takesNeed := va_lid sX6_takesNeed_0 (va_lid sX6_takesNeed_1 (va_lid sX6_takesNeed_2 (va_lid sX6_takesNeed_3 (va_lid sX6_takesNeed_6 (va_lid sX6_takesNeed_7 (va_lid sX6_takesNeed_8 (va_lid sX6_takesNeed_10 (va_lid sX6_takesNeed_13 (va_lid sX6_takesNeed_16 (va_lid sX6_takesNeed_17 (va_lid sX6_takesNeed_18 (va_lid sX6_takesNeed_19 (va_lid sX6_takesNeed_22 (va_lid sX6_takesNeed_23 (va_lid sX6_takesNeed_24 (va_lid sX6_takesNeed_25 (va_lid sX6_takesNeed_26 (va_lid sX6_takesNeed_29 (va_lid sX6_takesNeed_30 (va_lid sX6_takesNeed_31 (va_lid sX6_takesNeed_33 (va_lid sX6_takesNeed_36 (va_lid sX6_takesNeed_39 (va_lid sX6_takesNeed_40 (va_lid sX6_takesNeed_41 (va_lid sX6_takesNeed_42 (va_lid sX6_takesNeed_45 (va_lid sX6_takesNeed_46 (va_lid sX6_takesNeed_47 (va_lid sX6_takesNeed_48 (va_lid sX6_takesNeed_49 (va_lid sX6_takesNeed_50 (va_lid sX6_takesNeed_53 (va_lid sX6_takesNeed_54 (va_lid sX6_takesNeed_55 (va_lid sX6_takesNeed_56 (va_lid sX6_takesNeed_57 (va_lid0))))))))))))))))))))))))))))))))))))))
theorem kX6_takesNeed_0 : lk LX6_takesNeed 0 = some (xLdA 1 0) := rfl
theorem kX6_takesNeed_1 : lk LX6_takesNeed 1 = some (xK 2 (nI 0)) := rfl
theorem kX6_takesNeed_2 : lk LX6_takesNeed 2 = some (xLdA 3 0) := rfl
theorem kX6_takesNeed_3 : lk LX6_takesNeed 3 = some (xGf 6 6 25) := rfl
theorem kX6_takesNeed_6 : lk LX6_takesNeed 6 = some (xK 7 (nI 1)) := rfl
theorem kX6_takesNeed_7 : lk LX6_takesNeed 7 = some (xBin 8 f_isub) := rfl
theorem kX6_takesNeed_8 : lk LX6_takesNeed 8 = some (xK 10 (nI 44)) := rfl
theorem kX6_takesNeed_10 : lk LX6_takesNeed 10 = some (xCallV MX6_takesNumber 6 3 13) := rfl
theorem kX6_takesNeed_13 : lk LX6_takesNeed 13 = some (xZ_ne 18 16) := rfl
theorem kX6_takesNeed_16 : lk LX6_takesNeed 16 = some (xK 17 (nI 0)) := rfl
theorem kX6_takesNeed_17 : lk LX6_takesNeed 17 = some (xRetZ) := rfl
theorem kX6_takesNeed_18 : lk LX6_takesNeed 18 = some (xLdA 19 0) := rfl
theorem kX6_takesNeed_19 : lk LX6_takesNeed 19 = some (xGf 22 6 20) := rfl
theorem kX6_takesNeed_22 : lk LX6_takesNeed 22 = some (xStI 23 1) := rfl
theorem kX6_takesNeed_23 : lk LX6_takesNeed 23 = some (xLdA 24 0) := rfl
theorem kX6_takesNeed_24 : lk LX6_takesNeed 24 = some (xK 25 (nI 0)) := rfl
theorem kX6_takesNeed_25 : lk LX6_takesNeed 25 = some (xLdA 26 0) := rfl
theorem kX6_takesNeed_26 : lk LX6_takesNeed 26 = some (xGf 29 6 23) := rfl
theorem kX6_takesNeed_29 : lk LX6_takesNeed 29 = some (xK 30 (nI 1)) := rfl
theorem kX6_takesNeed_30 : lk LX6_takesNeed 30 = some (xBin 31 f_isub) := rfl
theorem kX6_takesNeed_31 : lk LX6_takesNeed 31 = some (xK 33 (nI 59)) := rfl
theorem kX6_takesNeed_33 : lk LX6_takesNeed 33 = some (xCallV MX6_takesNumber 6 3 36) := rfl
theorem kX6_takesNeed_36 : lk LX6_takesNeed 36 = some (xZ_ne 41 39) := rfl
theorem kX6_takesNeed_39 : lk LX6_takesNeed 39 = some (xK 40 (nI 0)) := rfl
theorem kX6_takesNeed_40 : lk LX6_takesNeed 40 = some (xRetZ) := rfl
theorem kX6_takesNeed_41 : lk LX6_takesNeed 41 = some (xLdA 42 0) := rfl
theorem kX6_takesNeed_42 : lk LX6_takesNeed 42 = some (xGf 45 6 27) := rfl
theorem kX6_takesNeed_45 : lk LX6_takesNeed 45 = some (xLdI 46 1) := rfl
theorem kX6_takesNeed_46 : lk LX6_takesNeed 46 = some (xDup2 47) := rfl
theorem kX6_takesNeed_47 : lk LX6_takesNeed 47 = some (xiaload 48) := rfl
theorem kX6_takesNeed_48 : lk LX6_takesNeed 48 = some (xK 49 (nI 1)) := rfl
theorem kX6_takesNeed_49 : lk LX6_takesNeed 49 = some (xLdA 50 0) := rfl
theorem kX6_takesNeed_50 : lk LX6_takesNeed 50 = some (xGf 53 6 20) := rfl
theorem kX6_takesNeed_53 : lk LX6_takesNeed 53 = some (xBin 54 f_ishl) := rfl
theorem kX6_takesNeed_54 : lk LX6_takesNeed 54 = some (xBin 55 f_ixor) := rfl
theorem kX6_takesNeed_55 : lk LX6_takesNeed 55 = some (xiastore 56) := rfl
theorem kX6_takesNeed_56 : lk LX6_takesNeed 56 = some (xK 57 (nI 1)) := rfl
theorem kX6_takesNeed_57 : lk LX6_takesNeed 57 = some (xRetZ) := rfl
def LX6_takesItem : List (Nat × XI) := [(0, xLdA 1 0),
  (1, xLdA 2 0),
  (2, xGf 5 6 19),
  (5, xCallV MX6_letterAt 6 1 8),
  (8, xStI 9 1),
  (9, xLdA 10 0),
  (10, xDup 11),
  (11, xGf 14 6 19),
  (14, xK 15 (nI 1)),
  (15, xBin 16 f_iadd),
  (16, xPfI 19 6 19),
  (19, xLdI 20 1),
  (20, xK 22 (nI 114)),
  (22, xC_ne 32 25),
  (25, xLdA 26 0),
  (26, xCallV MX6_takesRoom 6 0 29),
  (29, xGo 76),
  (32, xLdI 33 1),
  (33, xK 35 (nI 116)),
  (35, xC_ne 45 38),
  (38, xLdA 39 0),
  (39, xCallV MX6_takesThing 6 0 42),
  (42, xGo 76),
  (45, xLdI 46 1),
  (46, xK 48 (nI 108)),
  (48, xC_ne 58 51),
  (51, xLdA 52 0),
  (52, xCallV MX6_takesLife 6 0 55),
  (55, xGo 76),
  (58, xLdI 59 1),
  (59, xK 61 (nI 110)),
  (61, xC_ne 75 64),
  (64, xLdA 65 0),
  (65, xCallV MX6_takesNeed 6 0 68),
  (68, xZ_eq 75 71),
  (71, xK 72 (nI 1)),
  (72, xGo 76),
  (75, xK 76 (nI 0)),
  (76, xRetZ)]
theorem sX6_takesItem_0 : Snd MX6_takesItem 0 (xLdA 1 0) := snd_aload_n (M := MX6_takesItem) (pc := 0) dX6_takesItem_0
theorem sX6_takesItem_1 : Snd MX6_takesItem 1 (xLdA 2 0) := snd_aload_n (M := MX6_takesItem) (pc := 1) dX6_takesItem_1
theorem sX6_takesItem_2 : Snd MX6_takesItem 2 (xGf 5 6 19) := snd_gf (M := MX6_takesItem) (pc := 2) (C0 := RX6) (T0 := TX6) (N := 32) dX6_takesItem_2 rfl tbX6 (by decide) w493
theorem sX6_takesItem_5 : Snd MX6_takesItem 5 (xCallV MX6_letterAt 6 1 8) := snd_callV (M := MX6_takesItem) (pc := 5) (n := 1) dX6_takesItem_5 rfl w496 w497 w498 ⟨w462, w495, ⟨by decide, by decide, by decide +kernel⟩, by decide⟩ ⟨rfl, rfl⟩
theorem sX6_takesItem_8 : Snd MX6_takesItem 8 (xStI 9 1) := snd_istore_n (M := MX6_takesItem) (pc := 8) dX6_takesItem_8 (by decide)
theorem sX6_takesItem_9 : Snd MX6_takesItem 9 (xLdA 10 0) := snd_aload_n (M := MX6_takesItem) (pc := 9) dX6_takesItem_9
theorem sX6_takesItem_10 : Snd MX6_takesItem 10 (xDup 11) := snd_dup (M := MX6_takesItem) (pc := 10) dX6_takesItem_10
theorem sX6_takesItem_11 : Snd MX6_takesItem 11 (xGf 14 6 19) := snd_gf (M := MX6_takesItem) (pc := 11) (C0 := RX6) (T0 := TX6) (N := 32) dX6_takesItem_11 rfl tbX6 (by decide) w493
theorem sX6_takesItem_14 : Snd MX6_takesItem 14 (xK 15 (nI 1)) := snd_iconst (M := MX6_takesItem) (pc := 14) dX6_takesItem_14 (by decide +kernel)
theorem sX6_takesItem_15 : Snd MX6_takesItem 15 (xBin 16 f_iadd) := snd_iadd (M := MX6_takesItem) (pc := 15) dX6_takesItem_15
theorem sX6_takesItem_16 : Snd MX6_takesItem 16 (xPfI 19 6 19) := snd_pfI (M := MX6_takesItem) (pc := 16) (C0 := RX6) (T0 := TX6) (N := 32) dX6_takesItem_16 rfl tbX6 tyX6 tyX6_ok nmX6 (by decide) w493 rfl (by decide +kernel)
theorem sX6_takesItem_19 : Snd MX6_takesItem 19 (xLdI 20 1) := snd_iload_n (M := MX6_takesItem) (pc := 19) dX6_takesItem_19
theorem sX6_takesItem_20 : Snd MX6_takesItem 20 (xK 22 (nI 114)) := snd_bipush (M := MX6_takesItem) (pc := 20) dX6_takesItem_20 (by decide +kernel)
theorem sX6_takesItem_22 : Snd MX6_takesItem 22 (xC_ne 32 25) := snd_icmp_ne (M := MX6_takesItem) (pc := 22) dX6_takesItem_22 (by decide)
theorem sX6_takesItem_25 : Snd MX6_takesItem 25 (xLdA 26 0) := snd_aload_n (M := MX6_takesItem) (pc := 25) dX6_takesItem_25
theorem sX6_takesItem_26 : Snd MX6_takesItem 26 (xCallV MX6_takesRoom 6 0 29) := snd_callV (M := MX6_takesItem) (pc := 26) (n := 0) dX6_takesItem_26 rfl w506 w507 w508 ⟨w462, w505, ⟨by decide, by decide, by decide +kernel⟩, by decide⟩ ⟨rfl, rfl⟩
theorem sX6_takesItem_29 : Snd MX6_takesItem 29 (xGo 76) := snd_goto (M := MX6_takesItem) (pc := 29) dX6_takesItem_29 (by decide)
theorem sX6_takesItem_32 : Snd MX6_takesItem 32 (xLdI 33 1) := snd_iload_n (M := MX6_takesItem) (pc := 32) dX6_takesItem_32
theorem sX6_takesItem_33 : Snd MX6_takesItem 33 (xK 35 (nI 116)) := snd_bipush (M := MX6_takesItem) (pc := 33) dX6_takesItem_33 (by decide +kernel)
theorem sX6_takesItem_35 : Snd MX6_takesItem 35 (xC_ne 45 38) := snd_icmp_ne (M := MX6_takesItem) (pc := 35) dX6_takesItem_35 (by decide)
theorem sX6_takesItem_38 : Snd MX6_takesItem 38 (xLdA 39 0) := snd_aload_n (M := MX6_takesItem) (pc := 38) dX6_takesItem_38
theorem sX6_takesItem_39 : Snd MX6_takesItem 39 (xCallV MX6_takesThing 6 0 42) := snd_callV (M := MX6_takesItem) (pc := 39) (n := 0) dX6_takesItem_39 rfl w510 w511 w512 ⟨w462, w509, ⟨by decide, by decide, by decide +kernel⟩, by decide⟩ ⟨rfl, rfl⟩
theorem sX6_takesItem_42 : Snd MX6_takesItem 42 (xGo 76) := snd_goto (M := MX6_takesItem) (pc := 42) dX6_takesItem_42 (by decide)
theorem sX6_takesItem_45 : Snd MX6_takesItem 45 (xLdI 46 1) := snd_iload_n (M := MX6_takesItem) (pc := 45) dX6_takesItem_45
theorem sX6_takesItem_46 : Snd MX6_takesItem 46 (xK 48 (nI 108)) := snd_bipush (M := MX6_takesItem) (pc := 46) dX6_takesItem_46 (by decide +kernel)
theorem sX6_takesItem_48 : Snd MX6_takesItem 48 (xC_ne 58 51) := snd_icmp_ne (M := MX6_takesItem) (pc := 48) dX6_takesItem_48 (by decide)
theorem sX6_takesItem_51 : Snd MX6_takesItem 51 (xLdA 52 0) := snd_aload_n (M := MX6_takesItem) (pc := 51) dX6_takesItem_51
theorem sX6_takesItem_52 : Snd MX6_takesItem 52 (xCallV MX6_takesLife 6 0 55) := snd_callV (M := MX6_takesItem) (pc := 52) (n := 0) dX6_takesItem_52 rfl w514 w515 w516 ⟨w462, w513, ⟨by decide, by decide, by decide +kernel⟩, by decide⟩ ⟨rfl, rfl⟩
theorem sX6_takesItem_55 : Snd MX6_takesItem 55 (xGo 76) := snd_goto (M := MX6_takesItem) (pc := 55) dX6_takesItem_55 (by decide)
theorem sX6_takesItem_58 : Snd MX6_takesItem 58 (xLdI 59 1) := snd_iload_n (M := MX6_takesItem) (pc := 58) dX6_takesItem_58
theorem sX6_takesItem_59 : Snd MX6_takesItem 59 (xK 61 (nI 110)) := snd_bipush (M := MX6_takesItem) (pc := 59) dX6_takesItem_59 (by decide +kernel)
theorem sX6_takesItem_61 : Snd MX6_takesItem 61 (xC_ne 75 64) := snd_icmp_ne (M := MX6_takesItem) (pc := 61) dX6_takesItem_61 (by decide)
theorem sX6_takesItem_64 : Snd MX6_takesItem 64 (xLdA 65 0) := snd_aload_n (M := MX6_takesItem) (pc := 64) dX6_takesItem_64
theorem sX6_takesItem_65 : Snd MX6_takesItem 65 (xCallV MX6_takesNeed 6 0 68) := snd_callV (M := MX6_takesItem) (pc := 65) (n := 0) dX6_takesItem_65 rfl w518 w519 w520 ⟨w462, w517, ⟨by decide, by decide, by decide +kernel⟩, by decide⟩ ⟨rfl, rfl⟩
theorem sX6_takesItem_68 : Snd MX6_takesItem 68 (xZ_eq 75 71) := snd_if_eq (M := MX6_takesItem) (pc := 68) dX6_takesItem_68 (by decide)
theorem sX6_takesItem_71 : Snd MX6_takesItem 71 (xK 72 (nI 1)) := snd_iconst (M := MX6_takesItem) (pc := 71) dX6_takesItem_71 (by decide +kernel)
theorem sX6_takesItem_72 : Snd MX6_takesItem 72 (xGo 76) := snd_goto (M := MX6_takesItem) (pc := 72) dX6_takesItem_72 (by decide)
theorem sX6_takesItem_75 : Snd MX6_takesItem 75 (xK 76 (nI 0)) := snd_iconst (M := MX6_takesItem) (pc := 75) dX6_takesItem_75 (by decide +kernel)
theorem sX6_takesItem_76 : Snd MX6_takesItem 76 (xRetZ) := snd_zret (M := MX6_takesItem) (pc := 76) dX6_takesItem_76 rfl
theorem VX6_takesItem : Valid MX6_takesItem LX6_takesItem := va_lid sX6_takesItem_0 (va_lid sX6_takesItem_1 (va_lid sX6_takesItem_2 (va_lid sX6_takesItem_5 (va_lid sX6_takesItem_8 (va_lid sX6_takesItem_9 (va_lid sX6_takesItem_10 (va_lid sX6_takesItem_11 (va_lid sX6_takesItem_14 (va_lid sX6_takesItem_15 (va_lid sX6_takesItem_16 (va_lid sX6_takesItem_19 (va_lid sX6_takesItem_20 (va_lid sX6_takesItem_22 (va_lid sX6_takesItem_25 (va_lid sX6_takesItem_26 (va_lid sX6_takesItem_29 (va_lid sX6_takesItem_32 (va_lid sX6_takesItem_33 (va_lid sX6_takesItem_35 (va_lid sX6_takesItem_38 (va_lid sX6_takesItem_39 (va_lid sX6_takesItem_42 (va_lid sX6_takesItem_45 (va_lid sX6_takesItem_46 (va_lid sX6_takesItem_48 (va_lid sX6_takesItem_51 (va_lid sX6_takesItem_52 (va_lid sX6_takesItem_55 (va_lid sX6_takesItem_58 (va_lid sX6_takesItem_59 (va_lid sX6_takesItem_61 (va_lid sX6_takesItem_64 (va_lid sX6_takesItem_65 (va_lid sX6_takesItem_68 (va_lid sX6_takesItem_71 (va_lid sX6_takesItem_72 (va_lid sX6_takesItem_75 (va_lid sX6_takesItem_76 (va_lid0)))))))))))))))))))))))))))))))))))))))
theorem kX6_takesItem_0 : lk LX6_takesItem 0 = some (xLdA 1 0) := rfl
theorem kX6_takesItem_1 : lk LX6_takesItem 1 = some (xLdA 2 0) := rfl
theorem kX6_takesItem_2 : lk LX6_takesItem 2 = some (xGf 5 6 19) := rfl
theorem kX6_takesItem_5 : lk LX6_takesItem 5 = some (xCallV MX6_letterAt 6 1 8) := rfl
theorem kX6_takesItem_8 : lk LX6_takesItem 8 = some (xStI 9 1) := rfl
theorem kX6_takesItem_9 : lk LX6_takesItem 9 = some (xLdA 10 0) := rfl
theorem kX6_takesItem_10 : lk LX6_takesItem 10 = some (xDup 11) := rfl
theorem kX6_takesItem_11 : lk LX6_takesItem 11 = some (xGf 14 6 19) := rfl
theorem kX6_takesItem_14 : lk LX6_takesItem 14 = some (xK 15 (nI 1)) := rfl
theorem kX6_takesItem_15 : lk LX6_takesItem 15 = some (xBin 16 f_iadd) := rfl
theorem kX6_takesItem_16 : lk LX6_takesItem 16 = some (xPfI 19 6 19) := rfl
theorem kX6_takesItem_19 : lk LX6_takesItem 19 = some (xLdI 20 1) := rfl
theorem kX6_takesItem_20 : lk LX6_takesItem 20 = some (xK 22 (nI 114)) := rfl
theorem kX6_takesItem_22 : lk LX6_takesItem 22 = some (xC_ne 32 25) := rfl
theorem kX6_takesItem_25 : lk LX6_takesItem 25 = some (xLdA 26 0) := rfl
theorem kX6_takesItem_26 : lk LX6_takesItem 26 = some (xCallV MX6_takesRoom 6 0 29) := rfl
theorem kX6_takesItem_29 : lk LX6_takesItem 29 = some (xGo 76) := rfl
theorem kX6_takesItem_32 : lk LX6_takesItem 32 = some (xLdI 33 1) := rfl
theorem kX6_takesItem_33 : lk LX6_takesItem 33 = some (xK 35 (nI 116)) := rfl
theorem kX6_takesItem_35 : lk LX6_takesItem 35 = some (xC_ne 45 38) := rfl
theorem kX6_takesItem_38 : lk LX6_takesItem 38 = some (xLdA 39 0) := rfl
theorem kX6_takesItem_39 : lk LX6_takesItem 39 = some (xCallV MX6_takesThing 6 0 42) := rfl
theorem kX6_takesItem_42 : lk LX6_takesItem 42 = some (xGo 76) := rfl
theorem kX6_takesItem_45 : lk LX6_takesItem 45 = some (xLdI 46 1) := rfl
theorem kX6_takesItem_46 : lk LX6_takesItem 46 = some (xK 48 (nI 108)) := rfl
theorem kX6_takesItem_48 : lk LX6_takesItem 48 = some (xC_ne 58 51) := rfl
theorem kX6_takesItem_51 : lk LX6_takesItem 51 = some (xLdA 52 0) := rfl
theorem kX6_takesItem_52 : lk LX6_takesItem 52 = some (xCallV MX6_takesLife 6 0 55) := rfl
theorem kX6_takesItem_55 : lk LX6_takesItem 55 = some (xGo 76) := rfl
theorem kX6_takesItem_58 : lk LX6_takesItem 58 = some (xLdI 59 1) := rfl
theorem kX6_takesItem_59 : lk LX6_takesItem 59 = some (xK 61 (nI 110)) := rfl
theorem kX6_takesItem_61 : lk LX6_takesItem 61 = some (xC_ne 75 64) := rfl
theorem kX6_takesItem_64 : lk LX6_takesItem 64 = some (xLdA 65 0) := rfl
theorem kX6_takesItem_65 : lk LX6_takesItem 65 = some (xCallV MX6_takesNeed 6 0 68) := rfl
theorem kX6_takesItem_68 : lk LX6_takesItem 68 = some (xZ_eq 75 71) := rfl
theorem kX6_takesItem_71 : lk LX6_takesItem 71 = some (xK 72 (nI 1)) := rfl
theorem kX6_takesItem_72 : lk LX6_takesItem 72 = some (xGo 76) := rfl
theorem kX6_takesItem_75 : lk LX6_takesItem 75 = some (xK 76 (nI 0)) := rfl
theorem kX6_takesItem_76 : lk LX6_takesItem 76 = some (xRetZ) := rfl
def LX6_faultOf : List (Nat × XI) := [(0, xLdA 1 0),
  (1, xK 3 (nI 20)),
  (3, xPfI 6 6 21),
  (6, xLdA 7 0),
  (7, xK 8 (nI 5)),
  (8, xPfI 11 6 22),
  (11, xLdA 12 0),
  (12, xK 13 (nI 0)),
  (13, xPfI 16 6 23),
  (16, xLdA 17 0),
  (17, xK 18 (nI 0)),
  (18, xPfI 21 6 25),
  (21, xLdA 22 0),
  (22, xK 23 (nI 0)),
  (23, xPfI 26 6 19),
  (26, xLdA 27 0),
  (27, xGf 30 6 19),
  (30, xLdA 31 0),
  (31, xGf 34 6 18),
  (34, xC_ge 54 37),
  (37, xLdA 38 0),
  (38, xGf 41 6 19),
  (41, xStI 42 1),
  (42, xLdA 43 0),
  (43, xCallV MX6_takesItem 6 0 46),
  (46, xZ_ne 51 49),
  (49, xLdI 50 1),
  (50, xRet),
  (51, xGo 26),
  (54, xK 56 ((-4))),
  (56, xRet)]
theorem sX6_faultOf_0 : Snd MX6_faultOf 0 (xLdA 1 0) := snd_aload_n (M := MX6_faultOf) (pc := 0) dX6_faultOf_0
theorem sX6_faultOf_1 : Snd MX6_faultOf 1 (xK 3 (nI 20)) := snd_bipush (M := MX6_faultOf) (pc := 1) dX6_faultOf_1 (by decide +kernel)
theorem sX6_faultOf_3 : Snd MX6_faultOf 3 (xPfI 6 6 21) := snd_pfI (M := MX6_faultOf) (pc := 3) (C0 := RX6) (T0 := TX6) (N := 32) dX6_faultOf_3 rfl tbX6 tyX6 tyX6_ok nmX6 (by decide) w460 rfl (by decide +kernel)
theorem sX6_faultOf_6 : Snd MX6_faultOf 6 (xLdA 7 0) := snd_aload_n (M := MX6_faultOf) (pc := 6) dX6_faultOf_6
theorem sX6_faultOf_7 : Snd MX6_faultOf 7 (xK 8 (nI 5)) := snd_iconst (M := MX6_faultOf) (pc := 7) dX6_faultOf_7 (by decide +kernel)
theorem sX6_faultOf_8 : Snd MX6_faultOf 8 (xPfI 11 6 22) := snd_pfI (M := MX6_faultOf) (pc := 8) (C0 := RX6) (T0 := TX6) (N := 32) dX6_faultOf_8 rfl tbX6 tyX6 tyX6_ok nmX6 (by decide) w461 rfl (by decide +kernel)
theorem sX6_faultOf_11 : Snd MX6_faultOf 11 (xLdA 12 0) := snd_aload_n (M := MX6_faultOf) (pc := 11) dX6_faultOf_11
theorem sX6_faultOf_12 : Snd MX6_faultOf 12 (xK 13 (nI 0)) := snd_iconst (M := MX6_faultOf) (pc := 12) dX6_faultOf_12 (by decide +kernel)
theorem sX6_faultOf_13 : Snd MX6_faultOf 13 (xPfI 16 6 23) := snd_pfI (M := MX6_faultOf) (pc := 13) (C0 := RX6) (T0 := TX6) (N := 32) dX6_faultOf_13 rfl tbX6 tyX6 tyX6_ok nmX6 (by decide) w480 rfl (by decide +kernel)
theorem sX6_faultOf_16 : Snd MX6_faultOf 16 (xLdA 17 0) := snd_aload_n (M := MX6_faultOf) (pc := 16) dX6_faultOf_16
theorem sX6_faultOf_17 : Snd MX6_faultOf 17 (xK 18 (nI 0)) := snd_iconst (M := MX6_faultOf) (pc := 17) dX6_faultOf_17 (by decide +kernel)
theorem sX6_faultOf_18 : Snd MX6_faultOf 18 (xPfI 21 6 25) := snd_pfI (M := MX6_faultOf) (pc := 18) (C0 := RX6) (T0 := TX6) (N := 32) dX6_faultOf_18 rfl tbX6 tyX6 tyX6_ok nmX6 (by decide) w481 rfl (by decide +kernel)
theorem sX6_faultOf_21 : Snd MX6_faultOf 21 (xLdA 22 0) := snd_aload_n (M := MX6_faultOf) (pc := 21) dX6_faultOf_21
theorem sX6_faultOf_22 : Snd MX6_faultOf 22 (xK 23 (nI 0)) := snd_iconst (M := MX6_faultOf) (pc := 22) dX6_faultOf_22 (by decide +kernel)
theorem sX6_faultOf_23 : Snd MX6_faultOf 23 (xPfI 26 6 19) := snd_pfI (M := MX6_faultOf) (pc := 23) (C0 := RX6) (T0 := TX6) (N := 32) dX6_faultOf_23 rfl tbX6 tyX6 tyX6_ok nmX6 (by decide) w493 rfl (by decide +kernel)
theorem sX6_faultOf_26 : Snd MX6_faultOf 26 (xLdA 27 0) := snd_aload_n (M := MX6_faultOf) (pc := 26) dX6_faultOf_26
theorem sX6_faultOf_27 : Snd MX6_faultOf 27 (xGf 30 6 19) := snd_gf (M := MX6_faultOf) (pc := 27) (C0 := RX6) (T0 := TX6) (N := 32) dX6_faultOf_27 rfl tbX6 (by decide) w493
theorem sX6_faultOf_30 : Snd MX6_faultOf 30 (xLdA 31 0) := snd_aload_n (M := MX6_faultOf) (pc := 30) dX6_faultOf_30
theorem sX6_faultOf_31 : Snd MX6_faultOf 31 (xGf 34 6 18) := snd_gf (M := MX6_faultOf) (pc := 31) (C0 := RX6) (T0 := TX6) (N := 32) dX6_faultOf_31 rfl tbX6 (by decide) w492
theorem sX6_faultOf_34 : Snd MX6_faultOf 34 (xC_ge 54 37) := snd_icmp_ge (M := MX6_faultOf) (pc := 34) dX6_faultOf_34 (by decide)
theorem sX6_faultOf_37 : Snd MX6_faultOf 37 (xLdA 38 0) := snd_aload_n (M := MX6_faultOf) (pc := 37) dX6_faultOf_37
theorem sX6_faultOf_38 : Snd MX6_faultOf 38 (xGf 41 6 19) := snd_gf (M := MX6_faultOf) (pc := 38) (C0 := RX6) (T0 := TX6) (N := 32) dX6_faultOf_38 rfl tbX6 (by decide) w493
theorem sX6_faultOf_41 : Snd MX6_faultOf 41 (xStI 42 1) := snd_istore_n (M := MX6_faultOf) (pc := 41) dX6_faultOf_41 (by decide)
theorem sX6_faultOf_42 : Snd MX6_faultOf 42 (xLdA 43 0) := snd_aload_n (M := MX6_faultOf) (pc := 42) dX6_faultOf_42
theorem sX6_faultOf_43 : Snd MX6_faultOf 43 (xCallV MX6_takesItem 6 0 46) := snd_callV (M := MX6_faultOf) (pc := 43) (n := 0) dX6_faultOf_43 rfl w522 w523 w524 ⟨w462, w521, ⟨by decide, by decide, by decide +kernel⟩, by decide⟩ ⟨rfl, rfl⟩
theorem sX6_faultOf_46 : Snd MX6_faultOf 46 (xZ_ne 51 49) := snd_if_ne (M := MX6_faultOf) (pc := 46) dX6_faultOf_46 (by decide)
theorem sX6_faultOf_49 : Snd MX6_faultOf 49 (xLdI 50 1) := snd_iload_n (M := MX6_faultOf) (pc := 49) dX6_faultOf_49
theorem sX6_faultOf_50 : Snd MX6_faultOf 50 (xRet) := snd_iret (M := MX6_faultOf) (pc := 50) dX6_faultOf_50 rfl
theorem sX6_faultOf_51 : Snd MX6_faultOf 51 (xGo 26) := snd_goto (M := MX6_faultOf) (pc := 51) dX6_faultOf_51 (by decide)
theorem sX6_faultOf_54 : Snd MX6_faultOf 54 (xK 56 ((-4))) := snd_bipush (M := MX6_faultOf) (pc := 54) dX6_faultOf_54 (by decide +kernel)
theorem sX6_faultOf_56 : Snd MX6_faultOf 56 (xRet) := snd_iret (M := MX6_faultOf) (pc := 56) dX6_faultOf_56 rfl
theorem VX6_faultOf : Valid MX6_faultOf LX6_faultOf := va_lid sX6_faultOf_0 (va_lid sX6_faultOf_1 (va_lid sX6_faultOf_3 (va_lid sX6_faultOf_6 (va_lid sX6_faultOf_7 (va_lid sX6_faultOf_8 (va_lid sX6_faultOf_11 (va_lid sX6_faultOf_12 (va_lid sX6_faultOf_13 (va_lid sX6_faultOf_16 (va_lid sX6_faultOf_17 (va_lid sX6_faultOf_18 (va_lid sX6_faultOf_21 (va_lid sX6_faultOf_22 (va_lid sX6_faultOf_23 (va_lid sX6_faultOf_26 (va_lid sX6_faultOf_27 (va_lid sX6_faultOf_30 (va_lid sX6_faultOf_31 (va_lid sX6_faultOf_34 (va_lid sX6_faultOf_37 (va_lid sX6_faultOf_38 (va_lid sX6_faultOf_41 (va_lid sX6_faultOf_42 (va_lid sX6_faultOf_43 (va_lid sX6_faultOf_46 (va_lid sX6_faultOf_49 (va_lid sX6_faultOf_50 (va_lid sX6_faultOf_51 (va_lid sX6_faultOf_54 (va_lid sX6_faultOf_56 (va_lid0)))))))))))))))))))))))))))))))
theorem kX6_faultOf_0 : lk LX6_faultOf 0 = some (xLdA 1 0) := rfl
theorem kX6_faultOf_1 : lk LX6_faultOf 1 = some (xK 3 (nI 20)) := rfl
theorem kX6_faultOf_3 : lk LX6_faultOf 3 = some (xPfI 6 6 21) := rfl
theorem kX6_faultOf_6 : lk LX6_faultOf 6 = some (xLdA 7 0) := rfl
theorem kX6_faultOf_7 : lk LX6_faultOf 7 = some (xK 8 (nI 5)) := rfl
theorem kX6_faultOf_8 : lk LX6_faultOf 8 = some (xPfI 11 6 22) := rfl
theorem kX6_faultOf_11 : lk LX6_faultOf 11 = some (xLdA 12 0) := rfl
theorem kX6_faultOf_12 : lk LX6_faultOf 12 = some (xK 13 (nI 0)) := rfl
theorem kX6_faultOf_13 : lk LX6_faultOf 13 = some (xPfI 16 6 23) := rfl
theorem kX6_faultOf_16 : lk LX6_faultOf 16 = some (xLdA 17 0) := rfl
theorem kX6_faultOf_17 : lk LX6_faultOf 17 = some (xK 18 (nI 0)) := rfl
theorem kX6_faultOf_18 : lk LX6_faultOf 18 = some (xPfI 21 6 25) := rfl
theorem kX6_faultOf_21 : lk LX6_faultOf 21 = some (xLdA 22 0) := rfl
theorem kX6_faultOf_22 : lk LX6_faultOf 22 = some (xK 23 (nI 0)) := rfl
theorem kX6_faultOf_23 : lk LX6_faultOf 23 = some (xPfI 26 6 19) := rfl
theorem kX6_faultOf_26 : lk LX6_faultOf 26 = some (xLdA 27 0) := rfl
theorem kX6_faultOf_27 : lk LX6_faultOf 27 = some (xGf 30 6 19) := rfl
theorem kX6_faultOf_30 : lk LX6_faultOf 30 = some (xLdA 31 0) := rfl
theorem kX6_faultOf_31 : lk LX6_faultOf 31 = some (xGf 34 6 18) := rfl
theorem kX6_faultOf_34 : lk LX6_faultOf 34 = some (xC_ge 54 37) := rfl
theorem kX6_faultOf_37 : lk LX6_faultOf 37 = some (xLdA 38 0) := rfl
theorem kX6_faultOf_38 : lk LX6_faultOf 38 = some (xGf 41 6 19) := rfl
theorem kX6_faultOf_41 : lk LX6_faultOf 41 = some (xStI 42 1) := rfl
theorem kX6_faultOf_42 : lk LX6_faultOf 42 = some (xLdA 43 0) := rfl
theorem kX6_faultOf_43 : lk LX6_faultOf 43 = some (xCallV MX6_takesItem 6 0 46) := rfl
theorem kX6_faultOf_46 : lk LX6_faultOf 46 = some (xZ_ne 51 49) := rfl
theorem kX6_faultOf_49 : lk LX6_faultOf 49 = some (xLdI 50 1) := rfl
theorem kX6_faultOf_50 : lk LX6_faultOf 50 = some (xRet) := rfl
theorem kX6_faultOf_51 : lk LX6_faultOf 51 = some (xGo 26) := rfl
theorem kX6_faultOf_54 : lk LX6_faultOf 54 = some (xK 56 ((-4))) := rfl
theorem kX6_faultOf_56 : lk LX6_faultOf 56 = some (xRet) := rfl
def LX6_fault : List (Nat × XI) := [(0, xLdA 1 0),
  (1, xCallV MX6_faultOf 6 0 4),
  (4, xRet)]
theorem sX6_fault_0 : Snd MX6_fault 0 (xLdA 1 0) := snd_aload_n (M := MX6_fault) (pc := 0) dX6_fault_0
theorem sX6_fault_1 : Snd MX6_fault 1 (xCallV MX6_faultOf 6 0 4) := snd_callV (M := MX6_fault) (pc := 1) (n := 0) dX6_fault_1 rfl w526 w527 w528 ⟨w462, w525, ⟨by decide, by decide, by decide +kernel⟩, by decide⟩ ⟨rfl, rfl⟩
theorem sX6_fault_4 : Snd MX6_fault 4 (xRet) := snd_iret (M := MX6_fault) (pc := 4) dX6_fault_4 rfl
theorem VX6_fault : Valid MX6_fault LX6_fault := va_lid sX6_fault_0 (va_lid sX6_fault_1 (va_lid sX6_fault_4 (va_lid0)))
theorem kX6_fault_0 : lk LX6_fault 0 = some (xLdA 1 0) := rfl
theorem kX6_fault_1 : lk LX6_fault 1 = some (xCallV MX6_faultOf 6 0 4) := rfl
theorem kX6_fault_4 : lk LX6_fault 4 = some (xRet) := rfl
def LX6_lay : List (Nat × XI) := [(0, xLdA 1 0),
  (1, xCallV MX6_faultOf 6 0 4),
  (4, xK 6 ((-4))),
  (6, xC_ne 23 9),
  (9, xLdA 10 0),
  (10, xGf 13 6 25),
  (13, xZ_eq 23 16),
  (16, xLdA 17 0),
  (17, xGf 20 6 23),
  (20, xZ_ne 26 23),
  (23, xK 25 ((-2))),
  (25, xRet),
  (26, xLdA 27 0),
  (27, xCallV MX6_begins 6 0 30),
  (30, xLdA 31 0),
  (31, xGf 34 6 9),
  (34, xRet)]
theorem sX6_lay_0 : Snd MX6_lay 0 (xLdA 1 0) := snd_aload_n (M := MX6_lay) (pc := 0) dX6_lay_0
theorem sX6_lay_1 : Snd MX6_lay 1 (xCallV MX6_faultOf 6 0 4) := snd_callV (M := MX6_lay) (pc := 1) (n := 0) dX6_lay_1 rfl w526 w527 w528 ⟨w462, w525, ⟨by decide, by decide, by decide +kernel⟩, by decide⟩ ⟨rfl, rfl⟩
theorem sX6_lay_4 : Snd MX6_lay 4 (xK 6 ((-4))) := snd_bipush (M := MX6_lay) (pc := 4) dX6_lay_4 (by decide +kernel)
theorem sX6_lay_6 : Snd MX6_lay 6 (xC_ne 23 9) := snd_icmp_ne (M := MX6_lay) (pc := 6) dX6_lay_6 (by decide)
theorem sX6_lay_9 : Snd MX6_lay 9 (xLdA 10 0) := snd_aload_n (M := MX6_lay) (pc := 9) dX6_lay_9
theorem sX6_lay_10 : Snd MX6_lay 10 (xGf 13 6 25) := snd_gf (M := MX6_lay) (pc := 10) (C0 := RX6) (T0 := TX6) (N := 32) dX6_lay_10 rfl tbX6 (by decide) w481
theorem sX6_lay_13 : Snd MX6_lay 13 (xZ_eq 23 16) := snd_if_eq (M := MX6_lay) (pc := 13) dX6_lay_13 (by decide)
theorem sX6_lay_16 : Snd MX6_lay 16 (xLdA 17 0) := snd_aload_n (M := MX6_lay) (pc := 16) dX6_lay_16
theorem sX6_lay_17 : Snd MX6_lay 17 (xGf 20 6 23) := snd_gf (M := MX6_lay) (pc := 17) (C0 := RX6) (T0 := TX6) (N := 32) dX6_lay_17 rfl tbX6 (by decide) w480
theorem sX6_lay_20 : Snd MX6_lay 20 (xZ_ne 26 23) := snd_if_ne (M := MX6_lay) (pc := 20) dX6_lay_20 (by decide)
theorem sX6_lay_23 : Snd MX6_lay 23 (xK 25 ((-2))) := snd_bipush (M := MX6_lay) (pc := 23) dX6_lay_23 (by decide +kernel)
theorem sX6_lay_25 : Snd MX6_lay 25 (xRet) := snd_iret (M := MX6_lay) (pc := 25) dX6_lay_25 rfl
theorem sX6_lay_26 : Snd MX6_lay 26 (xLdA 27 0) := snd_aload_n (M := MX6_lay) (pc := 26) dX6_lay_26
theorem sX6_lay_27 : Snd MX6_lay 27 (xCallV MX6_begins 6 0 30) := snd_callV (M := MX6_lay) (pc := 27) (n := 0) dX6_lay_27 rfl w472 w473 w474 ⟨w462, w471, ⟨by decide, by decide, by decide +kernel⟩, by decide⟩ ⟨rfl, rfl⟩
theorem sX6_lay_30 : Snd MX6_lay 30 (xLdA 31 0) := snd_aload_n (M := MX6_lay) (pc := 30) dX6_lay_30
theorem sX6_lay_31 : Snd MX6_lay 31 (xGf 34 6 9) := snd_gf (M := MX6_lay) (pc := 31) (C0 := RX6) (T0 := TX6) (N := 32) dX6_lay_31 rfl tbX6 (by decide) w479
theorem sX6_lay_34 : Snd MX6_lay 34 (xRet) := snd_iret (M := MX6_lay) (pc := 34) dX6_lay_34 rfl
theorem VX6_lay : Valid MX6_lay LX6_lay := va_lid sX6_lay_0 (va_lid sX6_lay_1 (va_lid sX6_lay_4 (va_lid sX6_lay_6 (va_lid sX6_lay_9 (va_lid sX6_lay_10 (va_lid sX6_lay_13 (va_lid sX6_lay_16 (va_lid sX6_lay_17 (va_lid sX6_lay_20 (va_lid sX6_lay_23 (va_lid sX6_lay_25 (va_lid sX6_lay_26 (va_lid sX6_lay_27 (va_lid sX6_lay_30 (va_lid sX6_lay_31 (va_lid sX6_lay_34 (va_lid0)))))))))))))))))
theorem kX6_lay_0 : lk LX6_lay 0 = some (xLdA 1 0) := rfl
theorem kX6_lay_1 : lk LX6_lay 1 = some (xCallV MX6_faultOf 6 0 4) := rfl
theorem kX6_lay_4 : lk LX6_lay 4 = some (xK 6 ((-4))) := rfl
theorem kX6_lay_6 : lk LX6_lay 6 = some (xC_ne 23 9) := rfl
theorem kX6_lay_9 : lk LX6_lay 9 = some (xLdA 10 0) := rfl
theorem kX6_lay_10 : lk LX6_lay 10 = some (xGf 13 6 25) := rfl
theorem kX6_lay_13 : lk LX6_lay 13 = some (xZ_eq 23 16) := rfl
theorem kX6_lay_16 : lk LX6_lay 16 = some (xLdA 17 0) := rfl
theorem kX6_lay_17 : lk LX6_lay 17 = some (xGf 20 6 23) := rfl
theorem kX6_lay_20 : lk LX6_lay 20 = some (xZ_ne 26 23) := rfl
theorem kX6_lay_23 : lk LX6_lay 23 = some (xK 25 ((-2))) := rfl
theorem kX6_lay_25 : lk LX6_lay 25 = some (xRet) := rfl
theorem kX6_lay_26 : lk LX6_lay 26 = some (xLdA 27 0) := rfl
theorem kX6_lay_27 : lk LX6_lay 27 = some (xCallV MX6_begins 6 0 30) := rfl
theorem kX6_lay_30 : lk LX6_lay 30 = some (xLdA 31 0) := rfl
theorem kX6_lay_31 : lk LX6_lay 31 = some (xGf 34 6 9) := rfl
theorem kX6_lay_34 : lk LX6_lay 34 = some (xRet) := rfl
def LX6_roomOf : List (Nat × XI) := [(0, xK 1 (nI 0)),
  (1, xStI 2 2),
  (2, xK 3 (nI 0)),
  (3, xStI 4 3),
  (4, xLdI 5 3),
  (5, xLdA 6 0),
  (6, xGf 9 6 5),
  (9, xC_ge 44 12),
  (12, xLdI 13 2),
  (13, xLdI 14 1),
  (14, xLdI 15 3),
  (15, xCallS MX6_has 2 18),
  (18, xZ_eq 35 21),
  (21, xLdA 22 0),
  (22, xGf 25 6 6),
  (25, xLdI 26 3),
  (26, xiaload 27),
  (27, xK 28 (nI 3)),
  (28, xC_ne 35 31),
  (31, xK 32 (nI 1)),
  (32, xGo 36),
  (35, xK 36 (nI 0)),
  (36, xBin 37 f_iadd),
  (37, xStI 38 2),
  (38, xInc 41 3 (nI 1)),
  (41, xGo 4),
  (44, xK 45 (nI 0)),
  (45, xStI 46 3),
  (46, xK 47 (nI 0)),
  (47, xStI 49 4),
  (49, xLdI 51 4),
  (51, xLdA 52 0),
  (52, xGf 55 6 5),
  (55, xC_ge 119 58),
  (58, xLdA 59 0),
  (59, xGf 62 6 6),
  (62, xLdI 64 4),
  (64, xiaload 65),
  (65, xK 66 (nI 3)),
  (66, xC_ne 86 69),
  (69, xLdI 70 2),
  (70, xK 71 (nI 1)),
  (71, xC_le 86 74),
  (74, xLdA 75 0),
  (75, xGf 78 6 7),
  (78, xLdI 80 4),
  (80, xiaload 81),
  (81, xK 82 (nI 2)),
  (82, xDiv 83 f_idiv),
  (83, xGo 93),
  (86, xLdA 87 0),
  (87, xGf 90 6 7),
  (90, xLdI 92 4),
  (92, xiaload 93),
  (93, xStI 95 5),
  (95, xLdI 96 3),
  (96, xLdI 97 1),
  (97, xLdI 99 4),
  (99, xCallS MX6_has 2 102),
  (102, xZ_eq 110 105),
  (105, xLdI 107 5),
  (107, xGo 111),
  (110, xK 111 (nI 0)),
  (111, xBin 112 f_iadd),
  (112, xStI 113 3),
  (113, xInc 116 4 (nI 1)),
  (116, xGo 49),
  (119, xLdI 120 3),
  (120, xRet)]
theorem sX6_roomOf_0 : Snd MX6_roomOf 0 (xK 1 (nI 0)) := snd_iconst (M := MX6_roomOf) (pc := 0) dX6_roomOf_0 (by decide +kernel)
theorem sX6_roomOf_1 : Snd MX6_roomOf 1 (xStI 2 2) := snd_istore_n (M := MX6_roomOf) (pc := 1) dX6_roomOf_1 (by decide)
theorem sX6_roomOf_2 : Snd MX6_roomOf 2 (xK 3 (nI 0)) := snd_iconst (M := MX6_roomOf) (pc := 2) dX6_roomOf_2 (by decide +kernel)
theorem sX6_roomOf_3 : Snd MX6_roomOf 3 (xStI 4 3) := snd_istore_n (M := MX6_roomOf) (pc := 3) dX6_roomOf_3 (by decide)
theorem sX6_roomOf_4 : Snd MX6_roomOf 4 (xLdI 5 3) := snd_iload_n (M := MX6_roomOf) (pc := 4) dX6_roomOf_4
theorem sX6_roomOf_5 : Snd MX6_roomOf 5 (xLdA 6 0) := snd_aload_n (M := MX6_roomOf) (pc := 5) dX6_roomOf_5
theorem sX6_roomOf_6 : Snd MX6_roomOf 6 (xGf 9 6 5) := snd_gf (M := MX6_roomOf) (pc := 6) (C0 := RX6) (T0 := TX6) (N := 32) dX6_roomOf_6 rfl tbX6 (by decide) w475
theorem sX6_roomOf_9 : Snd MX6_roomOf 9 (xC_ge 44 12) := snd_icmp_ge (M := MX6_roomOf) (pc := 9) dX6_roomOf_9 (by decide)
theorem sX6_roomOf_12 : Snd MX6_roomOf 12 (xLdI 13 2) := snd_iload_n (M := MX6_roomOf) (pc := 12) dX6_roomOf_12
theorem sX6_roomOf_13 : Snd MX6_roomOf 13 (xLdI 14 1) := snd_iload_n (M := MX6_roomOf) (pc := 13) dX6_roomOf_13
theorem sX6_roomOf_14 : Snd MX6_roomOf 14 (xLdI 15 3) := snd_iload_n (M := MX6_roomOf) (pc := 14) dX6_roomOf_14
theorem sX6_roomOf_15 : Snd MX6_roomOf 15 (xCallS MX6_has 2 18) := snd_callS (M := MX6_roomOf) (pc := 15) (n := 2) dX6_roomOf_15 w530 w531 ⟨w462, w529, ⟨by decide, by decide, by decide +kernel⟩, by decide⟩ ⟨rfl, rfl⟩
theorem sX6_roomOf_18 : Snd MX6_roomOf 18 (xZ_eq 35 21) := snd_if_eq (M := MX6_roomOf) (pc := 18) dX6_roomOf_18 (by decide)
theorem sX6_roomOf_21 : Snd MX6_roomOf 21 (xLdA 22 0) := snd_aload_n (M := MX6_roomOf) (pc := 21) dX6_roomOf_21
theorem sX6_roomOf_22 : Snd MX6_roomOf 22 (xGf 25 6 6) := snd_gf (M := MX6_roomOf) (pc := 22) (C0 := RX6) (T0 := TX6) (N := 32) dX6_roomOf_22 rfl tbX6 (by decide) w445
theorem sX6_roomOf_25 : Snd MX6_roomOf 25 (xLdI 26 3) := snd_iload_n (M := MX6_roomOf) (pc := 25) dX6_roomOf_25
theorem sX6_roomOf_26 : Snd MX6_roomOf 26 (xiaload 27) := snd_iaload (M := MX6_roomOf) (pc := 26) dX6_roomOf_26
theorem sX6_roomOf_27 : Snd MX6_roomOf 27 (xK 28 (nI 3)) := snd_iconst (M := MX6_roomOf) (pc := 27) dX6_roomOf_27 (by decide +kernel)
theorem sX6_roomOf_28 : Snd MX6_roomOf 28 (xC_ne 35 31) := snd_icmp_ne (M := MX6_roomOf) (pc := 28) dX6_roomOf_28 (by decide)
theorem sX6_roomOf_31 : Snd MX6_roomOf 31 (xK 32 (nI 1)) := snd_iconst (M := MX6_roomOf) (pc := 31) dX6_roomOf_31 (by decide +kernel)
theorem sX6_roomOf_32 : Snd MX6_roomOf 32 (xGo 36) := snd_goto (M := MX6_roomOf) (pc := 32) dX6_roomOf_32 (by decide)
theorem sX6_roomOf_35 : Snd MX6_roomOf 35 (xK 36 (nI 0)) := snd_iconst (M := MX6_roomOf) (pc := 35) dX6_roomOf_35 (by decide +kernel)
theorem sX6_roomOf_36 : Snd MX6_roomOf 36 (xBin 37 f_iadd) := snd_iadd (M := MX6_roomOf) (pc := 36) dX6_roomOf_36
theorem sX6_roomOf_37 : Snd MX6_roomOf 37 (xStI 38 2) := snd_istore_n (M := MX6_roomOf) (pc := 37) dX6_roomOf_37 (by decide)
theorem sX6_roomOf_38 : Snd MX6_roomOf 38 (xInc 41 3 (nI 1)) := snd_iinc (M := MX6_roomOf) (pc := 38) dX6_roomOf_38 (by decide +kernel) (by decide)
theorem sX6_roomOf_41 : Snd MX6_roomOf 41 (xGo 4) := snd_goto (M := MX6_roomOf) (pc := 41) dX6_roomOf_41 (by decide)
theorem sX6_roomOf_44 : Snd MX6_roomOf 44 (xK 45 (nI 0)) := snd_iconst (M := MX6_roomOf) (pc := 44) dX6_roomOf_44 (by decide +kernel)
theorem sX6_roomOf_45 : Snd MX6_roomOf 45 (xStI 46 3) := snd_istore_n (M := MX6_roomOf) (pc := 45) dX6_roomOf_45 (by decide)
theorem sX6_roomOf_46 : Snd MX6_roomOf 46 (xK 47 (nI 0)) := snd_iconst (M := MX6_roomOf) (pc := 46) dX6_roomOf_46 (by decide +kernel)
theorem sX6_roomOf_47 : Snd MX6_roomOf 47 (xStI 49 4) := snd_istore (M := MX6_roomOf) (pc := 47) dX6_roomOf_47 (by decide)
theorem sX6_roomOf_49 : Snd MX6_roomOf 49 (xLdI 51 4) := snd_iload (M := MX6_roomOf) (pc := 49) dX6_roomOf_49
theorem sX6_roomOf_51 : Snd MX6_roomOf 51 (xLdA 52 0) := snd_aload_n (M := MX6_roomOf) (pc := 51) dX6_roomOf_51
theorem sX6_roomOf_52 : Snd MX6_roomOf 52 (xGf 55 6 5) := snd_gf (M := MX6_roomOf) (pc := 52) (C0 := RX6) (T0 := TX6) (N := 32) dX6_roomOf_52 rfl tbX6 (by decide) w475
theorem sX6_roomOf_55 : Snd MX6_roomOf 55 (xC_ge 119 58) := snd_icmp_ge (M := MX6_roomOf) (pc := 55) dX6_roomOf_55 (by decide)
theorem sX6_roomOf_58 : Snd MX6_roomOf 58 (xLdA 59 0) := snd_aload_n (M := MX6_roomOf) (pc := 58) dX6_roomOf_58
theorem sX6_roomOf_59 : Snd MX6_roomOf 59 (xGf 62 6 6) := snd_gf (M := MX6_roomOf) (pc := 59) (C0 := RX6) (T0 := TX6) (N := 32) dX6_roomOf_59 rfl tbX6 (by decide) w445
theorem sX6_roomOf_62 : Snd MX6_roomOf 62 (xLdI 64 4) := snd_iload (M := MX6_roomOf) (pc := 62) dX6_roomOf_62
theorem sX6_roomOf_64 : Snd MX6_roomOf 64 (xiaload 65) := snd_iaload (M := MX6_roomOf) (pc := 64) dX6_roomOf_64
theorem sX6_roomOf_65 : Snd MX6_roomOf 65 (xK 66 (nI 3)) := snd_iconst (M := MX6_roomOf) (pc := 65) dX6_roomOf_65 (by decide +kernel)
theorem sX6_roomOf_66 : Snd MX6_roomOf 66 (xC_ne 86 69) := snd_icmp_ne (M := MX6_roomOf) (pc := 66) dX6_roomOf_66 (by decide)
theorem sX6_roomOf_69 : Snd MX6_roomOf 69 (xLdI 70 2) := snd_iload_n (M := MX6_roomOf) (pc := 69) dX6_roomOf_69
theorem sX6_roomOf_70 : Snd MX6_roomOf 70 (xK 71 (nI 1)) := snd_iconst (M := MX6_roomOf) (pc := 70) dX6_roomOf_70 (by decide +kernel)
theorem sX6_roomOf_71 : Snd MX6_roomOf 71 (xC_le 86 74) := snd_icmp_le (M := MX6_roomOf) (pc := 71) dX6_roomOf_71 (by decide)
theorem sX6_roomOf_74 : Snd MX6_roomOf 74 (xLdA 75 0) := snd_aload_n (M := MX6_roomOf) (pc := 74) dX6_roomOf_74
theorem sX6_roomOf_75 : Snd MX6_roomOf 75 (xGf 78 6 7) := snd_gf (M := MX6_roomOf) (pc := 75) (C0 := RX6) (T0 := TX6) (N := 32) dX6_roomOf_75 rfl tbX6 (by decide) w446
theorem sX6_roomOf_78 : Snd MX6_roomOf 78 (xLdI 80 4) := snd_iload (M := MX6_roomOf) (pc := 78) dX6_roomOf_78
theorem sX6_roomOf_80 : Snd MX6_roomOf 80 (xiaload 81) := snd_iaload (M := MX6_roomOf) (pc := 80) dX6_roomOf_80
theorem sX6_roomOf_81 : Snd MX6_roomOf 81 (xK 82 (nI 2)) := snd_iconst (M := MX6_roomOf) (pc := 81) dX6_roomOf_81 (by decide +kernel)
theorem sX6_roomOf_82 : Snd MX6_roomOf 82 (xDiv 83 f_idiv) := snd_idiv (M := MX6_roomOf) (pc := 82) dX6_roomOf_82
theorem sX6_roomOf_83 : Snd MX6_roomOf 83 (xGo 93) := snd_goto (M := MX6_roomOf) (pc := 83) dX6_roomOf_83 (by decide)
theorem sX6_roomOf_86 : Snd MX6_roomOf 86 (xLdA 87 0) := snd_aload_n (M := MX6_roomOf) (pc := 86) dX6_roomOf_86
theorem sX6_roomOf_87 : Snd MX6_roomOf 87 (xGf 90 6 7) := snd_gf (M := MX6_roomOf) (pc := 87) (C0 := RX6) (T0 := TX6) (N := 32) dX6_roomOf_87 rfl tbX6 (by decide) w446
theorem sX6_roomOf_90 : Snd MX6_roomOf 90 (xLdI 92 4) := snd_iload (M := MX6_roomOf) (pc := 90) dX6_roomOf_90
theorem sX6_roomOf_92 : Snd MX6_roomOf 92 (xiaload 93) := snd_iaload (M := MX6_roomOf) (pc := 92) dX6_roomOf_92
theorem sX6_roomOf_93 : Snd MX6_roomOf 93 (xStI 95 5) := snd_istore (M := MX6_roomOf) (pc := 93) dX6_roomOf_93 (by decide)
theorem sX6_roomOf_95 : Snd MX6_roomOf 95 (xLdI 96 3) := snd_iload_n (M := MX6_roomOf) (pc := 95) dX6_roomOf_95
theorem sX6_roomOf_96 : Snd MX6_roomOf 96 (xLdI 97 1) := snd_iload_n (M := MX6_roomOf) (pc := 96) dX6_roomOf_96
theorem sX6_roomOf_97 : Snd MX6_roomOf 97 (xLdI 99 4) := snd_iload (M := MX6_roomOf) (pc := 97) dX6_roomOf_97
theorem sX6_roomOf_99 : Snd MX6_roomOf 99 (xCallS MX6_has 2 102) := snd_callS (M := MX6_roomOf) (pc := 99) (n := 2) dX6_roomOf_99 w530 w531 ⟨w462, w529, ⟨by decide, by decide, by decide +kernel⟩, by decide⟩ ⟨rfl, rfl⟩
theorem sX6_roomOf_102 : Snd MX6_roomOf 102 (xZ_eq 110 105) := snd_if_eq (M := MX6_roomOf) (pc := 102) dX6_roomOf_102 (by decide)
theorem sX6_roomOf_105 : Snd MX6_roomOf 105 (xLdI 107 5) := snd_iload (M := MX6_roomOf) (pc := 105) dX6_roomOf_105
theorem sX6_roomOf_107 : Snd MX6_roomOf 107 (xGo 111) := snd_goto (M := MX6_roomOf) (pc := 107) dX6_roomOf_107 (by decide)
theorem sX6_roomOf_110 : Snd MX6_roomOf 110 (xK 111 (nI 0)) := snd_iconst (M := MX6_roomOf) (pc := 110) dX6_roomOf_110 (by decide +kernel)
theorem sX6_roomOf_111 : Snd MX6_roomOf 111 (xBin 112 f_iadd) := snd_iadd (M := MX6_roomOf) (pc := 111) dX6_roomOf_111
theorem sX6_roomOf_112 : Snd MX6_roomOf 112 (xStI 113 3) := snd_istore_n (M := MX6_roomOf) (pc := 112) dX6_roomOf_112 (by decide)
theorem sX6_roomOf_113 : Snd MX6_roomOf 113 (xInc 116 4 (nI 1)) := snd_iinc (M := MX6_roomOf) (pc := 113) dX6_roomOf_113 (by decide +kernel) (by decide)
theorem sX6_roomOf_116 : Snd MX6_roomOf 116 (xGo 49) := snd_goto (M := MX6_roomOf) (pc := 116) dX6_roomOf_116 (by decide)
theorem sX6_roomOf_119 : Snd MX6_roomOf 119 (xLdI 120 3) := snd_iload_n (M := MX6_roomOf) (pc := 119) dX6_roomOf_119
theorem sX6_roomOf_120 : Snd MX6_roomOf 120 (xRet) := snd_iret (M := MX6_roomOf) (pc := 120) dX6_roomOf_120 rfl
theorem VX6_roomOf : Valid MX6_roomOf LX6_roomOf := va_lid sX6_roomOf_0 (va_lid sX6_roomOf_1 (va_lid sX6_roomOf_2 (va_lid sX6_roomOf_3 (va_lid sX6_roomOf_4 (va_lid sX6_roomOf_5 (va_lid sX6_roomOf_6 (va_lid sX6_roomOf_9 (va_lid sX6_roomOf_12 (va_lid sX6_roomOf_13 (va_lid sX6_roomOf_14 (va_lid sX6_roomOf_15 (va_lid sX6_roomOf_18 (va_lid sX6_roomOf_21 (va_lid sX6_roomOf_22 (va_lid sX6_roomOf_25 (va_lid sX6_roomOf_26 (va_lid sX6_roomOf_27 (va_lid sX6_roomOf_28 (va_lid sX6_roomOf_31 (va_lid sX6_roomOf_32 (va_lid sX6_roomOf_35 (va_lid sX6_roomOf_36 (va_lid sX6_roomOf_37 (va_lid sX6_roomOf_38 (va_lid sX6_roomOf_41 (va_lid sX6_roomOf_44 (va_lid sX6_roomOf_45 (va_lid sX6_roomOf_46 (va_lid sX6_roomOf_47 (va_lid sX6_roomOf_49 (va_lid sX6_roomOf_51 (va_lid sX6_roomOf_52 (va_lid sX6_roomOf_55 (va_lid sX6_roomOf_58 (va_lid sX6_roomOf_59 (va_lid sX6_roomOf_62 (va_lid sX6_roomOf_64 (va_lid sX6_roomOf_65 (va_lid sX6_roomOf_66 (va_lid sX6_roomOf_69 (va_lid sX6_roomOf_70 (va_lid sX6_roomOf_71 (va_lid sX6_roomOf_74 (va_lid sX6_roomOf_75 (va_lid sX6_roomOf_78 (va_lid sX6_roomOf_80 (va_lid sX6_roomOf_81 (va_lid sX6_roomOf_82 (va_lid sX6_roomOf_83 (va_lid sX6_roomOf_86 (va_lid sX6_roomOf_87 (va_lid sX6_roomOf_90 (va_lid sX6_roomOf_92 (va_lid sX6_roomOf_93 (va_lid sX6_roomOf_95 (va_lid sX6_roomOf_96 (va_lid sX6_roomOf_97 (va_lid sX6_roomOf_99 (va_lid sX6_roomOf_102 (va_lid sX6_roomOf_105 (va_lid sX6_roomOf_107 (va_lid sX6_roomOf_110 (va_lid sX6_roomOf_111 (va_lid sX6_roomOf_112 (va_lid sX6_roomOf_113 (va_lid sX6_roomOf_116 (va_lid sX6_roomOf_119 (va_lid sX6_roomOf_120 (va_lid0)))))))))))))))))))))))))))))))))))))))))))))))))))))))))))))))))))))
theorem kX6_roomOf_0 : lk LX6_roomOf 0 = some (xK 1 (nI 0)) := rfl
theorem kX6_roomOf_1 : lk LX6_roomOf 1 = some (xStI 2 2) := rfl
theorem kX6_roomOf_2 : lk LX6_roomOf 2 = some (xK 3 (nI 0)) := rfl
theorem kX6_roomOf_3 : lk LX6_roomOf 3 = some (xStI 4 3) := rfl
theorem kX6_roomOf_4 : lk LX6_roomOf 4 = some (xLdI 5 3) := rfl
theorem kX6_roomOf_5 : lk LX6_roomOf 5 = some (xLdA 6 0) := rfl
theorem kX6_roomOf_6 : lk LX6_roomOf 6 = some (xGf 9 6 5) := rfl
theorem kX6_roomOf_9 : lk LX6_roomOf 9 = some (xC_ge 44 12) := rfl
theorem kX6_roomOf_12 : lk LX6_roomOf 12 = some (xLdI 13 2) := rfl
theorem kX6_roomOf_13 : lk LX6_roomOf 13 = some (xLdI 14 1) := rfl
theorem kX6_roomOf_14 : lk LX6_roomOf 14 = some (xLdI 15 3) := rfl
theorem kX6_roomOf_15 : lk LX6_roomOf 15 = some (xCallS MX6_has 2 18) := rfl
theorem kX6_roomOf_18 : lk LX6_roomOf 18 = some (xZ_eq 35 21) := rfl
theorem kX6_roomOf_21 : lk LX6_roomOf 21 = some (xLdA 22 0) := rfl
theorem kX6_roomOf_22 : lk LX6_roomOf 22 = some (xGf 25 6 6) := rfl
theorem kX6_roomOf_25 : lk LX6_roomOf 25 = some (xLdI 26 3) := rfl
theorem kX6_roomOf_26 : lk LX6_roomOf 26 = some (xiaload 27) := rfl
theorem kX6_roomOf_27 : lk LX6_roomOf 27 = some (xK 28 (nI 3)) := rfl
theorem kX6_roomOf_28 : lk LX6_roomOf 28 = some (xC_ne 35 31) := rfl
theorem kX6_roomOf_31 : lk LX6_roomOf 31 = some (xK 32 (nI 1)) := rfl
theorem kX6_roomOf_32 : lk LX6_roomOf 32 = some (xGo 36) := rfl
theorem kX6_roomOf_35 : lk LX6_roomOf 35 = some (xK 36 (nI 0)) := rfl
theorem kX6_roomOf_36 : lk LX6_roomOf 36 = some (xBin 37 f_iadd) := rfl
theorem kX6_roomOf_37 : lk LX6_roomOf 37 = some (xStI 38 2) := rfl
theorem kX6_roomOf_38 : lk LX6_roomOf 38 = some (xInc 41 3 (nI 1)) := rfl
theorem kX6_roomOf_41 : lk LX6_roomOf 41 = some (xGo 4) := rfl
theorem kX6_roomOf_44 : lk LX6_roomOf 44 = some (xK 45 (nI 0)) := rfl
theorem kX6_roomOf_45 : lk LX6_roomOf 45 = some (xStI 46 3) := rfl
theorem kX6_roomOf_46 : lk LX6_roomOf 46 = some (xK 47 (nI 0)) := rfl
theorem kX6_roomOf_47 : lk LX6_roomOf 47 = some (xStI 49 4) := rfl
theorem kX6_roomOf_49 : lk LX6_roomOf 49 = some (xLdI 51 4) := rfl
theorem kX6_roomOf_51 : lk LX6_roomOf 51 = some (xLdA 52 0) := rfl
theorem kX6_roomOf_52 : lk LX6_roomOf 52 = some (xGf 55 6 5) := rfl
theorem kX6_roomOf_55 : lk LX6_roomOf 55 = some (xC_ge 119 58) := rfl
theorem kX6_roomOf_58 : lk LX6_roomOf 58 = some (xLdA 59 0) := rfl
theorem kX6_roomOf_59 : lk LX6_roomOf 59 = some (xGf 62 6 6) := rfl
theorem kX6_roomOf_62 : lk LX6_roomOf 62 = some (xLdI 64 4) := rfl
theorem kX6_roomOf_64 : lk LX6_roomOf 64 = some (xiaload 65) := rfl
theorem kX6_roomOf_65 : lk LX6_roomOf 65 = some (xK 66 (nI 3)) := rfl
theorem kX6_roomOf_66 : lk LX6_roomOf 66 = some (xC_ne 86 69) := rfl
theorem kX6_roomOf_69 : lk LX6_roomOf 69 = some (xLdI 70 2) := rfl
theorem kX6_roomOf_70 : lk LX6_roomOf 70 = some (xK 71 (nI 1)) := rfl
theorem kX6_roomOf_71 : lk LX6_roomOf 71 = some (xC_le 86 74) := rfl
theorem kX6_roomOf_74 : lk LX6_roomOf 74 = some (xLdA 75 0) := rfl
theorem kX6_roomOf_75 : lk LX6_roomOf 75 = some (xGf 78 6 7) := rfl
theorem kX6_roomOf_78 : lk LX6_roomOf 78 = some (xLdI 80 4) := rfl
theorem kX6_roomOf_80 : lk LX6_roomOf 80 = some (xiaload 81) := rfl
theorem kX6_roomOf_81 : lk LX6_roomOf 81 = some (xK 82 (nI 2)) := rfl
theorem kX6_roomOf_82 : lk LX6_roomOf 82 = some (xDiv 83 f_idiv) := rfl
theorem kX6_roomOf_83 : lk LX6_roomOf 83 = some (xGo 93) := rfl
theorem kX6_roomOf_86 : lk LX6_roomOf 86 = some (xLdA 87 0) := rfl
theorem kX6_roomOf_87 : lk LX6_roomOf 87 = some (xGf 90 6 7) := rfl
theorem kX6_roomOf_90 : lk LX6_roomOf 90 = some (xLdI 92 4) := rfl
theorem kX6_roomOf_92 : lk LX6_roomOf 92 = some (xiaload 93) := rfl
theorem kX6_roomOf_93 : lk LX6_roomOf 93 = some (xStI 95 5) := rfl
theorem kX6_roomOf_95 : lk LX6_roomOf 95 = some (xLdI 96 3) := rfl
theorem kX6_roomOf_96 : lk LX6_roomOf 96 = some (xLdI 97 1) := rfl
theorem kX6_roomOf_97 : lk LX6_roomOf 97 = some (xLdI 99 4) := rfl
theorem kX6_roomOf_99 : lk LX6_roomOf 99 = some (xCallS MX6_has 2 102) := rfl
theorem kX6_roomOf_102 : lk LX6_roomOf 102 = some (xZ_eq 110 105) := rfl
theorem kX6_roomOf_105 : lk LX6_roomOf 105 = some (xLdI 107 5) := rfl
theorem kX6_roomOf_107 : lk LX6_roomOf 107 = some (xGo 111) := rfl
theorem kX6_roomOf_110 : lk LX6_roomOf 110 = some (xK 111 (nI 0)) := rfl
theorem kX6_roomOf_111 : lk LX6_roomOf 111 = some (xBin 112 f_iadd) := rfl
theorem kX6_roomOf_112 : lk LX6_roomOf 112 = some (xStI 113 3) := rfl
theorem kX6_roomOf_113 : lk LX6_roomOf 113 = some (xInc 116 4 (nI 1)) := rfl
theorem kX6_roomOf_116 : lk LX6_roomOf 116 = some (xGo 49) := rfl
theorem kX6_roomOf_119 : lk LX6_roomOf 119 = some (xLdI 120 3) := rfl
theorem kX6_roomOf_120 : lk LX6_roomOf 120 = some (xRet) := rfl
def LX6_canBy : List (Nat × XI) := [(0, xLdA 1 0),
  (1, xGf 4 6 13),
  (4, xLdI 5 1),
  (5, xiaload 6),
  (6, xLdI 7 2),
  (7, xK 8 ((-1))),
  (8, xBin 9 f_ixor),
  (9, xBin 10 f_iand),
  (10, xCallS MX6_ones 1 13),
  (13, xStI 14 3),
  (14, xK 15 (nI 0)),
  (15, xStI 17 4),
  (17, xK 18 (nI 0)),
  (18, xStI 20 5),
  (20, xLdI 22 5),
  (22, xLdA 23 0),
  (23, xGf 26 6 5),
  (26, xC_ge 81 29),
  (29, xLdI 31 4),
  (31, xZ_ne 68 34),
  (34, xLdA 35 0),
  (35, xGf 38 6 6),
  (38, xLdI 40 5),
  (40, xiaload 41),
  (41, xK 42 (nI 1)),
  (42, xC_ne 72 45),
  (45, xLdI 46 2),
  (46, xLdI 48 5),
  (48, xCallS MX6_has 2 51),
  (51, xZ_eq 72 54),
  (54, xLdA 55 0),
  (55, xGf 58 6 13),
  (58, xLdI 59 1),
  (59, xiaload 60),
  (60, xLdI 62 5),
  (62, xCallS MX6_has 2 65),
  (65, xZ_ne 72 68),
  (68, xK 69 (nI 1)),
  (69, xGo 73),
  (72, xK 73 (nI 0)),
  (73, xStI 75 4),
  (75, xInc 78 5 (nI 1)),
  (78, xGo 20),
  (81, xLdI 82 3),
  (82, xZ_eq 95 85),
  (85, xLdI 86 3),
  (86, xK 87 (nI 1)),
  (87, xC_ne 99 90),
  (90, xLdI 92 4),
  (92, xZ_eq 99 95),
  (95, xK 96 (nI 1)),
  (96, xGo 100),
  (99, xK 100 (nI 0)),
  (100, xRetZ)]
theorem sX6_canBy_0 : Snd MX6_canBy 0 (xLdA 1 0) := snd_aload_n (M := MX6_canBy) (pc := 0) dX6_canBy_0
theorem sX6_canBy_1 : Snd MX6_canBy 1 (xGf 4 6 13) := snd_gf (M := MX6_canBy) (pc := 1) (C0 := RX6) (T0 := TX6) (N := 32) dX6_canBy_1 rfl tbX6 (by decide) w451
theorem sX6_canBy_4 : Snd MX6_canBy 4 (xLdI 5 1) := snd_iload_n (M := MX6_canBy) (pc := 4) dX6_canBy_4
theorem sX6_canBy_5 : Snd MX6_canBy 5 (xiaload 6) := snd_iaload (M := MX6_canBy) (pc := 5) dX6_canBy_5
theorem sX6_canBy_6 : Snd MX6_canBy 6 (xLdI 7 2) := snd_iload_n (M := MX6_canBy) (pc := 6) dX6_canBy_6
theorem sX6_canBy_7 : Snd MX6_canBy 7 (xK 8 ((-1))) := snd_iconst (M := MX6_canBy) (pc := 7) dX6_canBy_7 (by decide +kernel)
theorem sX6_canBy_8 : Snd MX6_canBy 8 (xBin 9 f_ixor) := snd_ixor (M := MX6_canBy) (pc := 8) dX6_canBy_8
theorem sX6_canBy_9 : Snd MX6_canBy 9 (xBin 10 f_iand) := snd_iand (M := MX6_canBy) (pc := 9) dX6_canBy_9
theorem sX6_canBy_10 : Snd MX6_canBy 10 (xCallS MX6_ones 1 13) := snd_callS (M := MX6_canBy) (pc := 10) (n := 1) dX6_canBy_10 w533 w534 ⟨w462, w532, ⟨by decide, by decide, by decide +kernel⟩, by decide⟩ ⟨rfl, rfl⟩
theorem sX6_canBy_13 : Snd MX6_canBy 13 (xStI 14 3) := snd_istore_n (M := MX6_canBy) (pc := 13) dX6_canBy_13 (by decide)
theorem sX6_canBy_14 : Snd MX6_canBy 14 (xK 15 (nI 0)) := snd_iconst (M := MX6_canBy) (pc := 14) dX6_canBy_14 (by decide +kernel)
theorem sX6_canBy_15 : Snd MX6_canBy 15 (xStI 17 4) := snd_istore (M := MX6_canBy) (pc := 15) dX6_canBy_15 (by decide)
theorem sX6_canBy_17 : Snd MX6_canBy 17 (xK 18 (nI 0)) := snd_iconst (M := MX6_canBy) (pc := 17) dX6_canBy_17 (by decide +kernel)
theorem sX6_canBy_18 : Snd MX6_canBy 18 (xStI 20 5) := snd_istore (M := MX6_canBy) (pc := 18) dX6_canBy_18 (by decide)
theorem sX6_canBy_20 : Snd MX6_canBy 20 (xLdI 22 5) := snd_iload (M := MX6_canBy) (pc := 20) dX6_canBy_20
theorem sX6_canBy_22 : Snd MX6_canBy 22 (xLdA 23 0) := snd_aload_n (M := MX6_canBy) (pc := 22) dX6_canBy_22
theorem sX6_canBy_23 : Snd MX6_canBy 23 (xGf 26 6 5) := snd_gf (M := MX6_canBy) (pc := 23) (C0 := RX6) (T0 := TX6) (N := 32) dX6_canBy_23 rfl tbX6 (by decide) w475
theorem sX6_canBy_26 : Snd MX6_canBy 26 (xC_ge 81 29) := snd_icmp_ge (M := MX6_canBy) (pc := 26) dX6_canBy_26 (by decide)
theorem sX6_canBy_29 : Snd MX6_canBy 29 (xLdI 31 4) := snd_iload (M := MX6_canBy) (pc := 29) dX6_canBy_29
theorem sX6_canBy_31 : Snd MX6_canBy 31 (xZ_ne 68 34) := snd_if_ne (M := MX6_canBy) (pc := 31) dX6_canBy_31 (by decide)
theorem sX6_canBy_34 : Snd MX6_canBy 34 (xLdA 35 0) := snd_aload_n (M := MX6_canBy) (pc := 34) dX6_canBy_34
theorem sX6_canBy_35 : Snd MX6_canBy 35 (xGf 38 6 6) := snd_gf (M := MX6_canBy) (pc := 35) (C0 := RX6) (T0 := TX6) (N := 32) dX6_canBy_35 rfl tbX6 (by decide) w445
theorem sX6_canBy_38 : Snd MX6_canBy 38 (xLdI 40 5) := snd_iload (M := MX6_canBy) (pc := 38) dX6_canBy_38
theorem sX6_canBy_40 : Snd MX6_canBy 40 (xiaload 41) := snd_iaload (M := MX6_canBy) (pc := 40) dX6_canBy_40
theorem sX6_canBy_41 : Snd MX6_canBy 41 (xK 42 (nI 1)) := snd_iconst (M := MX6_canBy) (pc := 41) dX6_canBy_41 (by decide +kernel)
theorem sX6_canBy_42 : Snd MX6_canBy 42 (xC_ne 72 45) := snd_icmp_ne (M := MX6_canBy) (pc := 42) dX6_canBy_42 (by decide)
theorem sX6_canBy_45 : Snd MX6_canBy 45 (xLdI 46 2) := snd_iload_n (M := MX6_canBy) (pc := 45) dX6_canBy_45
theorem sX6_canBy_46 : Snd MX6_canBy 46 (xLdI 48 5) := snd_iload (M := MX6_canBy) (pc := 46) dX6_canBy_46
theorem sX6_canBy_48 : Snd MX6_canBy 48 (xCallS MX6_has 2 51) := snd_callS (M := MX6_canBy) (pc := 48) (n := 2) dX6_canBy_48 w530 w531 ⟨w462, w529, ⟨by decide, by decide, by decide +kernel⟩, by decide⟩ ⟨rfl, rfl⟩
theorem sX6_canBy_51 : Snd MX6_canBy 51 (xZ_eq 72 54) := snd_if_eq (M := MX6_canBy) (pc := 51) dX6_canBy_51 (by decide)
theorem sX6_canBy_54 : Snd MX6_canBy 54 (xLdA 55 0) := snd_aload_n (M := MX6_canBy) (pc := 54) dX6_canBy_54
theorem sX6_canBy_55 : Snd MX6_canBy 55 (xGf 58 6 13) := snd_gf (M := MX6_canBy) (pc := 55) (C0 := RX6) (T0 := TX6) (N := 32) dX6_canBy_55 rfl tbX6 (by decide) w451
theorem sX6_canBy_58 : Snd MX6_canBy 58 (xLdI 59 1) := snd_iload_n (M := MX6_canBy) (pc := 58) dX6_canBy_58
theorem sX6_canBy_59 : Snd MX6_canBy 59 (xiaload 60) := snd_iaload (M := MX6_canBy) (pc := 59) dX6_canBy_59
theorem sX6_canBy_60 : Snd MX6_canBy 60 (xLdI 62 5) := snd_iload (M := MX6_canBy) (pc := 60) dX6_canBy_60
theorem sX6_canBy_62 : Snd MX6_canBy 62 (xCallS MX6_has 2 65) := snd_callS (M := MX6_canBy) (pc := 62) (n := 2) dX6_canBy_62 w530 w531 ⟨w462, w529, ⟨by decide, by decide, by decide +kernel⟩, by decide⟩ ⟨rfl, rfl⟩
theorem sX6_canBy_65 : Snd MX6_canBy 65 (xZ_ne 72 68) := snd_if_ne (M := MX6_canBy) (pc := 65) dX6_canBy_65 (by decide)
theorem sX6_canBy_68 : Snd MX6_canBy 68 (xK 69 (nI 1)) := snd_iconst (M := MX6_canBy) (pc := 68) dX6_canBy_68 (by decide +kernel)
theorem sX6_canBy_69 : Snd MX6_canBy 69 (xGo 73) := snd_goto (M := MX6_canBy) (pc := 69) dX6_canBy_69 (by decide)
theorem sX6_canBy_72 : Snd MX6_canBy 72 (xK 73 (nI 0)) := snd_iconst (M := MX6_canBy) (pc := 72) dX6_canBy_72 (by decide +kernel)
theorem sX6_canBy_73 : Snd MX6_canBy 73 (xStI 75 4) := snd_istore (M := MX6_canBy) (pc := 73) dX6_canBy_73 (by decide)
theorem sX6_canBy_75 : Snd MX6_canBy 75 (xInc 78 5 (nI 1)) := snd_iinc (M := MX6_canBy) (pc := 75) dX6_canBy_75 (by decide +kernel) (by decide)
theorem sX6_canBy_78 : Snd MX6_canBy 78 (xGo 20) := snd_goto (M := MX6_canBy) (pc := 78) dX6_canBy_78 (by decide)
theorem sX6_canBy_81 : Snd MX6_canBy 81 (xLdI 82 3) := snd_iload_n (M := MX6_canBy) (pc := 81) dX6_canBy_81
theorem sX6_canBy_82 : Snd MX6_canBy 82 (xZ_eq 95 85) := snd_if_eq (M := MX6_canBy) (pc := 82) dX6_canBy_82 (by decide)
theorem sX6_canBy_85 : Snd MX6_canBy 85 (xLdI 86 3) := snd_iload_n (M := MX6_canBy) (pc := 85) dX6_canBy_85
theorem sX6_canBy_86 : Snd MX6_canBy 86 (xK 87 (nI 1)) := snd_iconst (M := MX6_canBy) (pc := 86) dX6_canBy_86 (by decide +kernel)
theorem sX6_canBy_87 : Snd MX6_canBy 87 (xC_ne 99 90) := snd_icmp_ne (M := MX6_canBy) (pc := 87) dX6_canBy_87 (by decide)
theorem sX6_canBy_90 : Snd MX6_canBy 90 (xLdI 92 4) := snd_iload (M := MX6_canBy) (pc := 90) dX6_canBy_90
theorem sX6_canBy_92 : Snd MX6_canBy 92 (xZ_eq 99 95) := snd_if_eq (M := MX6_canBy) (pc := 92) dX6_canBy_92 (by decide)
theorem sX6_canBy_95 : Snd MX6_canBy 95 (xK 96 (nI 1)) := snd_iconst (M := MX6_canBy) (pc := 95) dX6_canBy_95 (by decide +kernel)
theorem sX6_canBy_96 : Snd MX6_canBy 96 (xGo 100) := snd_goto (M := MX6_canBy) (pc := 96) dX6_canBy_96 (by decide)
theorem sX6_canBy_99 : Snd MX6_canBy 99 (xK 100 (nI 0)) := snd_iconst (M := MX6_canBy) (pc := 99) dX6_canBy_99 (by decide +kernel)
theorem sX6_canBy_100 : Snd MX6_canBy 100 (xRetZ) := snd_zret (M := MX6_canBy) (pc := 100) dX6_canBy_100 rfl
theorem VX6_canBy : Valid MX6_canBy LX6_canBy := va_lid sX6_canBy_0 (va_lid sX6_canBy_1 (va_lid sX6_canBy_4 (va_lid sX6_canBy_5 (va_lid sX6_canBy_6 (va_lid sX6_canBy_7 (va_lid sX6_canBy_8 (va_lid sX6_canBy_9 (va_lid sX6_canBy_10 (va_lid sX6_canBy_13 (va_lid sX6_canBy_14 (va_lid sX6_canBy_15 (va_lid sX6_canBy_17 (va_lid sX6_canBy_18 (va_lid sX6_canBy_20 (va_lid sX6_canBy_22 (va_lid sX6_canBy_23 (va_lid sX6_canBy_26 (va_lid sX6_canBy_29 (va_lid sX6_canBy_31 (va_lid sX6_canBy_34 (va_lid sX6_canBy_35 (va_lid sX6_canBy_38 (va_lid sX6_canBy_40 (va_lid sX6_canBy_41 (va_lid sX6_canBy_42 (va_lid sX6_canBy_45 (va_lid sX6_canBy_46 (va_lid sX6_canBy_48 (va_lid sX6_canBy_51 (va_lid sX6_canBy_54 (va_lid sX6_canBy_55 (va_lid sX6_canBy_58 (va_lid sX6_canBy_59 (va_lid sX6_canBy_60 (va_lid sX6_canBy_62 (va_lid sX6_canBy_65 (va_lid sX6_canBy_68 (va_lid sX6_canBy_69 (va_lid sX6_canBy_72 (va_lid sX6_canBy_73 (va_lid sX6_canBy_75 (va_lid sX6_canBy_78 (va_lid sX6_canBy_81 (va_lid sX6_canBy_82 (va_lid sX6_canBy_85 (va_lid sX6_canBy_86 (va_lid sX6_canBy_87 (va_lid sX6_canBy_90 (va_lid sX6_canBy_92 (va_lid sX6_canBy_95 (va_lid sX6_canBy_96 (va_lid sX6_canBy_99 (va_lid sX6_canBy_100 (va_lid0))))))))))))))))))))))))))))))))))))))))))))))))))))))
theorem kX6_canBy_0 : lk LX6_canBy 0 = some (xLdA 1 0) := rfl
theorem kX6_canBy_1 : lk LX6_canBy 1 = some (xGf 4 6 13) := rfl
theorem kX6_canBy_4 : lk LX6_canBy 4 = some (xLdI 5 1) := rfl
theorem kX6_canBy_5 : lk LX6_canBy 5 = some (xiaload 6) := rfl
theorem kX6_canBy_6 : lk LX6_canBy 6 = some (xLdI 7 2) := rfl
theorem kX6_canBy_7 : lk LX6_canBy 7 = some (xK 8 ((-1))) := rfl
theorem kX6_canBy_8 : lk LX6_canBy 8 = some (xBin 9 f_ixor) := rfl
theorem kX6_canBy_9 : lk LX6_canBy 9 = some (xBin 10 f_iand) := rfl
theorem kX6_canBy_10 : lk LX6_canBy 10 = some (xCallS MX6_ones 1 13) := rfl
theorem kX6_canBy_13 : lk LX6_canBy 13 = some (xStI 14 3) := rfl
theorem kX6_canBy_14 : lk LX6_canBy 14 = some (xK 15 (nI 0)) := rfl
theorem kX6_canBy_15 : lk LX6_canBy 15 = some (xStI 17 4) := rfl
theorem kX6_canBy_17 : lk LX6_canBy 17 = some (xK 18 (nI 0)) := rfl
theorem kX6_canBy_18 : lk LX6_canBy 18 = some (xStI 20 5) := rfl
theorem kX6_canBy_20 : lk LX6_canBy 20 = some (xLdI 22 5) := rfl
theorem kX6_canBy_22 : lk LX6_canBy 22 = some (xLdA 23 0) := rfl
theorem kX6_canBy_23 : lk LX6_canBy 23 = some (xGf 26 6 5) := rfl
theorem kX6_canBy_26 : lk LX6_canBy 26 = some (xC_ge 81 29) := rfl
theorem kX6_canBy_29 : lk LX6_canBy 29 = some (xLdI 31 4) := rfl
theorem kX6_canBy_31 : lk LX6_canBy 31 = some (xZ_ne 68 34) := rfl
theorem kX6_canBy_34 : lk LX6_canBy 34 = some (xLdA 35 0) := rfl
theorem kX6_canBy_35 : lk LX6_canBy 35 = some (xGf 38 6 6) := rfl
theorem kX6_canBy_38 : lk LX6_canBy 38 = some (xLdI 40 5) := rfl
theorem kX6_canBy_40 : lk LX6_canBy 40 = some (xiaload 41) := rfl
theorem kX6_canBy_41 : lk LX6_canBy 41 = some (xK 42 (nI 1)) := rfl
theorem kX6_canBy_42 : lk LX6_canBy 42 = some (xC_ne 72 45) := rfl
theorem kX6_canBy_45 : lk LX6_canBy 45 = some (xLdI 46 2) := rfl
theorem kX6_canBy_46 : lk LX6_canBy 46 = some (xLdI 48 5) := rfl
theorem kX6_canBy_48 : lk LX6_canBy 48 = some (xCallS MX6_has 2 51) := rfl
theorem kX6_canBy_51 : lk LX6_canBy 51 = some (xZ_eq 72 54) := rfl
theorem kX6_canBy_54 : lk LX6_canBy 54 = some (xLdA 55 0) := rfl
theorem kX6_canBy_55 : lk LX6_canBy 55 = some (xGf 58 6 13) := rfl
theorem kX6_canBy_58 : lk LX6_canBy 58 = some (xLdI 59 1) := rfl
theorem kX6_canBy_59 : lk LX6_canBy 59 = some (xiaload 60) := rfl
theorem kX6_canBy_60 : lk LX6_canBy 60 = some (xLdI 62 5) := rfl
theorem kX6_canBy_62 : lk LX6_canBy 62 = some (xCallS MX6_has 2 65) := rfl
theorem kX6_canBy_65 : lk LX6_canBy 65 = some (xZ_ne 72 68) := rfl
theorem kX6_canBy_68 : lk LX6_canBy 68 = some (xK 69 (nI 1)) := rfl
theorem kX6_canBy_69 : lk LX6_canBy 69 = some (xGo 73) := rfl
theorem kX6_canBy_72 : lk LX6_canBy 72 = some (xK 73 (nI 0)) := rfl
theorem kX6_canBy_73 : lk LX6_canBy 73 = some (xStI 75 4) := rfl
theorem kX6_canBy_75 : lk LX6_canBy 75 = some (xInc 78 5 (nI 1)) := rfl
theorem kX6_canBy_78 : lk LX6_canBy 78 = some (xGo 20) := rfl
theorem kX6_canBy_81 : lk LX6_canBy 81 = some (xLdI 82 3) := rfl
theorem kX6_canBy_82 : lk LX6_canBy 82 = some (xZ_eq 95 85) := rfl
theorem kX6_canBy_85 : lk LX6_canBy 85 = some (xLdI 86 3) := rfl
theorem kX6_canBy_86 : lk LX6_canBy 86 = some (xK 87 (nI 1)) := rfl
theorem kX6_canBy_87 : lk LX6_canBy 87 = some (xC_ne 99 90) := rfl
theorem kX6_canBy_90 : lk LX6_canBy 90 = some (xLdI 92 4) := rfl
theorem kX6_canBy_92 : lk LX6_canBy 92 = some (xZ_eq 99 95) := rfl
theorem kX6_canBy_95 : lk LX6_canBy 95 = some (xK 96 (nI 1)) := rfl
theorem kX6_canBy_96 : lk LX6_canBy 96 = some (xGo 100) := rfl
theorem kX6_canBy_99 : lk LX6_canBy 99 = some (xK 100 (nI 0)) := rfl
theorem kX6_canBy_100 : lk LX6_canBy 100 = some (xRetZ) := rfl
def LX6_livesBy : List (Nat × XI) := [(0, xK 1 (nI 0)),
  (1, xStI 2 2),
  (2, xK 3 (nI 0)),
  (3, xStI 4 3),
  (4, xLdI 5 3),
  (5, xLdA 6 0),
  (6, xGf 9 6 9),
  (9, xC_ge 37 12),
  (12, xLdI 13 2),
  (13, xLdA 14 0),
  (14, xLdI 15 3),
  (15, xLdI 16 1),
  (16, xCallV MX6_canBy 6 2 19),
  (19, xZ_eq 28 22),
  (22, xK 23 (nI 1)),
  (23, xLdI 24 3),
  (24, xBin 25 f_ishl),
  (25, xGo 29),
  (28, xK 29 (nI 0)),
  (29, xBin 30 f_ior),
  (30, xStI 31 2),
  (31, xInc 34 3 (nI 1)),
  (34, xGo 4),
  (37, xLdI 38 2),
  (38, xRet)]
theorem sX6_livesBy_0 : Snd MX6_livesBy 0 (xK 1 (nI 0)) := snd_iconst (M := MX6_livesBy) (pc := 0) dX6_livesBy_0 (by decide +kernel)
theorem sX6_livesBy_1 : Snd MX6_livesBy 1 (xStI 2 2) := snd_istore_n (M := MX6_livesBy) (pc := 1) dX6_livesBy_1 (by decide)
theorem sX6_livesBy_2 : Snd MX6_livesBy 2 (xK 3 (nI 0)) := snd_iconst (M := MX6_livesBy) (pc := 2) dX6_livesBy_2 (by decide +kernel)
theorem sX6_livesBy_3 : Snd MX6_livesBy 3 (xStI 4 3) := snd_istore_n (M := MX6_livesBy) (pc := 3) dX6_livesBy_3 (by decide)
theorem sX6_livesBy_4 : Snd MX6_livesBy 4 (xLdI 5 3) := snd_iload_n (M := MX6_livesBy) (pc := 4) dX6_livesBy_4
theorem sX6_livesBy_5 : Snd MX6_livesBy 5 (xLdA 6 0) := snd_aload_n (M := MX6_livesBy) (pc := 5) dX6_livesBy_5
theorem sX6_livesBy_6 : Snd MX6_livesBy 6 (xGf 9 6 9) := snd_gf (M := MX6_livesBy) (pc := 6) (C0 := RX6) (T0 := TX6) (N := 32) dX6_livesBy_6 rfl tbX6 (by decide) w479
theorem sX6_livesBy_9 : Snd MX6_livesBy 9 (xC_ge 37 12) := snd_icmp_ge (M := MX6_livesBy) (pc := 9) dX6_livesBy_9 (by decide)
theorem sX6_livesBy_12 : Snd MX6_livesBy 12 (xLdI 13 2) := snd_iload_n (M := MX6_livesBy) (pc := 12) dX6_livesBy_12
theorem sX6_livesBy_13 : Snd MX6_livesBy 13 (xLdA 14 0) := snd_aload_n (M := MX6_livesBy) (pc := 13) dX6_livesBy_13
theorem sX6_livesBy_14 : Snd MX6_livesBy 14 (xLdI 15 3) := snd_iload_n (M := MX6_livesBy) (pc := 14) dX6_livesBy_14
theorem sX6_livesBy_15 : Snd MX6_livesBy 15 (xLdI 16 1) := snd_iload_n (M := MX6_livesBy) (pc := 15) dX6_livesBy_15
theorem sX6_livesBy_16 : Snd MX6_livesBy 16 (xCallV MX6_canBy 6 2 19) := snd_callV (M := MX6_livesBy) (pc := 16) (n := 2) dX6_livesBy_16 rfl w536 w537 w538 ⟨w462, w535, ⟨by decide, by decide, by decide +kernel⟩, by decide⟩ ⟨rfl, rfl⟩
theorem sX6_livesBy_19 : Snd MX6_livesBy 19 (xZ_eq 28 22) := snd_if_eq (M := MX6_livesBy) (pc := 19) dX6_livesBy_19 (by decide)
theorem sX6_livesBy_22 : Snd MX6_livesBy 22 (xK 23 (nI 1)) := snd_iconst (M := MX6_livesBy) (pc := 22) dX6_livesBy_22 (by decide +kernel)
theorem sX6_livesBy_23 : Snd MX6_livesBy 23 (xLdI 24 3) := snd_iload_n (M := MX6_livesBy) (pc := 23) dX6_livesBy_23
theorem sX6_livesBy_24 : Snd MX6_livesBy 24 (xBin 25 f_ishl) := snd_ishl (M := MX6_livesBy) (pc := 24) dX6_livesBy_24
theorem sX6_livesBy_25 : Snd MX6_livesBy 25 (xGo 29) := snd_goto (M := MX6_livesBy) (pc := 25) dX6_livesBy_25 (by decide)
theorem sX6_livesBy_28 : Snd MX6_livesBy 28 (xK 29 (nI 0)) := snd_iconst (M := MX6_livesBy) (pc := 28) dX6_livesBy_28 (by decide +kernel)
theorem sX6_livesBy_29 : Snd MX6_livesBy 29 (xBin 30 f_ior) := snd_ior (M := MX6_livesBy) (pc := 29) dX6_livesBy_29
theorem sX6_livesBy_30 : Snd MX6_livesBy 30 (xStI 31 2) := snd_istore_n (M := MX6_livesBy) (pc := 30) dX6_livesBy_30 (by decide)
theorem sX6_livesBy_31 : Snd MX6_livesBy 31 (xInc 34 3 (nI 1)) := snd_iinc (M := MX6_livesBy) (pc := 31) dX6_livesBy_31 (by decide +kernel) (by decide)
theorem sX6_livesBy_34 : Snd MX6_livesBy 34 (xGo 4) := snd_goto (M := MX6_livesBy) (pc := 34) dX6_livesBy_34 (by decide)
theorem sX6_livesBy_37 : Snd MX6_livesBy 37 (xLdI 38 2) := snd_iload_n (M := MX6_livesBy) (pc := 37) dX6_livesBy_37
theorem sX6_livesBy_38 : Snd MX6_livesBy 38 (xRet) := snd_iret (M := MX6_livesBy) (pc := 38) dX6_livesBy_38 rfl
theorem VX6_livesBy : Valid MX6_livesBy LX6_livesBy := va_lid sX6_livesBy_0 (va_lid sX6_livesBy_1 (va_lid sX6_livesBy_2 (va_lid sX6_livesBy_3 (va_lid sX6_livesBy_4 (va_lid sX6_livesBy_5 (va_lid sX6_livesBy_6 (va_lid sX6_livesBy_9 (va_lid sX6_livesBy_12 (va_lid sX6_livesBy_13 (va_lid sX6_livesBy_14 (va_lid sX6_livesBy_15 (va_lid sX6_livesBy_16 (va_lid sX6_livesBy_19 (va_lid sX6_livesBy_22 (va_lid sX6_livesBy_23 (va_lid sX6_livesBy_24 (va_lid sX6_livesBy_25 (va_lid sX6_livesBy_28 (va_lid sX6_livesBy_29 (va_lid sX6_livesBy_30 (va_lid sX6_livesBy_31 (va_lid sX6_livesBy_34 (va_lid sX6_livesBy_37 (va_lid sX6_livesBy_38 (va_lid0)))))))))))))))))))))))))
theorem kX6_livesBy_0 : lk LX6_livesBy 0 = some (xK 1 (nI 0)) := rfl
theorem kX6_livesBy_1 : lk LX6_livesBy 1 = some (xStI 2 2) := rfl
theorem kX6_livesBy_2 : lk LX6_livesBy 2 = some (xK 3 (nI 0)) := rfl
theorem kX6_livesBy_3 : lk LX6_livesBy 3 = some (xStI 4 3) := rfl
theorem kX6_livesBy_4 : lk LX6_livesBy 4 = some (xLdI 5 3) := rfl
theorem kX6_livesBy_5 : lk LX6_livesBy 5 = some (xLdA 6 0) := rfl
theorem kX6_livesBy_6 : lk LX6_livesBy 6 = some (xGf 9 6 9) := rfl
theorem kX6_livesBy_9 : lk LX6_livesBy 9 = some (xC_ge 37 12) := rfl
theorem kX6_livesBy_12 : lk LX6_livesBy 12 = some (xLdI 13 2) := rfl
theorem kX6_livesBy_13 : lk LX6_livesBy 13 = some (xLdA 14 0) := rfl
theorem kX6_livesBy_14 : lk LX6_livesBy 14 = some (xLdI 15 3) := rfl
theorem kX6_livesBy_15 : lk LX6_livesBy 15 = some (xLdI 16 1) := rfl
theorem kX6_livesBy_16 : lk LX6_livesBy 16 = some (xCallV MX6_canBy 6 2 19) := rfl
theorem kX6_livesBy_19 : lk LX6_livesBy 19 = some (xZ_eq 28 22) := rfl
theorem kX6_livesBy_22 : lk LX6_livesBy 22 = some (xK 23 (nI 1)) := rfl
theorem kX6_livesBy_23 : lk LX6_livesBy 23 = some (xLdI 24 3) := rfl
theorem kX6_livesBy_24 : lk LX6_livesBy 24 = some (xBin 25 f_ishl) := rfl
theorem kX6_livesBy_25 : lk LX6_livesBy 25 = some (xGo 29) := rfl
theorem kX6_livesBy_28 : lk LX6_livesBy 28 = some (xK 29 (nI 0)) := rfl
theorem kX6_livesBy_29 : lk LX6_livesBy 29 = some (xBin 30 f_ior) := rfl
theorem kX6_livesBy_30 : lk LX6_livesBy 30 = some (xStI 31 2) := rfl
theorem kX6_livesBy_31 : lk LX6_livesBy 31 = some (xInc 34 3 (nI 1)) := rfl
theorem kX6_livesBy_34 : lk LX6_livesBy 34 = some (xGo 4) := rfl
theorem kX6_livesBy_37 : lk LX6_livesBy 37 = some (xLdI 38 2) := rfl
theorem kX6_livesBy_38 : lk LX6_livesBy 38 = some (xRet) := rfl
def LX6_worthOf : List (Nat × XI) := [(0, xK 1 (nI 0)),
  (1, xStI 2 2),
  (2, xK 3 (nI 0)),
  (3, xStI 4 3),
  (4, xLdI 5 3),
  (5, xLdA 6 0),
  (6, xGf 9 6 9),
  (9, xC_ge 47 12),
  (12, xLdI 13 2),
  (13, xLdA 14 0),
  (14, xLdI 15 3),
  (15, xLdI 16 1),
  (16, xCallV MX6_canBy 6 2 19),
  (19, xZ_eq 38 22),
  (22, xLdA 23 0),
  (23, xGf 26 6 10),
  (26, xLdI 27 3),
  (27, xiaload 28),
  (28, xLdA 29 0),
  (29, xGf 32 6 11),
  (32, xLdI 33 3),
  (33, xiaload 34),
  (34, xBin 35 f_imul),
  (35, xGo 39),
  (38, xK 39 (nI 0)),
  (39, xBin 40 f_iadd),
  (40, xStI 41 2),
  (41, xInc 44 3 (nI 1)),
  (44, xGo 4),
  (47, xLdI 48 2),
  (48, xRet)]
theorem sX6_worthOf_0 : Snd MX6_worthOf 0 (xK 1 (nI 0)) := snd_iconst (M := MX6_worthOf) (pc := 0) dX6_worthOf_0 (by decide +kernel)
theorem sX6_worthOf_1 : Snd MX6_worthOf 1 (xStI 2 2) := snd_istore_n (M := MX6_worthOf) (pc := 1) dX6_worthOf_1 (by decide)
theorem sX6_worthOf_2 : Snd MX6_worthOf 2 (xK 3 (nI 0)) := snd_iconst (M := MX6_worthOf) (pc := 2) dX6_worthOf_2 (by decide +kernel)
theorem sX6_worthOf_3 : Snd MX6_worthOf 3 (xStI 4 3) := snd_istore_n (M := MX6_worthOf) (pc := 3) dX6_worthOf_3 (by decide)
theorem sX6_worthOf_4 : Snd MX6_worthOf 4 (xLdI 5 3) := snd_iload_n (M := MX6_worthOf) (pc := 4) dX6_worthOf_4
theorem sX6_worthOf_5 : Snd MX6_worthOf 5 (xLdA 6 0) := snd_aload_n (M := MX6_worthOf) (pc := 5) dX6_worthOf_5
theorem sX6_worthOf_6 : Snd MX6_worthOf 6 (xGf 9 6 9) := snd_gf (M := MX6_worthOf) (pc := 6) (C0 := RX6) (T0 := TX6) (N := 32) dX6_worthOf_6 rfl tbX6 (by decide) w479
theorem sX6_worthOf_9 : Snd MX6_worthOf 9 (xC_ge 47 12) := snd_icmp_ge (M := MX6_worthOf) (pc := 9) dX6_worthOf_9 (by decide)
theorem sX6_worthOf_12 : Snd MX6_worthOf 12 (xLdI 13 2) := snd_iload_n (M := MX6_worthOf) (pc := 12) dX6_worthOf_12
theorem sX6_worthOf_13 : Snd MX6_worthOf 13 (xLdA 14 0) := snd_aload_n (M := MX6_worthOf) (pc := 13) dX6_worthOf_13
theorem sX6_worthOf_14 : Snd MX6_worthOf 14 (xLdI 15 3) := snd_iload_n (M := MX6_worthOf) (pc := 14) dX6_worthOf_14
theorem sX6_worthOf_15 : Snd MX6_worthOf 15 (xLdI 16 1) := snd_iload_n (M := MX6_worthOf) (pc := 15) dX6_worthOf_15
theorem sX6_worthOf_16 : Snd MX6_worthOf 16 (xCallV MX6_canBy 6 2 19) := snd_callV (M := MX6_worthOf) (pc := 16) (n := 2) dX6_worthOf_16 rfl w536 w537 w538 ⟨w462, w535, ⟨by decide, by decide, by decide +kernel⟩, by decide⟩ ⟨rfl, rfl⟩
theorem sX6_worthOf_19 : Snd MX6_worthOf 19 (xZ_eq 38 22) := snd_if_eq (M := MX6_worthOf) (pc := 19) dX6_worthOf_19 (by decide)
theorem sX6_worthOf_22 : Snd MX6_worthOf 22 (xLdA 23 0) := snd_aload_n (M := MX6_worthOf) (pc := 22) dX6_worthOf_22
theorem sX6_worthOf_23 : Snd MX6_worthOf 23 (xGf 26 6 10) := snd_gf (M := MX6_worthOf) (pc := 23) (C0 := RX6) (T0 := TX6) (N := 32) dX6_worthOf_23 rfl tbX6 (by decide) w448
theorem sX6_worthOf_26 : Snd MX6_worthOf 26 (xLdI 27 3) := snd_iload_n (M := MX6_worthOf) (pc := 26) dX6_worthOf_26
theorem sX6_worthOf_27 : Snd MX6_worthOf 27 (xiaload 28) := snd_iaload (M := MX6_worthOf) (pc := 27) dX6_worthOf_27
theorem sX6_worthOf_28 : Snd MX6_worthOf 28 (xLdA 29 0) := snd_aload_n (M := MX6_worthOf) (pc := 28) dX6_worthOf_28
theorem sX6_worthOf_29 : Snd MX6_worthOf 29 (xGf 32 6 11) := snd_gf (M := MX6_worthOf) (pc := 29) (C0 := RX6) (T0 := TX6) (N := 32) dX6_worthOf_29 rfl tbX6 (by decide) w449
theorem sX6_worthOf_32 : Snd MX6_worthOf 32 (xLdI 33 3) := snd_iload_n (M := MX6_worthOf) (pc := 32) dX6_worthOf_32
theorem sX6_worthOf_33 : Snd MX6_worthOf 33 (xiaload 34) := snd_iaload (M := MX6_worthOf) (pc := 33) dX6_worthOf_33
theorem sX6_worthOf_34 : Snd MX6_worthOf 34 (xBin 35 f_imul) := snd_imul (M := MX6_worthOf) (pc := 34) dX6_worthOf_34
theorem sX6_worthOf_35 : Snd MX6_worthOf 35 (xGo 39) := snd_goto (M := MX6_worthOf) (pc := 35) dX6_worthOf_35 (by decide)
theorem sX6_worthOf_38 : Snd MX6_worthOf 38 (xK 39 (nI 0)) := snd_iconst (M := MX6_worthOf) (pc := 38) dX6_worthOf_38 (by decide +kernel)
theorem sX6_worthOf_39 : Snd MX6_worthOf 39 (xBin 40 f_iadd) := snd_iadd (M := MX6_worthOf) (pc := 39) dX6_worthOf_39
theorem sX6_worthOf_40 : Snd MX6_worthOf 40 (xStI 41 2) := snd_istore_n (M := MX6_worthOf) (pc := 40) dX6_worthOf_40 (by decide)
theorem sX6_worthOf_41 : Snd MX6_worthOf 41 (xInc 44 3 (nI 1)) := snd_iinc (M := MX6_worthOf) (pc := 41) dX6_worthOf_41 (by decide +kernel) (by decide)
theorem sX6_worthOf_44 : Snd MX6_worthOf 44 (xGo 4) := snd_goto (M := MX6_worthOf) (pc := 44) dX6_worthOf_44 (by decide)
theorem sX6_worthOf_47 : Snd MX6_worthOf 47 (xLdI 48 2) := snd_iload_n (M := MX6_worthOf) (pc := 47) dX6_worthOf_47
theorem sX6_worthOf_48 : Snd MX6_worthOf 48 (xRet) := snd_iret (M := MX6_worthOf) (pc := 48) dX6_worthOf_48 rfl
theorem VX6_worthOf : Valid MX6_worthOf LX6_worthOf := va_lid sX6_worthOf_0 (va_lid sX6_worthOf_1 (va_lid sX6_worthOf_2 (va_lid sX6_worthOf_3 (va_lid sX6_worthOf_4 (va_lid sX6_worthOf_5 (va_lid sX6_worthOf_6 (va_lid sX6_worthOf_9 (va_lid sX6_worthOf_12 (va_lid sX6_worthOf_13 (va_lid sX6_worthOf_14 (va_lid sX6_worthOf_15 (va_lid sX6_worthOf_16 (va_lid sX6_worthOf_19 (va_lid sX6_worthOf_22 (va_lid sX6_worthOf_23 (va_lid sX6_worthOf_26 (va_lid sX6_worthOf_27 (va_lid sX6_worthOf_28 (va_lid sX6_worthOf_29 (va_lid sX6_worthOf_32 (va_lid sX6_worthOf_33 (va_lid sX6_worthOf_34 (va_lid sX6_worthOf_35 (va_lid sX6_worthOf_38 (va_lid sX6_worthOf_39 (va_lid sX6_worthOf_40 (va_lid sX6_worthOf_41 (va_lid sX6_worthOf_44 (va_lid sX6_worthOf_47 (va_lid sX6_worthOf_48 (va_lid0)))))))))))))))))))))))))))))))
theorem kX6_worthOf_0 : lk LX6_worthOf 0 = some (xK 1 (nI 0)) := rfl
theorem kX6_worthOf_1 : lk LX6_worthOf 1 = some (xStI 2 2) := rfl
theorem kX6_worthOf_2 : lk LX6_worthOf 2 = some (xK 3 (nI 0)) := rfl
theorem kX6_worthOf_3 : lk LX6_worthOf 3 = some (xStI 4 3) := rfl
theorem kX6_worthOf_4 : lk LX6_worthOf 4 = some (xLdI 5 3) := rfl
theorem kX6_worthOf_5 : lk LX6_worthOf 5 = some (xLdA 6 0) := rfl
theorem kX6_worthOf_6 : lk LX6_worthOf 6 = some (xGf 9 6 9) := rfl
theorem kX6_worthOf_9 : lk LX6_worthOf 9 = some (xC_ge 47 12) := rfl
theorem kX6_worthOf_12 : lk LX6_worthOf 12 = some (xLdI 13 2) := rfl
theorem kX6_worthOf_13 : lk LX6_worthOf 13 = some (xLdA 14 0) := rfl
theorem kX6_worthOf_14 : lk LX6_worthOf 14 = some (xLdI 15 3) := rfl
theorem kX6_worthOf_15 : lk LX6_worthOf 15 = some (xLdI 16 1) := rfl
theorem kX6_worthOf_16 : lk LX6_worthOf 16 = some (xCallV MX6_canBy 6 2 19) := rfl
theorem kX6_worthOf_19 : lk LX6_worthOf 19 = some (xZ_eq 38 22) := rfl
theorem kX6_worthOf_22 : lk LX6_worthOf 22 = some (xLdA 23 0) := rfl
theorem kX6_worthOf_23 : lk LX6_worthOf 23 = some (xGf 26 6 10) := rfl
theorem kX6_worthOf_26 : lk LX6_worthOf 26 = some (xLdI 27 3) := rfl
theorem kX6_worthOf_27 : lk LX6_worthOf 27 = some (xiaload 28) := rfl
theorem kX6_worthOf_28 : lk LX6_worthOf 28 = some (xLdA 29 0) := rfl
theorem kX6_worthOf_29 : lk LX6_worthOf 29 = some (xGf 32 6 11) := rfl
theorem kX6_worthOf_32 : lk LX6_worthOf 32 = some (xLdI 33 3) := rfl
theorem kX6_worthOf_33 : lk LX6_worthOf 33 = some (xiaload 34) := rfl
theorem kX6_worthOf_34 : lk LX6_worthOf 34 = some (xBin 35 f_imul) := rfl
theorem kX6_worthOf_35 : lk LX6_worthOf 35 = some (xGo 39) := rfl
theorem kX6_worthOf_38 : lk LX6_worthOf 38 = some (xK 39 (nI 0)) := rfl
theorem kX6_worthOf_39 : lk LX6_worthOf 39 = some (xBin 40 f_iadd) := rfl
theorem kX6_worthOf_40 : lk LX6_worthOf 40 = some (xStI 41 2) := rfl
theorem kX6_worthOf_41 : lk LX6_worthOf 41 = some (xInc 44 3 (nI 1)) := rfl
theorem kX6_worthOf_44 : lk LX6_worthOf 44 = some (xGo 4) := rfl
theorem kX6_worthOf_47 : lk LX6_worthOf 47 = some (xLdI 48 2) := rfl
theorem kX6_worthOf_48 : lk LX6_worthOf 48 = some (xRet) := rfl
def LX6_likelyOfAll : List (Nat × XI) := [(0, xK 1 (nI 0)),
  (1, xStI 2 1),
  (2, xK 3 (nI 0)),
  (3, xStI 4 2),
  (4, xLdI 5 2),
  (5, xLdA 6 0),
  (6, xGf 9 6 9),
  (9, xC_ge 27 12),
  (12, xLdI 13 1),
  (13, xLdA 14 0),
  (14, xGf 17 6 10),
  (17, xLdI 18 2),
  (18, xiaload 19),
  (19, xBin 20 f_iadd),
  (20, xStI 21 1),
  (21, xInc 24 2 (nI 1)),
  (24, xGo 4),
  (27, xLdI 28 1),
  (28, xRet)]
theorem sX6_likelyOfAll_0 : Snd MX6_likelyOfAll 0 (xK 1 (nI 0)) := snd_iconst (M := MX6_likelyOfAll) (pc := 0) dX6_likelyOfAll_0 (by decide +kernel)
theorem sX6_likelyOfAll_1 : Snd MX6_likelyOfAll 1 (xStI 2 1) := snd_istore_n (M := MX6_likelyOfAll) (pc := 1) dX6_likelyOfAll_1 (by decide)
theorem sX6_likelyOfAll_2 : Snd MX6_likelyOfAll 2 (xK 3 (nI 0)) := snd_iconst (M := MX6_likelyOfAll) (pc := 2) dX6_likelyOfAll_2 (by decide +kernel)
theorem sX6_likelyOfAll_3 : Snd MX6_likelyOfAll 3 (xStI 4 2) := snd_istore_n (M := MX6_likelyOfAll) (pc := 3) dX6_likelyOfAll_3 (by decide)
theorem sX6_likelyOfAll_4 : Snd MX6_likelyOfAll 4 (xLdI 5 2) := snd_iload_n (M := MX6_likelyOfAll) (pc := 4) dX6_likelyOfAll_4
theorem sX6_likelyOfAll_5 : Snd MX6_likelyOfAll 5 (xLdA 6 0) := snd_aload_n (M := MX6_likelyOfAll) (pc := 5) dX6_likelyOfAll_5
theorem sX6_likelyOfAll_6 : Snd MX6_likelyOfAll 6 (xGf 9 6 9) := snd_gf (M := MX6_likelyOfAll) (pc := 6) (C0 := RX6) (T0 := TX6) (N := 32) dX6_likelyOfAll_6 rfl tbX6 (by decide) w479
theorem sX6_likelyOfAll_9 : Snd MX6_likelyOfAll 9 (xC_ge 27 12) := snd_icmp_ge (M := MX6_likelyOfAll) (pc := 9) dX6_likelyOfAll_9 (by decide)
theorem sX6_likelyOfAll_12 : Snd MX6_likelyOfAll 12 (xLdI 13 1) := snd_iload_n (M := MX6_likelyOfAll) (pc := 12) dX6_likelyOfAll_12
theorem sX6_likelyOfAll_13 : Snd MX6_likelyOfAll 13 (xLdA 14 0) := snd_aload_n (M := MX6_likelyOfAll) (pc := 13) dX6_likelyOfAll_13
theorem sX6_likelyOfAll_14 : Snd MX6_likelyOfAll 14 (xGf 17 6 10) := snd_gf (M := MX6_likelyOfAll) (pc := 14) (C0 := RX6) (T0 := TX6) (N := 32) dX6_likelyOfAll_14 rfl tbX6 (by decide) w448
theorem sX6_likelyOfAll_17 : Snd MX6_likelyOfAll 17 (xLdI 18 2) := snd_iload_n (M := MX6_likelyOfAll) (pc := 17) dX6_likelyOfAll_17
theorem sX6_likelyOfAll_18 : Snd MX6_likelyOfAll 18 (xiaload 19) := snd_iaload (M := MX6_likelyOfAll) (pc := 18) dX6_likelyOfAll_18
theorem sX6_likelyOfAll_19 : Snd MX6_likelyOfAll 19 (xBin 20 f_iadd) := snd_iadd (M := MX6_likelyOfAll) (pc := 19) dX6_likelyOfAll_19
theorem sX6_likelyOfAll_20 : Snd MX6_likelyOfAll 20 (xStI 21 1) := snd_istore_n (M := MX6_likelyOfAll) (pc := 20) dX6_likelyOfAll_20 (by decide)
theorem sX6_likelyOfAll_21 : Snd MX6_likelyOfAll 21 (xInc 24 2 (nI 1)) := snd_iinc (M := MX6_likelyOfAll) (pc := 21) dX6_likelyOfAll_21 (by decide +kernel) (by decide)
theorem sX6_likelyOfAll_24 : Snd MX6_likelyOfAll 24 (xGo 4) := snd_goto (M := MX6_likelyOfAll) (pc := 24) dX6_likelyOfAll_24 (by decide)
theorem sX6_likelyOfAll_27 : Snd MX6_likelyOfAll 27 (xLdI 28 1) := snd_iload_n (M := MX6_likelyOfAll) (pc := 27) dX6_likelyOfAll_27
theorem sX6_likelyOfAll_28 : Snd MX6_likelyOfAll 28 (xRet) := snd_iret (M := MX6_likelyOfAll) (pc := 28) dX6_likelyOfAll_28 rfl
theorem VX6_likelyOfAll : Valid MX6_likelyOfAll LX6_likelyOfAll := va_lid sX6_likelyOfAll_0 (va_lid sX6_likelyOfAll_1 (va_lid sX6_likelyOfAll_2 (va_lid sX6_likelyOfAll_3 (va_lid sX6_likelyOfAll_4 (va_lid sX6_likelyOfAll_5 (va_lid sX6_likelyOfAll_6 (va_lid sX6_likelyOfAll_9 (va_lid sX6_likelyOfAll_12 (va_lid sX6_likelyOfAll_13 (va_lid sX6_likelyOfAll_14 (va_lid sX6_likelyOfAll_17 (va_lid sX6_likelyOfAll_18 (va_lid sX6_likelyOfAll_19 (va_lid sX6_likelyOfAll_20 (va_lid sX6_likelyOfAll_21 (va_lid sX6_likelyOfAll_24 (va_lid sX6_likelyOfAll_27 (va_lid sX6_likelyOfAll_28 (va_lid0)))))))))))))))))))
theorem kX6_likelyOfAll_0 : lk LX6_likelyOfAll 0 = some (xK 1 (nI 0)) := rfl
theorem kX6_likelyOfAll_1 : lk LX6_likelyOfAll 1 = some (xStI 2 1) := rfl
theorem kX6_likelyOfAll_2 : lk LX6_likelyOfAll 2 = some (xK 3 (nI 0)) := rfl
theorem kX6_likelyOfAll_3 : lk LX6_likelyOfAll 3 = some (xStI 4 2) := rfl
theorem kX6_likelyOfAll_4 : lk LX6_likelyOfAll 4 = some (xLdI 5 2) := rfl
theorem kX6_likelyOfAll_5 : lk LX6_likelyOfAll 5 = some (xLdA 6 0) := rfl
theorem kX6_likelyOfAll_6 : lk LX6_likelyOfAll 6 = some (xGf 9 6 9) := rfl
theorem kX6_likelyOfAll_9 : lk LX6_likelyOfAll 9 = some (xC_ge 27 12) := rfl
theorem kX6_likelyOfAll_12 : lk LX6_likelyOfAll 12 = some (xLdI 13 1) := rfl
theorem kX6_likelyOfAll_13 : lk LX6_likelyOfAll 13 = some (xLdA 14 0) := rfl
theorem kX6_likelyOfAll_14 : lk LX6_likelyOfAll 14 = some (xGf 17 6 10) := rfl
theorem kX6_likelyOfAll_17 : lk LX6_likelyOfAll 17 = some (xLdI 18 2) := rfl
theorem kX6_likelyOfAll_18 : lk LX6_likelyOfAll 18 = some (xiaload 19) := rfl
theorem kX6_likelyOfAll_19 : lk LX6_likelyOfAll 19 = some (xBin 20 f_iadd) := rfl
theorem kX6_likelyOfAll_20 : lk LX6_likelyOfAll 20 = some (xStI 21 1) := rfl
theorem kX6_likelyOfAll_21 : lk LX6_likelyOfAll 21 = some (xInc 24 2 (nI 1)) := rfl
theorem kX6_likelyOfAll_24 : lk LX6_likelyOfAll 24 = some (xGo 4) := rfl
theorem kX6_likelyOfAll_27 : lk LX6_likelyOfAll 27 = some (xLdI 28 1) := rfl
theorem kX6_likelyOfAll_28 : lk LX6_likelyOfAll 28 = some (xRet) := rfl
def LX6_partOf : List (Nat × XI) := [(0, xLdI 1 1),
  (1, xStI 3 4),
  (3, xLdI 4 2),
  (4, xStI 6 5),
  (6, xLdI 8 5),
  (8, xZ_eq 29 11),
  (11, xLdI 13 4),
  (13, xLdI 15 5),
  (15, xDiv 16 f_irem),
  (16, xStI 18 6),
  (18, xLdI 20 5),
  (20, xStI 22 4),
  (22, xLdI 24 6),
  (24, xStI 26 5),
  (26, xGo 6),
  (29, xLdI 30 3),
  (30, xZ_ne 40 33),
  (33, xLdI 34 1),
  (34, xLdI 36 4),
  (36, xDiv 37 f_idiv),
  (37, xGo 44),
  (40, xLdI 41 2),
  (41, xLdI 43 4),
  (43, xDiv 44 f_idiv),
  (44, xRet)]
theorem sX6_partOf_0 : Snd MX6_partOf 0 (xLdI 1 1) := snd_iload_n (M := MX6_partOf) (pc := 0) dX6_partOf_0
theorem sX6_partOf_1 : Snd MX6_partOf 1 (xStI 3 4) := snd_istore (M := MX6_partOf) (pc := 1) dX6_partOf_1 (by decide)
theorem sX6_partOf_3 : Snd MX6_partOf 3 (xLdI 4 2) := snd_iload_n (M := MX6_partOf) (pc := 3) dX6_partOf_3
theorem sX6_partOf_4 : Snd MX6_partOf 4 (xStI 6 5) := snd_istore (M := MX6_partOf) (pc := 4) dX6_partOf_4 (by decide)
theorem sX6_partOf_6 : Snd MX6_partOf 6 (xLdI 8 5) := snd_iload (M := MX6_partOf) (pc := 6) dX6_partOf_6
theorem sX6_partOf_8 : Snd MX6_partOf 8 (xZ_eq 29 11) := snd_if_eq (M := MX6_partOf) (pc := 8) dX6_partOf_8 (by decide)
theorem sX6_partOf_11 : Snd MX6_partOf 11 (xLdI 13 4) := snd_iload (M := MX6_partOf) (pc := 11) dX6_partOf_11
theorem sX6_partOf_13 : Snd MX6_partOf 13 (xLdI 15 5) := snd_iload (M := MX6_partOf) (pc := 13) dX6_partOf_13
theorem sX6_partOf_15 : Snd MX6_partOf 15 (xDiv 16 f_irem) := snd_irem (M := MX6_partOf) (pc := 15) dX6_partOf_15
theorem sX6_partOf_16 : Snd MX6_partOf 16 (xStI 18 6) := snd_istore (M := MX6_partOf) (pc := 16) dX6_partOf_16 (by decide)
theorem sX6_partOf_18 : Snd MX6_partOf 18 (xLdI 20 5) := snd_iload (M := MX6_partOf) (pc := 18) dX6_partOf_18
theorem sX6_partOf_20 : Snd MX6_partOf 20 (xStI 22 4) := snd_istore (M := MX6_partOf) (pc := 20) dX6_partOf_20 (by decide)
theorem sX6_partOf_22 : Snd MX6_partOf 22 (xLdI 24 6) := snd_iload (M := MX6_partOf) (pc := 22) dX6_partOf_22
theorem sX6_partOf_24 : Snd MX6_partOf 24 (xStI 26 5) := snd_istore (M := MX6_partOf) (pc := 24) dX6_partOf_24 (by decide)
theorem sX6_partOf_26 : Snd MX6_partOf 26 (xGo 6) := snd_goto (M := MX6_partOf) (pc := 26) dX6_partOf_26 (by decide)
theorem sX6_partOf_29 : Snd MX6_partOf 29 (xLdI 30 3) := snd_iload_n (M := MX6_partOf) (pc := 29) dX6_partOf_29
theorem sX6_partOf_30 : Snd MX6_partOf 30 (xZ_ne 40 33) := snd_if_ne (M := MX6_partOf) (pc := 30) dX6_partOf_30 (by decide)
theorem sX6_partOf_33 : Snd MX6_partOf 33 (xLdI 34 1) := snd_iload_n (M := MX6_partOf) (pc := 33) dX6_partOf_33
theorem sX6_partOf_34 : Snd MX6_partOf 34 (xLdI 36 4) := snd_iload (M := MX6_partOf) (pc := 34) dX6_partOf_34
theorem sX6_partOf_36 : Snd MX6_partOf 36 (xDiv 37 f_idiv) := snd_idiv (M := MX6_partOf) (pc := 36) dX6_partOf_36
theorem sX6_partOf_37 : Snd MX6_partOf 37 (xGo 44) := snd_goto (M := MX6_partOf) (pc := 37) dX6_partOf_37 (by decide)
theorem sX6_partOf_40 : Snd MX6_partOf 40 (xLdI 41 2) := snd_iload_n (M := MX6_partOf) (pc := 40) dX6_partOf_40
theorem sX6_partOf_41 : Snd MX6_partOf 41 (xLdI 43 4) := snd_iload (M := MX6_partOf) (pc := 41) dX6_partOf_41
theorem sX6_partOf_43 : Snd MX6_partOf 43 (xDiv 44 f_idiv) := snd_idiv (M := MX6_partOf) (pc := 43) dX6_partOf_43
theorem sX6_partOf_44 : Snd MX6_partOf 44 (xRet) := snd_iret (M := MX6_partOf) (pc := 44) dX6_partOf_44 rfl
theorem VX6_partOf : Valid MX6_partOf LX6_partOf := va_lid sX6_partOf_0 (va_lid sX6_partOf_1 (va_lid sX6_partOf_3 (va_lid sX6_partOf_4 (va_lid sX6_partOf_6 (va_lid sX6_partOf_8 (va_lid sX6_partOf_11 (va_lid sX6_partOf_13 (va_lid sX6_partOf_15 (va_lid sX6_partOf_16 (va_lid sX6_partOf_18 (va_lid sX6_partOf_20 (va_lid sX6_partOf_22 (va_lid sX6_partOf_24 (va_lid sX6_partOf_26 (va_lid sX6_partOf_29 (va_lid sX6_partOf_30 (va_lid sX6_partOf_33 (va_lid sX6_partOf_34 (va_lid sX6_partOf_36 (va_lid sX6_partOf_37 (va_lid sX6_partOf_40 (va_lid sX6_partOf_41 (va_lid sX6_partOf_43 (va_lid sX6_partOf_44 (va_lid0)))))))))))))))))))))))))
theorem kX6_partOf_0 : lk LX6_partOf 0 = some (xLdI 1 1) := rfl
theorem kX6_partOf_1 : lk LX6_partOf 1 = some (xStI 3 4) := rfl
theorem kX6_partOf_3 : lk LX6_partOf 3 = some (xLdI 4 2) := rfl
theorem kX6_partOf_4 : lk LX6_partOf 4 = some (xStI 6 5) := rfl
theorem kX6_partOf_6 : lk LX6_partOf 6 = some (xLdI 8 5) := rfl
theorem kX6_partOf_8 : lk LX6_partOf 8 = some (xZ_eq 29 11) := rfl
theorem kX6_partOf_11 : lk LX6_partOf 11 = some (xLdI 13 4) := rfl
theorem kX6_partOf_13 : lk LX6_partOf 13 = some (xLdI 15 5) := rfl
theorem kX6_partOf_15 : lk LX6_partOf 15 = some (xDiv 16 f_irem) := rfl
theorem kX6_partOf_16 : lk LX6_partOf 16 = some (xStI 18 6) := rfl
theorem kX6_partOf_18 : lk LX6_partOf 18 = some (xLdI 20 5) := rfl
theorem kX6_partOf_20 : lk LX6_partOf 20 = some (xStI 22 4) := rfl
theorem kX6_partOf_22 : lk LX6_partOf 22 = some (xLdI 24 6) := rfl
theorem kX6_partOf_24 : lk LX6_partOf 24 = some (xStI 26 5) := rfl
theorem kX6_partOf_26 : lk LX6_partOf 26 = some (xGo 6) := rfl
theorem kX6_partOf_29 : lk LX6_partOf 29 = some (xLdI 30 3) := rfl
theorem kX6_partOf_30 : lk LX6_partOf 30 = some (xZ_ne 40 33) := rfl
theorem kX6_partOf_33 : lk LX6_partOf 33 = some (xLdI 34 1) := rfl
theorem kX6_partOf_34 : lk LX6_partOf 34 = some (xLdI 36 4) := rfl
theorem kX6_partOf_36 : lk LX6_partOf 36 = some (xDiv 37 f_idiv) := rfl
theorem kX6_partOf_37 : lk LX6_partOf 37 = some (xGo 44) := rfl
theorem kX6_partOf_40 : lk LX6_partOf 40 = some (xLdI 41 2) := rfl
theorem kX6_partOf_41 : lk LX6_partOf 41 = some (xLdI 43 4) := rfl
theorem kX6_partOf_43 : lk LX6_partOf 43 = some (xDiv 44 f_idiv) := rfl
theorem kX6_partOf_44 : lk LX6_partOf 44 = some (xRet) := rfl
def LX6_worthPart : List (Nat × XI) := [(0, xLdA 1 0),
  (1, xCallV MX6_likelyOfAll 6 0 4),
  (4, xStI 5 3),
  (5, xLdI 6 3),
  (6, xZ_ne 13 9),
  (9, xLdI 10 2),
  (10, xGo 24),
  (13, xLdA 14 0),
  (14, xLdA 15 0),
  (15, xLdI 16 1),
  (16, xCallV MX6_worthOf 6 1 19),
  (19, xLdI 20 3),
  (20, xLdI 21 2),
  (21, xCallV MX6_partOf 6 3 24),
  (24, xRet)]
theorem sX6_worthPart_0 : Snd MX6_worthPart 0 (xLdA 1 0) := snd_aload_n (M := MX6_worthPart) (pc := 0) dX6_worthPart_0
theorem sX6_worthPart_1 : Snd MX6_worthPart 1 (xCallV MX6_likelyOfAll 6 0 4) := snd_callV (M := MX6_worthPart) (pc := 1) (n := 0) dX6_worthPart_1 rfl w540 w541 w542 ⟨w462, w539, ⟨by decide, by decide, by decide +kernel⟩, by decide⟩ ⟨rfl, rfl⟩
theorem sX6_worthPart_4 : Snd MX6_worthPart 4 (xStI 5 3) := snd_istore_n (M := MX6_worthPart) (pc := 4) dX6_worthPart_4 (by decide)
theorem sX6_worthPart_5 : Snd MX6_worthPart 5 (xLdI 6 3) := snd_iload_n (M := MX6_worthPart) (pc := 5) dX6_worthPart_5
theorem sX6_worthPart_6 : Snd MX6_worthPart 6 (xZ_ne 13 9) := snd_if_ne (M := MX6_worthPart) (pc := 6) dX6_worthPart_6 (by decide)
theorem sX6_worthPart_9 : Snd MX6_worthPart 9 (xLdI 10 2) := snd_iload_n (M := MX6_worthPart) (pc := 9) dX6_worthPart_9
theorem sX6_worthPart_10 : Snd MX6_worthPart 10 (xGo 24) := snd_goto (M := MX6_worthPart) (pc := 10) dX6_worthPart_10 (by decide)
theorem sX6_worthPart_13 : Snd MX6_worthPart 13 (xLdA 14 0) := snd_aload_n (M := MX6_worthPart) (pc := 13) dX6_worthPart_13
theorem sX6_worthPart_14 : Snd MX6_worthPart 14 (xLdA 15 0) := snd_aload_n (M := MX6_worthPart) (pc := 14) dX6_worthPart_14
theorem sX6_worthPart_15 : Snd MX6_worthPart 15 (xLdI 16 1) := snd_iload_n (M := MX6_worthPart) (pc := 15) dX6_worthPart_15
theorem sX6_worthPart_16 : Snd MX6_worthPart 16 (xCallV MX6_worthOf 6 1 19) := snd_callV (M := MX6_worthPart) (pc := 16) (n := 1) dX6_worthPart_16 rfl w544 w545 w546 ⟨w462, w543, ⟨by decide, by decide, by decide +kernel⟩, by decide⟩ ⟨rfl, rfl⟩
theorem sX6_worthPart_19 : Snd MX6_worthPart 19 (xLdI 20 3) := snd_iload_n (M := MX6_worthPart) (pc := 19) dX6_worthPart_19
theorem sX6_worthPart_20 : Snd MX6_worthPart 20 (xLdI 21 2) := snd_iload_n (M := MX6_worthPart) (pc := 20) dX6_worthPart_20
theorem sX6_worthPart_21 : Snd MX6_worthPart 21 (xCallV MX6_partOf 6 3 24) := snd_callV (M := MX6_worthPart) (pc := 21) (n := 3) dX6_worthPart_21 rfl w548 w549 w550 ⟨w462, w547, ⟨by decide, by decide, by decide +kernel⟩, by decide⟩ ⟨rfl, rfl⟩
theorem sX6_worthPart_24 : Snd MX6_worthPart 24 (xRet) := snd_iret (M := MX6_worthPart) (pc := 24) dX6_worthPart_24 rfl
theorem VX6_worthPart : Valid MX6_worthPart LX6_worthPart := va_lid sX6_worthPart_0 (va_lid sX6_worthPart_1 (va_lid sX6_worthPart_4 (va_lid sX6_worthPart_5 (va_lid sX6_worthPart_6 (va_lid sX6_worthPart_9 (va_lid sX6_worthPart_10 (va_lid sX6_worthPart_13 (va_lid sX6_worthPart_14 (va_lid sX6_worthPart_15 (va_lid sX6_worthPart_16 (va_lid sX6_worthPart_19 (va_lid sX6_worthPart_20 (va_lid sX6_worthPart_21 (va_lid sX6_worthPart_24 (va_lid0)))))))))))))))
theorem kX6_worthPart_0 : lk LX6_worthPart 0 = some (xLdA 1 0) := rfl
theorem kX6_worthPart_1 : lk LX6_worthPart 1 = some (xCallV MX6_likelyOfAll 6 0 4) := rfl
theorem kX6_worthPart_4 : lk LX6_worthPart 4 = some (xStI 5 3) := rfl
theorem kX6_worthPart_5 : lk LX6_worthPart 5 = some (xLdI 6 3) := rfl
theorem kX6_worthPart_6 : lk LX6_worthPart 6 = some (xZ_ne 13 9) := rfl
theorem kX6_worthPart_9 : lk LX6_worthPart 9 = some (xLdI 10 2) := rfl
theorem kX6_worthPart_10 : lk LX6_worthPart 10 = some (xGo 24) := rfl
theorem kX6_worthPart_13 : lk LX6_worthPart 13 = some (xLdA 14 0) := rfl
theorem kX6_worthPart_14 : lk LX6_worthPart 14 = some (xLdA 15 0) := rfl
theorem kX6_worthPart_15 : lk LX6_worthPart 15 = some (xLdI 16 1) := rfl
theorem kX6_worthPart_16 : lk LX6_worthPart 16 = some (xCallV MX6_worthOf 6 1 19) := rfl
theorem kX6_worthPart_19 : lk LX6_worthPart 19 = some (xLdI 20 3) := rfl
theorem kX6_worthPart_20 : lk LX6_worthPart 20 = some (xLdI 21 2) := rfl
theorem kX6_worthPart_21 : lk LX6_worthPart 21 = some (xCallV MX6_partOf 6 3 24) := rfl
theorem kX6_worthPart_24 : lk LX6_worthPart 24 = some (xRet) := rfl
def LX6_canPut : List (Nat × XI) := [(0, xLdA 1 0),
  (1, xGf 4 6 0),
  (4, xLdI 5 1),
  (5, xK 6 (nI 2)),
  (6, xBin 7 f_iadd),
  (7, xiaload 8),
  (8, xLdI 9 2),
  (9, xCallS MX6_has 2 12),
  (12, xZ_ne 59 15),
  (15, xLdA 16 0),
  (16, xGf 19 6 8),
  (19, xLdI 20 2),
  (20, xiaload 21),
  (21, xLdA 22 0),
  (22, xGf 25 6 0),
  (25, xLdI 26 1),
  (26, xK 27 (nI 1)),
  (27, xBin 28 f_iadd),
  (28, xiaload 29),
  (29, xC_gt 59 32),
  (32, xLdA 33 0),
  (33, xLdA 34 0),
  (34, xGf 37 6 0),
  (37, xLdI 38 1),
  (38, xK 39 (nI 2)),
  (39, xBin 40 f_iadd),
  (40, xiaload 41),
  (41, xK 42 (nI 1)),
  (42, xLdI 43 2),
  (43, xBin 44 f_ishl),
  (44, xBin 45 f_ior),
  (45, xCallV MX6_roomOf 6 1 48),
  (48, xLdA 49 0),
  (49, xGf 52 6 3),
  (52, xC_gt 59 55),
  (55, xK 56 (nI 1)),
  (56, xGo 60),
  (59, xK 60 (nI 0)),
  (60, xRetZ)]
theorem sX6_canPut_0 : Snd MX6_canPut 0 (xLdA 1 0) := snd_aload_n (M := MX6_canPut) (pc := 0) dX6_canPut_0
theorem sX6_canPut_1 : Snd MX6_canPut 1 (xGf 4 6 0) := snd_gf (M := MX6_canPut) (pc := 1) (C0 := RX6) (T0 := TX6) (N := 32) dX6_canPut_1 rfl tbX6 (by decide) w444
theorem sX6_canPut_4 : Snd MX6_canPut 4 (xLdI 5 1) := snd_iload_n (M := MX6_canPut) (pc := 4) dX6_canPut_4
theorem sX6_canPut_5 : Snd MX6_canPut 5 (xK 6 (nI 2)) := snd_iconst (M := MX6_canPut) (pc := 5) dX6_canPut_5 (by decide +kernel)
theorem sX6_canPut_6 : Snd MX6_canPut 6 (xBin 7 f_iadd) := snd_iadd (M := MX6_canPut) (pc := 6) dX6_canPut_6
theorem sX6_canPut_7 : Snd MX6_canPut 7 (xiaload 8) := snd_iaload (M := MX6_canPut) (pc := 7) dX6_canPut_7
theorem sX6_canPut_8 : Snd MX6_canPut 8 (xLdI 9 2) := snd_iload_n (M := MX6_canPut) (pc := 8) dX6_canPut_8
theorem sX6_canPut_9 : Snd MX6_canPut 9 (xCallS MX6_has 2 12) := snd_callS (M := MX6_canPut) (pc := 9) (n := 2) dX6_canPut_9 w530 w531 ⟨w462, w529, ⟨by decide, by decide, by decide +kernel⟩, by decide⟩ ⟨rfl, rfl⟩
theorem sX6_canPut_12 : Snd MX6_canPut 12 (xZ_ne 59 15) := snd_if_ne (M := MX6_canPut) (pc := 12) dX6_canPut_12 (by decide)
theorem sX6_canPut_15 : Snd MX6_canPut 15 (xLdA 16 0) := snd_aload_n (M := MX6_canPut) (pc := 15) dX6_canPut_15
theorem sX6_canPut_16 : Snd MX6_canPut 16 (xGf 19 6 8) := snd_gf (M := MX6_canPut) (pc := 16) (C0 := RX6) (T0 := TX6) (N := 32) dX6_canPut_16 rfl tbX6 (by decide) w447
theorem sX6_canPut_19 : Snd MX6_canPut 19 (xLdI 20 2) := snd_iload_n (M := MX6_canPut) (pc := 19) dX6_canPut_19
theorem sX6_canPut_20 : Snd MX6_canPut 20 (xiaload 21) := snd_iaload (M := MX6_canPut) (pc := 20) dX6_canPut_20
theorem sX6_canPut_21 : Snd MX6_canPut 21 (xLdA 22 0) := snd_aload_n (M := MX6_canPut) (pc := 21) dX6_canPut_21
theorem sX6_canPut_22 : Snd MX6_canPut 22 (xGf 25 6 0) := snd_gf (M := MX6_canPut) (pc := 22) (C0 := RX6) (T0 := TX6) (N := 32) dX6_canPut_22 rfl tbX6 (by decide) w444
theorem sX6_canPut_25 : Snd MX6_canPut 25 (xLdI 26 1) := snd_iload_n (M := MX6_canPut) (pc := 25) dX6_canPut_25
theorem sX6_canPut_26 : Snd MX6_canPut 26 (xK 27 (nI 1)) := snd_iconst (M := MX6_canPut) (pc := 26) dX6_canPut_26 (by decide +kernel)
theorem sX6_canPut_27 : Snd MX6_canPut 27 (xBin 28 f_iadd) := snd_iadd (M := MX6_canPut) (pc := 27) dX6_canPut_27
theorem sX6_canPut_28 : Snd MX6_canPut 28 (xiaload 29) := snd_iaload (M := MX6_canPut) (pc := 28) dX6_canPut_28
theorem sX6_canPut_29 : Snd MX6_canPut 29 (xC_gt 59 32) := snd_icmp_gt (M := MX6_canPut) (pc := 29) dX6_canPut_29 (by decide)
theorem sX6_canPut_32 : Snd MX6_canPut 32 (xLdA 33 0) := snd_aload_n (M := MX6_canPut) (pc := 32) dX6_canPut_32
theorem sX6_canPut_33 : Snd MX6_canPut 33 (xLdA 34 0) := snd_aload_n (M := MX6_canPut) (pc := 33) dX6_canPut_33
theorem sX6_canPut_34 : Snd MX6_canPut 34 (xGf 37 6 0) := snd_gf (M := MX6_canPut) (pc := 34) (C0 := RX6) (T0 := TX6) (N := 32) dX6_canPut_34 rfl tbX6 (by decide) w444
theorem sX6_canPut_37 : Snd MX6_canPut 37 (xLdI 38 1) := snd_iload_n (M := MX6_canPut) (pc := 37) dX6_canPut_37
theorem sX6_canPut_38 : Snd MX6_canPut 38 (xK 39 (nI 2)) := snd_iconst (M := MX6_canPut) (pc := 38) dX6_canPut_38 (by decide +kernel)
theorem sX6_canPut_39 : Snd MX6_canPut 39 (xBin 40 f_iadd) := snd_iadd (M := MX6_canPut) (pc := 39) dX6_canPut_39
theorem sX6_canPut_40 : Snd MX6_canPut 40 (xiaload 41) := snd_iaload (M := MX6_canPut) (pc := 40) dX6_canPut_40
theorem sX6_canPut_41 : Snd MX6_canPut 41 (xK 42 (nI 1)) := snd_iconst (M := MX6_canPut) (pc := 41) dX6_canPut_41 (by decide +kernel)
theorem sX6_canPut_42 : Snd MX6_canPut 42 (xLdI 43 2) := snd_iload_n (M := MX6_canPut) (pc := 42) dX6_canPut_42
theorem sX6_canPut_43 : Snd MX6_canPut 43 (xBin 44 f_ishl) := snd_ishl (M := MX6_canPut) (pc := 43) dX6_canPut_43
theorem sX6_canPut_44 : Snd MX6_canPut 44 (xBin 45 f_ior) := snd_ior (M := MX6_canPut) (pc := 44) dX6_canPut_44
theorem sX6_canPut_45 : Snd MX6_canPut 45 (xCallV MX6_roomOf 6 1 48) := snd_callV (M := MX6_canPut) (pc := 45) (n := 1) dX6_canPut_45 rfl w552 w553 w554 ⟨w462, w551, ⟨by decide, by decide, by decide +kernel⟩, by decide⟩ ⟨rfl, rfl⟩
theorem sX6_canPut_48 : Snd MX6_canPut 48 (xLdA 49 0) := snd_aload_n (M := MX6_canPut) (pc := 48) dX6_canPut_48
theorem sX6_canPut_49 : Snd MX6_canPut 49 (xGf 52 6 3) := snd_gf (M := MX6_canPut) (pc := 49) (C0 := RX6) (T0 := TX6) (N := 32) dX6_canPut_49 rfl tbX6 (by decide) w482
theorem sX6_canPut_52 : Snd MX6_canPut 52 (xC_gt 59 55) := snd_icmp_gt (M := MX6_canPut) (pc := 52) dX6_canPut_52 (by decide)
theorem sX6_canPut_55 : Snd MX6_canPut 55 (xK 56 (nI 1)) := snd_iconst (M := MX6_canPut) (pc := 55) dX6_canPut_55 (by decide +kernel)
theorem sX6_canPut_56 : Snd MX6_canPut 56 (xGo 60) := snd_goto (M := MX6_canPut) (pc := 56) dX6_canPut_56 (by decide)
theorem sX6_canPut_59 : Snd MX6_canPut 59 (xK 60 (nI 0)) := snd_iconst (M := MX6_canPut) (pc := 59) dX6_canPut_59 (by decide +kernel)
theorem sX6_canPut_60 : Snd MX6_canPut 60 (xRetZ) := snd_zret (M := MX6_canPut) (pc := 60) dX6_canPut_60 rfl
theorem VX6_canPut : Valid MX6_canPut LX6_canPut := va_lid sX6_canPut_0 (va_lid sX6_canPut_1 (va_lid sX6_canPut_4 (va_lid sX6_canPut_5 (va_lid sX6_canPut_6 (va_lid sX6_canPut_7 (va_lid sX6_canPut_8 (va_lid sX6_canPut_9 (va_lid sX6_canPut_12 (va_lid sX6_canPut_15 (va_lid sX6_canPut_16 (va_lid sX6_canPut_19 (va_lid sX6_canPut_20 (va_lid sX6_canPut_21 (va_lid sX6_canPut_22 (va_lid sX6_canPut_25 (va_lid sX6_canPut_26 (va_lid sX6_canPut_27 (va_lid sX6_canPut_28 (va_lid sX6_canPut_29 (va_lid sX6_canPut_32 (va_lid sX6_canPut_33 (va_lid sX6_canPut_34 (va_lid sX6_canPut_37 (va_lid sX6_canPut_38 (va_lid sX6_canPut_39 (va_lid sX6_canPut_40 (va_lid sX6_canPut_41 (va_lid sX6_canPut_42 (va_lid sX6_canPut_43 (va_lid sX6_canPut_44 (va_lid sX6_canPut_45 (va_lid sX6_canPut_48 (va_lid sX6_canPut_49 (va_lid sX6_canPut_52 (va_lid sX6_canPut_55 (va_lid sX6_canPut_56 (va_lid sX6_canPut_59 (va_lid sX6_canPut_60 (va_lid0)))))))))))))))))))))))))))))))))))))))
theorem kX6_canPut_0 : lk LX6_canPut 0 = some (xLdA 1 0) := rfl
theorem kX6_canPut_1 : lk LX6_canPut 1 = some (xGf 4 6 0) := rfl
theorem kX6_canPut_4 : lk LX6_canPut 4 = some (xLdI 5 1) := rfl
theorem kX6_canPut_5 : lk LX6_canPut 5 = some (xK 6 (nI 2)) := rfl
theorem kX6_canPut_6 : lk LX6_canPut 6 = some (xBin 7 f_iadd) := rfl
theorem kX6_canPut_7 : lk LX6_canPut 7 = some (xiaload 8) := rfl
theorem kX6_canPut_8 : lk LX6_canPut 8 = some (xLdI 9 2) := rfl
theorem kX6_canPut_9 : lk LX6_canPut 9 = some (xCallS MX6_has 2 12) := rfl
theorem kX6_canPut_12 : lk LX6_canPut 12 = some (xZ_ne 59 15) := rfl
theorem kX6_canPut_15 : lk LX6_canPut 15 = some (xLdA 16 0) := rfl
theorem kX6_canPut_16 : lk LX6_canPut 16 = some (xGf 19 6 8) := rfl
theorem kX6_canPut_19 : lk LX6_canPut 19 = some (xLdI 20 2) := rfl
theorem kX6_canPut_20 : lk LX6_canPut 20 = some (xiaload 21) := rfl
theorem kX6_canPut_21 : lk LX6_canPut 21 = some (xLdA 22 0) := rfl
theorem kX6_canPut_22 : lk LX6_canPut 22 = some (xGf 25 6 0) := rfl
theorem kX6_canPut_25 : lk LX6_canPut 25 = some (xLdI 26 1) := rfl
theorem kX6_canPut_26 : lk LX6_canPut 26 = some (xK 27 (nI 1)) := rfl
theorem kX6_canPut_27 : lk LX6_canPut 27 = some (xBin 28 f_iadd) := rfl
theorem kX6_canPut_28 : lk LX6_canPut 28 = some (xiaload 29) := rfl
theorem kX6_canPut_29 : lk LX6_canPut 29 = some (xC_gt 59 32) := rfl
theorem kX6_canPut_32 : lk LX6_canPut 32 = some (xLdA 33 0) := rfl
theorem kX6_canPut_33 : lk LX6_canPut 33 = some (xLdA 34 0) := rfl
theorem kX6_canPut_34 : lk LX6_canPut 34 = some (xGf 37 6 0) := rfl
theorem kX6_canPut_37 : lk LX6_canPut 37 = some (xLdI 38 1) := rfl
theorem kX6_canPut_38 : lk LX6_canPut 38 = some (xK 39 (nI 2)) := rfl
theorem kX6_canPut_39 : lk LX6_canPut 39 = some (xBin 40 f_iadd) := rfl
theorem kX6_canPut_40 : lk LX6_canPut 40 = some (xiaload 41) := rfl
theorem kX6_canPut_41 : lk LX6_canPut 41 = some (xK 42 (nI 1)) := rfl
theorem kX6_canPut_42 : lk LX6_canPut 42 = some (xLdI 43 2) := rfl
theorem kX6_canPut_43 : lk LX6_canPut 43 = some (xBin 44 f_ishl) := rfl
theorem kX6_canPut_44 : lk LX6_canPut 44 = some (xBin 45 f_ior) := rfl
theorem kX6_canPut_45 : lk LX6_canPut 45 = some (xCallV MX6_roomOf 6 1 48) := rfl
theorem kX6_canPut_48 : lk LX6_canPut 48 = some (xLdA 49 0) := rfl
theorem kX6_canPut_49 : lk LX6_canPut 49 = some (xGf 52 6 3) := rfl
theorem kX6_canPut_52 : lk LX6_canPut 52 = some (xC_gt 59 55) := rfl
theorem kX6_canPut_55 : lk LX6_canPut 55 = some (xK 56 (nI 1)) := rfl
theorem kX6_canPut_56 : lk LX6_canPut 56 = some (xGo 60) := rfl
theorem kX6_canPut_59 : lk LX6_canPut 59 = some (xK 60 (nI 0)) := rfl
theorem kX6_canPut_60 : lk LX6_canPut 60 = some (xRetZ) := rfl
def LX6_linenOf : List (Nat × XI) := [(0, xK 1 (nI 0)),
  (1, xStI 2 3),
  (2, xK 3 (nI 0)),
  (3, xStI 5 4),
  (5, xLdI 7 4),
  (7, xLdA 8 0),
  (8, xGf 11 6 5),
  (11, xC_ge 58 14),
  (14, xLdI 15 3),
  (15, xLdA 16 0),
  (16, xGf 19 6 6),
  (19, xLdI 21 4),
  (21, xiaload 22),
  (22, xK 23 (nI 2)),
  (23, xC_ne 49 26),
  (26, xLdA 27 0),
  (27, xGf 30 6 13),
  (30, xLdI 31 1),
  (31, xiaload 32),
  (32, xLdI 33 2),
  (33, xBin 34 f_iand),
  (34, xLdI 36 4),
  (36, xCallS MX6_has 2 39),
  (39, xZ_eq 49 42),
  (42, xK 43 (nI 1)),
  (43, xLdI 45 4),
  (45, xBin 46 f_ishl),
  (46, xGo 50),
  (49, xK 50 (nI 0)),
  (50, xBin 51 f_ior),
  (51, xStI 52 3),
  (52, xInc 55 4 (nI 1)),
  (55, xGo 5),
  (58, xLdI 59 3),
  (59, xRet)]
theorem sX6_linenOf_0 : Snd MX6_linenOf 0 (xK 1 (nI 0)) := snd_iconst (M := MX6_linenOf) (pc := 0) dX6_linenOf_0 (by decide +kernel)
theorem sX6_linenOf_1 : Snd MX6_linenOf 1 (xStI 2 3) := snd_istore_n (M := MX6_linenOf) (pc := 1) dX6_linenOf_1 (by decide)
theorem sX6_linenOf_2 : Snd MX6_linenOf 2 (xK 3 (nI 0)) := snd_iconst (M := MX6_linenOf) (pc := 2) dX6_linenOf_2 (by decide +kernel)
theorem sX6_linenOf_3 : Snd MX6_linenOf 3 (xStI 5 4) := snd_istore (M := MX6_linenOf) (pc := 3) dX6_linenOf_3 (by decide)
theorem sX6_linenOf_5 : Snd MX6_linenOf 5 (xLdI 7 4) := snd_iload (M := MX6_linenOf) (pc := 5) dX6_linenOf_5
theorem sX6_linenOf_7 : Snd MX6_linenOf 7 (xLdA 8 0) := snd_aload_n (M := MX6_linenOf) (pc := 7) dX6_linenOf_7
theorem sX6_linenOf_8 : Snd MX6_linenOf 8 (xGf 11 6 5) := snd_gf (M := MX6_linenOf) (pc := 8) (C0 := RX6) (T0 := TX6) (N := 32) dX6_linenOf_8 rfl tbX6 (by decide) w475
theorem sX6_linenOf_11 : Snd MX6_linenOf 11 (xC_ge 58 14) := snd_icmp_ge (M := MX6_linenOf) (pc := 11) dX6_linenOf_11 (by decide)
theorem sX6_linenOf_14 : Snd MX6_linenOf 14 (xLdI 15 3) := snd_iload_n (M := MX6_linenOf) (pc := 14) dX6_linenOf_14
theorem sX6_linenOf_15 : Snd MX6_linenOf 15 (xLdA 16 0) := snd_aload_n (M := MX6_linenOf) (pc := 15) dX6_linenOf_15
theorem sX6_linenOf_16 : Snd MX6_linenOf 16 (xGf 19 6 6) := snd_gf (M := MX6_linenOf) (pc := 16) (C0 := RX6) (T0 := TX6) (N := 32) dX6_linenOf_16 rfl tbX6 (by decide) w445
theorem sX6_linenOf_19 : Snd MX6_linenOf 19 (xLdI 21 4) := snd_iload (M := MX6_linenOf) (pc := 19) dX6_linenOf_19
theorem sX6_linenOf_21 : Snd MX6_linenOf 21 (xiaload 22) := snd_iaload (M := MX6_linenOf) (pc := 21) dX6_linenOf_21
theorem sX6_linenOf_22 : Snd MX6_linenOf 22 (xK 23 (nI 2)) := snd_iconst (M := MX6_linenOf) (pc := 22) dX6_linenOf_22 (by decide +kernel)
theorem sX6_linenOf_23 : Snd MX6_linenOf 23 (xC_ne 49 26) := snd_icmp_ne (M := MX6_linenOf) (pc := 23) dX6_linenOf_23 (by decide)
theorem sX6_linenOf_26 : Snd MX6_linenOf 26 (xLdA 27 0) := snd_aload_n (M := MX6_linenOf) (pc := 26) dX6_linenOf_26
theorem sX6_linenOf_27 : Snd MX6_linenOf 27 (xGf 30 6 13) := snd_gf (M := MX6_linenOf) (pc := 27) (C0 := RX6) (T0 := TX6) (N := 32) dX6_linenOf_27 rfl tbX6 (by decide) w451
theorem sX6_linenOf_30 : Snd MX6_linenOf 30 (xLdI 31 1) := snd_iload_n (M := MX6_linenOf) (pc := 30) dX6_linenOf_30
theorem sX6_linenOf_31 : Snd MX6_linenOf 31 (xiaload 32) := snd_iaload (M := MX6_linenOf) (pc := 31) dX6_linenOf_31
theorem sX6_linenOf_32 : Snd MX6_linenOf 32 (xLdI 33 2) := snd_iload_n (M := MX6_linenOf) (pc := 32) dX6_linenOf_32
theorem sX6_linenOf_33 : Snd MX6_linenOf 33 (xBin 34 f_iand) := snd_iand (M := MX6_linenOf) (pc := 33) dX6_linenOf_33
theorem sX6_linenOf_34 : Snd MX6_linenOf 34 (xLdI 36 4) := snd_iload (M := MX6_linenOf) (pc := 34) dX6_linenOf_34
theorem sX6_linenOf_36 : Snd MX6_linenOf 36 (xCallS MX6_has 2 39) := snd_callS (M := MX6_linenOf) (pc := 36) (n := 2) dX6_linenOf_36 w530 w531 ⟨w462, w529, ⟨by decide, by decide, by decide +kernel⟩, by decide⟩ ⟨rfl, rfl⟩
theorem sX6_linenOf_39 : Snd MX6_linenOf 39 (xZ_eq 49 42) := snd_if_eq (M := MX6_linenOf) (pc := 39) dX6_linenOf_39 (by decide)
theorem sX6_linenOf_42 : Snd MX6_linenOf 42 (xK 43 (nI 1)) := snd_iconst (M := MX6_linenOf) (pc := 42) dX6_linenOf_42 (by decide +kernel)
theorem sX6_linenOf_43 : Snd MX6_linenOf 43 (xLdI 45 4) := snd_iload (M := MX6_linenOf) (pc := 43) dX6_linenOf_43
theorem sX6_linenOf_45 : Snd MX6_linenOf 45 (xBin 46 f_ishl) := snd_ishl (M := MX6_linenOf) (pc := 45) dX6_linenOf_45
theorem sX6_linenOf_46 : Snd MX6_linenOf 46 (xGo 50) := snd_goto (M := MX6_linenOf) (pc := 46) dX6_linenOf_46 (by decide)
theorem sX6_linenOf_49 : Snd MX6_linenOf 49 (xK 50 (nI 0)) := snd_iconst (M := MX6_linenOf) (pc := 49) dX6_linenOf_49 (by decide +kernel)
theorem sX6_linenOf_50 : Snd MX6_linenOf 50 (xBin 51 f_ior) := snd_ior (M := MX6_linenOf) (pc := 50) dX6_linenOf_50
theorem sX6_linenOf_51 : Snd MX6_linenOf 51 (xStI 52 3) := snd_istore_n (M := MX6_linenOf) (pc := 51) dX6_linenOf_51 (by decide)
theorem sX6_linenOf_52 : Snd MX6_linenOf 52 (xInc 55 4 (nI 1)) := snd_iinc (M := MX6_linenOf) (pc := 52) dX6_linenOf_52 (by decide +kernel) (by decide)
theorem sX6_linenOf_55 : Snd MX6_linenOf 55 (xGo 5) := snd_goto (M := MX6_linenOf) (pc := 55) dX6_linenOf_55 (by decide)
theorem sX6_linenOf_58 : Snd MX6_linenOf 58 (xLdI 59 3) := snd_iload_n (M := MX6_linenOf) (pc := 58) dX6_linenOf_58
theorem sX6_linenOf_59 : Snd MX6_linenOf 59 (xRet) := snd_iret (M := MX6_linenOf) (pc := 59) dX6_linenOf_59 rfl
theorem VX6_linenOf : Valid MX6_linenOf LX6_linenOf := va_lid sX6_linenOf_0 (va_lid sX6_linenOf_1 (va_lid sX6_linenOf_2 (va_lid sX6_linenOf_3 (va_lid sX6_linenOf_5 (va_lid sX6_linenOf_7 (va_lid sX6_linenOf_8 (va_lid sX6_linenOf_11 (va_lid sX6_linenOf_14 (va_lid sX6_linenOf_15 (va_lid sX6_linenOf_16 (va_lid sX6_linenOf_19 (va_lid sX6_linenOf_21 (va_lid sX6_linenOf_22 (va_lid sX6_linenOf_23 (va_lid sX6_linenOf_26 (va_lid sX6_linenOf_27 (va_lid sX6_linenOf_30 (va_lid sX6_linenOf_31 (va_lid sX6_linenOf_32 (va_lid sX6_linenOf_33 (va_lid sX6_linenOf_34 (va_lid sX6_linenOf_36 (va_lid sX6_linenOf_39 (va_lid sX6_linenOf_42 (va_lid sX6_linenOf_43 (va_lid sX6_linenOf_45 (va_lid sX6_linenOf_46 (va_lid sX6_linenOf_49 (va_lid sX6_linenOf_50 (va_lid sX6_linenOf_51 (va_lid sX6_linenOf_52 (va_lid sX6_linenOf_55 (va_lid sX6_linenOf_58 (va_lid sX6_linenOf_59 (va_lid0)))))))))))))))))))))))))))))))))))
theorem kX6_linenOf_0 : lk LX6_linenOf 0 = some (xK 1 (nI 0)) := rfl
theorem kX6_linenOf_1 : lk LX6_linenOf 1 = some (xStI 2 3) := rfl
theorem kX6_linenOf_2 : lk LX6_linenOf 2 = some (xK 3 (nI 0)) := rfl
theorem kX6_linenOf_3 : lk LX6_linenOf 3 = some (xStI 5 4) := rfl
theorem kX6_linenOf_5 : lk LX6_linenOf 5 = some (xLdI 7 4) := rfl
theorem kX6_linenOf_7 : lk LX6_linenOf 7 = some (xLdA 8 0) := rfl
theorem kX6_linenOf_8 : lk LX6_linenOf 8 = some (xGf 11 6 5) := rfl
theorem kX6_linenOf_11 : lk LX6_linenOf 11 = some (xC_ge 58 14) := rfl
theorem kX6_linenOf_14 : lk LX6_linenOf 14 = some (xLdI 15 3) := rfl
theorem kX6_linenOf_15 : lk LX6_linenOf 15 = some (xLdA 16 0) := rfl
theorem kX6_linenOf_16 : lk LX6_linenOf 16 = some (xGf 19 6 6) := rfl
theorem kX6_linenOf_19 : lk LX6_linenOf 19 = some (xLdI 21 4) := rfl
theorem kX6_linenOf_21 : lk LX6_linenOf 21 = some (xiaload 22) := rfl
theorem kX6_linenOf_22 : lk LX6_linenOf 22 = some (xK 23 (nI 2)) := rfl
theorem kX6_linenOf_23 : lk LX6_linenOf 23 = some (xC_ne 49 26) := rfl
theorem kX6_linenOf_26 : lk LX6_linenOf 26 = some (xLdA 27 0) := rfl
theorem kX6_linenOf_27 : lk LX6_linenOf 27 = some (xGf 30 6 13) := rfl
theorem kX6_linenOf_30 : lk LX6_linenOf 30 = some (xLdI 31 1) := rfl
theorem kX6_linenOf_31 : lk LX6_linenOf 31 = some (xiaload 32) := rfl
theorem kX6_linenOf_32 : lk LX6_linenOf 32 = some (xLdI 33 2) := rfl
theorem kX6_linenOf_33 : lk LX6_linenOf 33 = some (xBin 34 f_iand) := rfl
theorem kX6_linenOf_34 : lk LX6_linenOf 34 = some (xLdI 36 4) := rfl
theorem kX6_linenOf_36 : lk LX6_linenOf 36 = some (xCallS MX6_has 2 39) := rfl
theorem kX6_linenOf_39 : lk LX6_linenOf 39 = some (xZ_eq 49 42) := rfl
theorem kX6_linenOf_42 : lk LX6_linenOf 42 = some (xK 43 (nI 1)) := rfl
theorem kX6_linenOf_43 : lk LX6_linenOf 43 = some (xLdI 45 4) := rfl
theorem kX6_linenOf_45 : lk LX6_linenOf 45 = some (xBin 46 f_ishl) := rfl
theorem kX6_linenOf_46 : lk LX6_linenOf 46 = some (xGo 50) := rfl
theorem kX6_linenOf_49 : lk LX6_linenOf 49 = some (xK 50 (nI 0)) := rfl
theorem kX6_linenOf_50 : lk LX6_linenOf 50 = some (xBin 51 f_ior) := rfl
theorem kX6_linenOf_51 : lk LX6_linenOf 51 = some (xStI 52 3) := rfl
theorem kX6_linenOf_52 : lk LX6_linenOf 52 = some (xInc 55 4 (nI 1)) := rfl
theorem kX6_linenOf_55 : lk LX6_linenOf 55 = some (xGo 5) := rfl
theorem kX6_linenOf_58 : lk LX6_linenOf 58 = some (xLdI 59 3) := rfl
theorem kX6_linenOf_59 : lk LX6_linenOf 59 = some (xRet) := rfl
def LX6_canLive : List (Nat × XI) := [(0, xLdA 1 0),
  (1, xGf 4 6 0),
  (4, xLdI 5 1),
  (5, xK 6 (nI 3)),
  (6, xBin 7 f_iadd),
  (7, xiaload 8),
  (8, xLdI 9 2),
  (9, xCallS MX6_has 2 12),
  (12, xZ_ne 35 15),
  (15, xLdA 16 0),
  (16, xLdI 17 2),
  (17, xLdA 18 0),
  (18, xGf 21 6 0),
  (21, xLdI 22 1),
  (22, xK 23 (nI 2)),
  (23, xBin 24 f_iadd),
  (24, xiaload 25),
  (25, xCallV MX6_canBy 6 2 28),
  (28, xZ_eq 35 31),
  (31, xK 32 (nI 1)),
  (32, xGo 36),
  (35, xK 36 (nI 0)),
  (36, xRetZ)]
theorem sX6_canLive_0 : Snd MX6_canLive 0 (xLdA 1 0) := snd_aload_n (M := MX6_canLive) (pc := 0) dX6_canLive_0
theorem sX6_canLive_1 : Snd MX6_canLive 1 (xGf 4 6 0) := snd_gf (M := MX6_canLive) (pc := 1) (C0 := RX6) (T0 := TX6) (N := 32) dX6_canLive_1 rfl tbX6 (by decide) w444
theorem sX6_canLive_4 : Snd MX6_canLive 4 (xLdI 5 1) := snd_iload_n (M := MX6_canLive) (pc := 4) dX6_canLive_4
theorem sX6_canLive_5 : Snd MX6_canLive 5 (xK 6 (nI 3)) := snd_iconst (M := MX6_canLive) (pc := 5) dX6_canLive_5 (by decide +kernel)
theorem sX6_canLive_6 : Snd MX6_canLive 6 (xBin 7 f_iadd) := snd_iadd (M := MX6_canLive) (pc := 6) dX6_canLive_6
theorem sX6_canLive_7 : Snd MX6_canLive 7 (xiaload 8) := snd_iaload (M := MX6_canLive) (pc := 7) dX6_canLive_7
theorem sX6_canLive_8 : Snd MX6_canLive 8 (xLdI 9 2) := snd_iload_n (M := MX6_canLive) (pc := 8) dX6_canLive_8
theorem sX6_canLive_9 : Snd MX6_canLive 9 (xCallS MX6_has 2 12) := snd_callS (M := MX6_canLive) (pc := 9) (n := 2) dX6_canLive_9 w530 w531 ⟨w462, w529, ⟨by decide, by decide, by decide +kernel⟩, by decide⟩ ⟨rfl, rfl⟩
theorem sX6_canLive_12 : Snd MX6_canLive 12 (xZ_ne 35 15) := snd_if_ne (M := MX6_canLive) (pc := 12) dX6_canLive_12 (by decide)
theorem sX6_canLive_15 : Snd MX6_canLive 15 (xLdA 16 0) := snd_aload_n (M := MX6_canLive) (pc := 15) dX6_canLive_15
theorem sX6_canLive_16 : Snd MX6_canLive 16 (xLdI 17 2) := snd_iload_n (M := MX6_canLive) (pc := 16) dX6_canLive_16
theorem sX6_canLive_17 : Snd MX6_canLive 17 (xLdA 18 0) := snd_aload_n (M := MX6_canLive) (pc := 17) dX6_canLive_17
theorem sX6_canLive_18 : Snd MX6_canLive 18 (xGf 21 6 0) := snd_gf (M := MX6_canLive) (pc := 18) (C0 := RX6) (T0 := TX6) (N := 32) dX6_canLive_18 rfl tbX6 (by decide) w444
theorem sX6_canLive_21 : Snd MX6_canLive 21 (xLdI 22 1) := snd_iload_n (M := MX6_canLive) (pc := 21) dX6_canLive_21
theorem sX6_canLive_22 : Snd MX6_canLive 22 (xK 23 (nI 2)) := snd_iconst (M := MX6_canLive) (pc := 22) dX6_canLive_22 (by decide +kernel)
theorem sX6_canLive_23 : Snd MX6_canLive 23 (xBin 24 f_iadd) := snd_iadd (M := MX6_canLive) (pc := 23) dX6_canLive_23
theorem sX6_canLive_24 : Snd MX6_canLive 24 (xiaload 25) := snd_iaload (M := MX6_canLive) (pc := 24) dX6_canLive_24
theorem sX6_canLive_25 : Snd MX6_canLive 25 (xCallV MX6_canBy 6 2 28) := snd_callV (M := MX6_canLive) (pc := 25) (n := 2) dX6_canLive_25 rfl w536 w537 w538 ⟨w462, w535, ⟨by decide, by decide, by decide +kernel⟩, by decide⟩ ⟨rfl, rfl⟩
theorem sX6_canLive_28 : Snd MX6_canLive 28 (xZ_eq 35 31) := snd_if_eq (M := MX6_canLive) (pc := 28) dX6_canLive_28 (by decide)
theorem sX6_canLive_31 : Snd MX6_canLive 31 (xK 32 (nI 1)) := snd_iconst (M := MX6_canLive) (pc := 31) dX6_canLive_31 (by decide +kernel)
theorem sX6_canLive_32 : Snd MX6_canLive 32 (xGo 36) := snd_goto (M := MX6_canLive) (pc := 32) dX6_canLive_32 (by decide)
theorem sX6_canLive_35 : Snd MX6_canLive 35 (xK 36 (nI 0)) := snd_iconst (M := MX6_canLive) (pc := 35) dX6_canLive_35 (by decide +kernel)
theorem sX6_canLive_36 : Snd MX6_canLive 36 (xRetZ) := snd_zret (M := MX6_canLive) (pc := 36) dX6_canLive_36 rfl
theorem VX6_canLive : Valid MX6_canLive LX6_canLive := va_lid sX6_canLive_0 (va_lid sX6_canLive_1 (va_lid sX6_canLive_4 (va_lid sX6_canLive_5 (va_lid sX6_canLive_6 (va_lid sX6_canLive_7 (va_lid sX6_canLive_8 (va_lid sX6_canLive_9 (va_lid sX6_canLive_12 (va_lid sX6_canLive_15 (va_lid sX6_canLive_16 (va_lid sX6_canLive_17 (va_lid sX6_canLive_18 (va_lid sX6_canLive_21 (va_lid sX6_canLive_22 (va_lid sX6_canLive_23 (va_lid sX6_canLive_24 (va_lid sX6_canLive_25 (va_lid sX6_canLive_28 (va_lid sX6_canLive_31 (va_lid sX6_canLive_32 (va_lid sX6_canLive_35 (va_lid sX6_canLive_36 (va_lid0)))))))))))))))))))))))
theorem kX6_canLive_0 : lk LX6_canLive 0 = some (xLdA 1 0) := rfl
theorem kX6_canLive_1 : lk LX6_canLive 1 = some (xGf 4 6 0) := rfl
theorem kX6_canLive_4 : lk LX6_canLive 4 = some (xLdI 5 1) := rfl
theorem kX6_canLive_5 : lk LX6_canLive 5 = some (xK 6 (nI 3)) := rfl
theorem kX6_canLive_6 : lk LX6_canLive 6 = some (xBin 7 f_iadd) := rfl
theorem kX6_canLive_7 : lk LX6_canLive 7 = some (xiaload 8) := rfl
theorem kX6_canLive_8 : lk LX6_canLive 8 = some (xLdI 9 2) := rfl
theorem kX6_canLive_9 : lk LX6_canLive 9 = some (xCallS MX6_has 2 12) := rfl
theorem kX6_canLive_12 : lk LX6_canLive 12 = some (xZ_ne 35 15) := rfl
theorem kX6_canLive_15 : lk LX6_canLive 15 = some (xLdA 16 0) := rfl
theorem kX6_canLive_16 : lk LX6_canLive 16 = some (xLdI 17 2) := rfl
theorem kX6_canLive_17 : lk LX6_canLive 17 = some (xLdA 18 0) := rfl
theorem kX6_canLive_18 : lk LX6_canLive 18 = some (xGf 21 6 0) := rfl
theorem kX6_canLive_21 : lk LX6_canLive 21 = some (xLdI 22 1) := rfl
theorem kX6_canLive_22 : lk LX6_canLive 22 = some (xK 23 (nI 2)) := rfl
theorem kX6_canLive_23 : lk LX6_canLive 23 = some (xBin 24 f_iadd) := rfl
theorem kX6_canLive_24 : lk LX6_canLive 24 = some (xiaload 25) := rfl
theorem kX6_canLive_25 : lk LX6_canLive 25 = some (xCallV MX6_canBy 6 2 28) := rfl
theorem kX6_canLive_28 : lk LX6_canLive 28 = some (xZ_eq 35 31) := rfl
theorem kX6_canLive_31 : lk LX6_canLive 31 = some (xK 32 (nI 1)) := rfl
theorem kX6_canLive_32 : lk LX6_canLive 32 = some (xGo 36) := rfl
theorem kX6_canLive_35 : lk LX6_canLive 35 = some (xK 36 (nI 0)) := rfl
theorem kX6_canLive_36 : lk LX6_canLive 36 = some (xRetZ) := rfl
def LX6_puts : List (Nat × XI) := [(0, xLdA 1 0),
  (1, xGf 4 6 0),
  (4, xLdI 5 1),
  (5, xK 6 (nI 2)),
  (6, xBin 7 f_iadd),
  (7, xDup2 8),
  (8, xiaload 9),
  (9, xK 10 (nI 1)),
  (10, xLdI 11 2),
  (11, xBin 12 f_ishl),
  (12, xBin 13 f_ior),
  (13, xiastore 14),
  (14, xLdA 15 0),
  (15, xGf 18 6 0),
  (18, xLdI 19 1),
  (19, xK 20 (nI 1)),
  (20, xBin 21 f_iadd),
  (21, xDup2 22),
  (22, xiaload 23),
  (23, xLdA 24 0),
  (24, xGf 27 6 8),
  (27, xLdI 28 2),
  (28, xiaload 29),
  (29, xBin 30 f_isub),
  (30, xiastore 31),
  (31, xRetV)]
theorem sX6_puts_0 : Snd MX6_puts 0 (xLdA 1 0) := snd_aload_n (M := MX6_puts) (pc := 0) dX6_puts_0
theorem sX6_puts_1 : Snd MX6_puts 1 (xGf 4 6 0) := snd_gf (M := MX6_puts) (pc := 1) (C0 := RX6) (T0 := TX6) (N := 32) dX6_puts_1 rfl tbX6 (by decide) w444
theorem sX6_puts_4 : Snd MX6_puts 4 (xLdI 5 1) := snd_iload_n (M := MX6_puts) (pc := 4) dX6_puts_4
theorem sX6_puts_5 : Snd MX6_puts 5 (xK 6 (nI 2)) := snd_iconst (M := MX6_puts) (pc := 5) dX6_puts_5 (by decide +kernel)
theorem sX6_puts_6 : Snd MX6_puts 6 (xBin 7 f_iadd) := snd_iadd (M := MX6_puts) (pc := 6) dX6_puts_6
theorem sX6_puts_7 : Snd MX6_puts 7 (xDup2 8) := snd_dup2 (M := MX6_puts) (pc := 7) dX6_puts_7
theorem sX6_puts_8 : Snd MX6_puts 8 (xiaload 9) := snd_iaload (M := MX6_puts) (pc := 8) dX6_puts_8
theorem sX6_puts_9 : Snd MX6_puts 9 (xK 10 (nI 1)) := snd_iconst (M := MX6_puts) (pc := 9) dX6_puts_9 (by decide +kernel)
theorem sX6_puts_10 : Snd MX6_puts 10 (xLdI 11 2) := snd_iload_n (M := MX6_puts) (pc := 10) dX6_puts_10
theorem sX6_puts_11 : Snd MX6_puts 11 (xBin 12 f_ishl) := snd_ishl (M := MX6_puts) (pc := 11) dX6_puts_11
theorem sX6_puts_12 : Snd MX6_puts 12 (xBin 13 f_ior) := snd_ior (M := MX6_puts) (pc := 12) dX6_puts_12
theorem sX6_puts_13 : Snd MX6_puts 13 (xiastore 14) := snd_iastore (M := MX6_puts) (pc := 13) dX6_puts_13
theorem sX6_puts_14 : Snd MX6_puts 14 (xLdA 15 0) := snd_aload_n (M := MX6_puts) (pc := 14) dX6_puts_14
theorem sX6_puts_15 : Snd MX6_puts 15 (xGf 18 6 0) := snd_gf (M := MX6_puts) (pc := 15) (C0 := RX6) (T0 := TX6) (N := 32) dX6_puts_15 rfl tbX6 (by decide) w444
theorem sX6_puts_18 : Snd MX6_puts 18 (xLdI 19 1) := snd_iload_n (M := MX6_puts) (pc := 18) dX6_puts_18
theorem sX6_puts_19 : Snd MX6_puts 19 (xK 20 (nI 1)) := snd_iconst (M := MX6_puts) (pc := 19) dX6_puts_19 (by decide +kernel)
theorem sX6_puts_20 : Snd MX6_puts 20 (xBin 21 f_iadd) := snd_iadd (M := MX6_puts) (pc := 20) dX6_puts_20
theorem sX6_puts_21 : Snd MX6_puts 21 (xDup2 22) := snd_dup2 (M := MX6_puts) (pc := 21) dX6_puts_21
theorem sX6_puts_22 : Snd MX6_puts 22 (xiaload 23) := snd_iaload (M := MX6_puts) (pc := 22) dX6_puts_22
theorem sX6_puts_23 : Snd MX6_puts 23 (xLdA 24 0) := snd_aload_n (M := MX6_puts) (pc := 23) dX6_puts_23
theorem sX6_puts_24 : Snd MX6_puts 24 (xGf 27 6 8) := snd_gf (M := MX6_puts) (pc := 24) (C0 := RX6) (T0 := TX6) (N := 32) dX6_puts_24 rfl tbX6 (by decide) w447
theorem sX6_puts_27 : Snd MX6_puts 27 (xLdI 28 2) := snd_iload_n (M := MX6_puts) (pc := 27) dX6_puts_27
theorem sX6_puts_28 : Snd MX6_puts 28 (xiaload 29) := snd_iaload (M := MX6_puts) (pc := 28) dX6_puts_28
theorem sX6_puts_29 : Snd MX6_puts 29 (xBin 30 f_isub) := snd_isub (M := MX6_puts) (pc := 29) dX6_puts_29
theorem sX6_puts_30 : Snd MX6_puts 30 (xiastore 31) := snd_iastore (M := MX6_puts) (pc := 30) dX6_puts_30
theorem sX6_puts_31 : Snd MX6_puts 31 (xRetV) := snd_vret (M := MX6_puts) (pc := 31) dX6_puts_31 rfl
theorem VX6_puts : Valid MX6_puts LX6_puts := va_lid sX6_puts_0 (va_lid sX6_puts_1 (va_lid sX6_puts_4 (va_lid sX6_puts_5 (va_lid sX6_puts_6 (va_lid sX6_puts_7 (va_lid sX6_puts_8 (va_lid sX6_puts_9 (va_lid sX6_puts_10 (va_lid sX6_puts_11 (va_lid sX6_puts_12 (va_lid sX6_puts_13 (va_lid sX6_puts_14 (va_lid sX6_puts_15 (va_lid sX6_puts_18 (va_lid sX6_puts_19 (va_lid sX6_puts_20 (va_lid sX6_puts_21 (va_lid sX6_puts_22 (va_lid sX6_puts_23 (va_lid sX6_puts_24 (va_lid sX6_puts_27 (va_lid sX6_puts_28 (va_lid sX6_puts_29 (va_lid sX6_puts_30 (va_lid sX6_puts_31 (va_lid0))))))))))))))))))))))))))
theorem kX6_puts_0 : lk LX6_puts 0 = some (xLdA 1 0) := rfl
theorem kX6_puts_1 : lk LX6_puts 1 = some (xGf 4 6 0) := rfl
theorem kX6_puts_4 : lk LX6_puts 4 = some (xLdI 5 1) := rfl
theorem kX6_puts_5 : lk LX6_puts 5 = some (xK 6 (nI 2)) := rfl
theorem kX6_puts_6 : lk LX6_puts 6 = some (xBin 7 f_iadd) := rfl
theorem kX6_puts_7 : lk LX6_puts 7 = some (xDup2 8) := rfl
theorem kX6_puts_8 : lk LX6_puts 8 = some (xiaload 9) := rfl
theorem kX6_puts_9 : lk LX6_puts 9 = some (xK 10 (nI 1)) := rfl
theorem kX6_puts_10 : lk LX6_puts 10 = some (xLdI 11 2) := rfl
theorem kX6_puts_11 : lk LX6_puts 11 = some (xBin 12 f_ishl) := rfl
theorem kX6_puts_12 : lk LX6_puts 12 = some (xBin 13 f_ior) := rfl
theorem kX6_puts_13 : lk LX6_puts 13 = some (xiastore 14) := rfl
theorem kX6_puts_14 : lk LX6_puts 14 = some (xLdA 15 0) := rfl
theorem kX6_puts_15 : lk LX6_puts 15 = some (xGf 18 6 0) := rfl
theorem kX6_puts_18 : lk LX6_puts 18 = some (xLdI 19 1) := rfl
theorem kX6_puts_19 : lk LX6_puts 19 = some (xK 20 (nI 1)) := rfl
theorem kX6_puts_20 : lk LX6_puts 20 = some (xBin 21 f_iadd) := rfl
theorem kX6_puts_21 : lk LX6_puts 21 = some (xDup2 22) := rfl
theorem kX6_puts_22 : lk LX6_puts 22 = some (xiaload 23) := rfl
theorem kX6_puts_23 : lk LX6_puts 23 = some (xLdA 24 0) := rfl
theorem kX6_puts_24 : lk LX6_puts 24 = some (xGf 27 6 8) := rfl
theorem kX6_puts_27 : lk LX6_puts 27 = some (xLdI 28 2) := rfl
theorem kX6_puts_28 : lk LX6_puts 28 = some (xiaload 29) := rfl
theorem kX6_puts_29 : lk LX6_puts 29 = some (xBin 30 f_isub) := rfl
theorem kX6_puts_30 : lk LX6_puts 30 = some (xiastore 31) := rfl
theorem kX6_puts_31 : lk LX6_puts 31 = some (xRetV) := rfl
def LX6_livesOne : List (Nat × XI) := [(0, xLdA 1 0),
  (1, xLdI 2 2),
  (2, xLdA 3 0),
  (3, xGf 6 6 0),
  (6, xLdI 7 1),
  (7, xK 8 (nI 2)),
  (8, xBin 9 f_iadd),
  (9, xiaload 10),
  (10, xCallV MX6_linenOf 6 2 13),
  (13, xStI 14 3),
  (14, xLdA 15 0),
  (15, xGf 18 6 0),
  (18, xLdI 19 1),
  (19, xK 20 (nI 2)),
  (20, xBin 21 f_iadd),
  (21, xDup2 22),
  (22, xiaload 23),
  (23, xLdI 24 3),
  (24, xK 25 ((-1))),
  (25, xBin 26 f_ixor),
  (26, xBin 27 f_iand),
  (27, xiastore 28),
  (28, xLdA 29 0),
  (29, xGf 32 6 0),
  (32, xLdI 33 1),
  (33, xK 34 (nI 3)),
  (34, xBin 35 f_iadd),
  (35, xDup2 36),
  (36, xiaload 37),
  (37, xK 38 (nI 1)),
  (38, xLdI 39 2),
  (39, xBin 40 f_ishl),
  (40, xBin 41 f_ior),
  (41, xiastore 42),
  (42, xLdI 43 3),
  (43, xRet)]
theorem sX6_livesOne_0 : Snd MX6_livesOne 0 (xLdA 1 0) := snd_aload_n (M := MX6_livesOne) (pc := 0) dX6_livesOne_0
theorem sX6_livesOne_1 : Snd MX6_livesOne 1 (xLdI 2 2) := snd_iload_n (M := MX6_livesOne) (pc := 1) dX6_livesOne_1
theorem sX6_livesOne_2 : Snd MX6_livesOne 2 (xLdA 3 0) := snd_aload_n (M := MX6_livesOne) (pc := 2) dX6_livesOne_2
theorem sX6_livesOne_3 : Snd MX6_livesOne 3 (xGf 6 6 0) := snd_gf (M := MX6_livesOne) (pc := 3) (C0 := RX6) (T0 := TX6) (N := 32) dX6_livesOne_3 rfl tbX6 (by decide) w444
theorem sX6_livesOne_6 : Snd MX6_livesOne 6 (xLdI 7 1) := snd_iload_n (M := MX6_livesOne) (pc := 6) dX6_livesOne_6
theorem sX6_livesOne_7 : Snd MX6_livesOne 7 (xK 8 (nI 2)) := snd_iconst (M := MX6_livesOne) (pc := 7) dX6_livesOne_7 (by decide +kernel)
theorem sX6_livesOne_8 : Snd MX6_livesOne 8 (xBin 9 f_iadd) := snd_iadd (M := MX6_livesOne) (pc := 8) dX6_livesOne_8
theorem sX6_livesOne_9 : Snd MX6_livesOne 9 (xiaload 10) := snd_iaload (M := MX6_livesOne) (pc := 9) dX6_livesOne_9
theorem sX6_livesOne_10 : Snd MX6_livesOne 10 (xCallV MX6_linenOf 6 2 13) := snd_callV (M := MX6_livesOne) (pc := 10) (n := 2) dX6_livesOne_10 rfl w556 w557 w558 ⟨w462, w555, ⟨by decide, by decide, by decide +kernel⟩, by decide⟩ ⟨rfl, rfl⟩
theorem sX6_livesOne_13 : Snd MX6_livesOne 13 (xStI 14 3) := snd_istore_n (M := MX6_livesOne) (pc := 13) dX6_livesOne_13 (by decide)
theorem sX6_livesOne_14 : Snd MX6_livesOne 14 (xLdA 15 0) := snd_aload_n (M := MX6_livesOne) (pc := 14) dX6_livesOne_14
theorem sX6_livesOne_15 : Snd MX6_livesOne 15 (xGf 18 6 0) := snd_gf (M := MX6_livesOne) (pc := 15) (C0 := RX6) (T0 := TX6) (N := 32) dX6_livesOne_15 rfl tbX6 (by decide) w444
theorem sX6_livesOne_18 : Snd MX6_livesOne 18 (xLdI 19 1) := snd_iload_n (M := MX6_livesOne) (pc := 18) dX6_livesOne_18
theorem sX6_livesOne_19 : Snd MX6_livesOne 19 (xK 20 (nI 2)) := snd_iconst (M := MX6_livesOne) (pc := 19) dX6_livesOne_19 (by decide +kernel)
theorem sX6_livesOne_20 : Snd MX6_livesOne 20 (xBin 21 f_iadd) := snd_iadd (M := MX6_livesOne) (pc := 20) dX6_livesOne_20
theorem sX6_livesOne_21 : Snd MX6_livesOne 21 (xDup2 22) := snd_dup2 (M := MX6_livesOne) (pc := 21) dX6_livesOne_21
theorem sX6_livesOne_22 : Snd MX6_livesOne 22 (xiaload 23) := snd_iaload (M := MX6_livesOne) (pc := 22) dX6_livesOne_22
theorem sX6_livesOne_23 : Snd MX6_livesOne 23 (xLdI 24 3) := snd_iload_n (M := MX6_livesOne) (pc := 23) dX6_livesOne_23
theorem sX6_livesOne_24 : Snd MX6_livesOne 24 (xK 25 ((-1))) := snd_iconst (M := MX6_livesOne) (pc := 24) dX6_livesOne_24 (by decide +kernel)
theorem sX6_livesOne_25 : Snd MX6_livesOne 25 (xBin 26 f_ixor) := snd_ixor (M := MX6_livesOne) (pc := 25) dX6_livesOne_25
theorem sX6_livesOne_26 : Snd MX6_livesOne 26 (xBin 27 f_iand) := snd_iand (M := MX6_livesOne) (pc := 26) dX6_livesOne_26
theorem sX6_livesOne_27 : Snd MX6_livesOne 27 (xiastore 28) := snd_iastore (M := MX6_livesOne) (pc := 27) dX6_livesOne_27
theorem sX6_livesOne_28 : Snd MX6_livesOne 28 (xLdA 29 0) := snd_aload_n (M := MX6_livesOne) (pc := 28) dX6_livesOne_28
theorem sX6_livesOne_29 : Snd MX6_livesOne 29 (xGf 32 6 0) := snd_gf (M := MX6_livesOne) (pc := 29) (C0 := RX6) (T0 := TX6) (N := 32) dX6_livesOne_29 rfl tbX6 (by decide) w444
theorem sX6_livesOne_32 : Snd MX6_livesOne 32 (xLdI 33 1) := snd_iload_n (M := MX6_livesOne) (pc := 32) dX6_livesOne_32
theorem sX6_livesOne_33 : Snd MX6_livesOne 33 (xK 34 (nI 3)) := snd_iconst (M := MX6_livesOne) (pc := 33) dX6_livesOne_33 (by decide +kernel)
theorem sX6_livesOne_34 : Snd MX6_livesOne 34 (xBin 35 f_iadd) := snd_iadd (M := MX6_livesOne) (pc := 34) dX6_livesOne_34
theorem sX6_livesOne_35 : Snd MX6_livesOne 35 (xDup2 36) := snd_dup2 (M := MX6_livesOne) (pc := 35) dX6_livesOne_35
theorem sX6_livesOne_36 : Snd MX6_livesOne 36 (xiaload 37) := snd_iaload (M := MX6_livesOne) (pc := 36) dX6_livesOne_36
theorem sX6_livesOne_37 : Snd MX6_livesOne 37 (xK 38 (nI 1)) := snd_iconst (M := MX6_livesOne) (pc := 37) dX6_livesOne_37 (by decide +kernel)
theorem sX6_livesOne_38 : Snd MX6_livesOne 38 (xLdI 39 2) := snd_iload_n (M := MX6_livesOne) (pc := 38) dX6_livesOne_38
theorem sX6_livesOne_39 : Snd MX6_livesOne 39 (xBin 40 f_ishl) := snd_ishl (M := MX6_livesOne) (pc := 39) dX6_livesOne_39
theorem sX6_livesOne_40 : Snd MX6_livesOne 40 (xBin 41 f_ior) := snd_ior (M := MX6_livesOne) (pc := 40) dX6_livesOne_40
theorem sX6_livesOne_41 : Snd MX6_livesOne 41 (xiastore 42) := snd_iastore (M := MX6_livesOne) (pc := 41) dX6_livesOne_41
theorem sX6_livesOne_42 : Snd MX6_livesOne 42 (xLdI 43 3) := snd_iload_n (M := MX6_livesOne) (pc := 42) dX6_livesOne_42
theorem sX6_livesOne_43 : Snd MX6_livesOne 43 (xRet) := snd_iret (M := MX6_livesOne) (pc := 43) dX6_livesOne_43 rfl
theorem VX6_livesOne : Valid MX6_livesOne LX6_livesOne := va_lid sX6_livesOne_0 (va_lid sX6_livesOne_1 (va_lid sX6_livesOne_2 (va_lid sX6_livesOne_3 (va_lid sX6_livesOne_6 (va_lid sX6_livesOne_7 (va_lid sX6_livesOne_8 (va_lid sX6_livesOne_9 (va_lid sX6_livesOne_10 (va_lid sX6_livesOne_13 (va_lid sX6_livesOne_14 (va_lid sX6_livesOne_15 (va_lid sX6_livesOne_18 (va_lid sX6_livesOne_19 (va_lid sX6_livesOne_20 (va_lid sX6_livesOne_21 (va_lid sX6_livesOne_22 (va_lid sX6_livesOne_23 (va_lid sX6_livesOne_24 (va_lid sX6_livesOne_25 (va_lid sX6_livesOne_26 (va_lid sX6_livesOne_27 (va_lid sX6_livesOne_28 (va_lid sX6_livesOne_29 (va_lid sX6_livesOne_32 (va_lid sX6_livesOne_33 (va_lid sX6_livesOne_34 (va_lid sX6_livesOne_35 (va_lid sX6_livesOne_36 (va_lid sX6_livesOne_37 (va_lid sX6_livesOne_38 (va_lid sX6_livesOne_39 (va_lid sX6_livesOne_40 (va_lid sX6_livesOne_41 (va_lid sX6_livesOne_42 (va_lid sX6_livesOne_43 (va_lid0))))))))))))))))))))))))))))))))))))
theorem kX6_livesOne_0 : lk LX6_livesOne 0 = some (xLdA 1 0) := rfl
theorem kX6_livesOne_1 : lk LX6_livesOne 1 = some (xLdI 2 2) := rfl
theorem kX6_livesOne_2 : lk LX6_livesOne 2 = some (xLdA 3 0) := rfl
theorem kX6_livesOne_3 : lk LX6_livesOne 3 = some (xGf 6 6 0) := rfl
theorem kX6_livesOne_6 : lk LX6_livesOne 6 = some (xLdI 7 1) := rfl
theorem kX6_livesOne_7 : lk LX6_livesOne 7 = some (xK 8 (nI 2)) := rfl
theorem kX6_livesOne_8 : lk LX6_livesOne 8 = some (xBin 9 f_iadd) := rfl
theorem kX6_livesOne_9 : lk LX6_livesOne 9 = some (xiaload 10) := rfl
theorem kX6_livesOne_10 : lk LX6_livesOne 10 = some (xCallV MX6_linenOf 6 2 13) := rfl
theorem kX6_livesOne_13 : lk LX6_livesOne 13 = some (xStI 14 3) := rfl
theorem kX6_livesOne_14 : lk LX6_livesOne 14 = some (xLdA 15 0) := rfl
theorem kX6_livesOne_15 : lk LX6_livesOne 15 = some (xGf 18 6 0) := rfl
theorem kX6_livesOne_18 : lk LX6_livesOne 18 = some (xLdI 19 1) := rfl
theorem kX6_livesOne_19 : lk LX6_livesOne 19 = some (xK 20 (nI 2)) := rfl
theorem kX6_livesOne_20 : lk LX6_livesOne 20 = some (xBin 21 f_iadd) := rfl
theorem kX6_livesOne_21 : lk LX6_livesOne 21 = some (xDup2 22) := rfl
theorem kX6_livesOne_22 : lk LX6_livesOne 22 = some (xiaload 23) := rfl
theorem kX6_livesOne_23 : lk LX6_livesOne 23 = some (xLdI 24 3) := rfl
theorem kX6_livesOne_24 : lk LX6_livesOne 24 = some (xK 25 ((-1))) := rfl
theorem kX6_livesOne_25 : lk LX6_livesOne 25 = some (xBin 26 f_ixor) := rfl
theorem kX6_livesOne_26 : lk LX6_livesOne 26 = some (xBin 27 f_iand) := rfl
theorem kX6_livesOne_27 : lk LX6_livesOne 27 = some (xiastore 28) := rfl
theorem kX6_livesOne_28 : lk LX6_livesOne 28 = some (xLdA 29 0) := rfl
theorem kX6_livesOne_29 : lk LX6_livesOne 29 = some (xGf 32 6 0) := rfl
theorem kX6_livesOne_32 : lk LX6_livesOne 32 = some (xLdI 33 1) := rfl
theorem kX6_livesOne_33 : lk LX6_livesOne 33 = some (xK 34 (nI 3)) := rfl
theorem kX6_livesOne_34 : lk LX6_livesOne 34 = some (xBin 35 f_iadd) := rfl
theorem kX6_livesOne_35 : lk LX6_livesOne 35 = some (xDup2 36) := rfl
theorem kX6_livesOne_36 : lk LX6_livesOne 36 = some (xiaload 37) := rfl
theorem kX6_livesOne_37 : lk LX6_livesOne 37 = some (xK 38 (nI 1)) := rfl
theorem kX6_livesOne_38 : lk LX6_livesOne 38 = some (xLdI 39 2) := rfl
theorem kX6_livesOne_39 : lk LX6_livesOne 39 = some (xBin 40 f_ishl) := rfl
theorem kX6_livesOne_40 : lk LX6_livesOne 40 = some (xBin 41 f_ior) := rfl
theorem kX6_livesOne_41 : lk LX6_livesOne 41 = some (xiastore 42) := rfl
theorem kX6_livesOne_42 : lk LX6_livesOne 42 = some (xLdI 43 3) := rfl
theorem kX6_livesOne_43 : lk LX6_livesOne 43 = some (xRet) := rfl
def LX6_passes : List (Nat × XI) := [(0, xLdA 1 0),
  (1, xGf 4 6 0),
  (4, xLdI 5 1),
  (5, xK 6 (nI 1)),
  (6, xBin 7 f_iadd),
  (7, xLdA 8 0),
  (8, xGf 11 6 0),
  (11, xLdI 12 1),
  (12, xK 13 (nI 1)),
  (13, xBin 14 f_iadd),
  (14, xiaload 15),
  (15, xLdA 16 0),
  (16, xGf 19 6 4),
  (19, xBin 20 f_iadd),
  (20, xK 23 (nI 999)),
  (23, xC_le 32 26),
  (26, xK 29 (nI 999)),
  (29, xGo 45),
  (32, xLdA 33 0),
  (33, xGf 36 6 0),
  (36, xLdI 37 1),
  (37, xK 38 (nI 1)),
  (38, xBin 39 f_iadd),
  (39, xiaload 40),
  (40, xLdA 41 0),
  (41, xGf 44 6 4),
  (44, xBin 45 f_iadd),
  (45, xiastore 46),
  (46, xLdA 47 0),
  (47, xGf 50 6 0),
  (50, xLdI 51 1),
  (51, xK 52 (nI 0)),
  (52, xBin 53 f_iadd),
  (53, xDup2 54),
  (54, xiaload 55),
  (55, xK 56 (nI 1)),
  (56, xBin 57 f_iadd),
  (57, xiastore 58),
  (58, xRetV)]
theorem sX6_passes_0 : Snd MX6_passes 0 (xLdA 1 0) := snd_aload_n (M := MX6_passes) (pc := 0) dX6_passes_0
theorem sX6_passes_1 : Snd MX6_passes 1 (xGf 4 6 0) := snd_gf (M := MX6_passes) (pc := 1) (C0 := RX6) (T0 := TX6) (N := 32) dX6_passes_1 rfl tbX6 (by decide) w444
theorem sX6_passes_4 : Snd MX6_passes 4 (xLdI 5 1) := snd_iload_n (M := MX6_passes) (pc := 4) dX6_passes_4
theorem sX6_passes_5 : Snd MX6_passes 5 (xK 6 (nI 1)) := snd_iconst (M := MX6_passes) (pc := 5) dX6_passes_5 (by decide +kernel)
theorem sX6_passes_6 : Snd MX6_passes 6 (xBin 7 f_iadd) := snd_iadd (M := MX6_passes) (pc := 6) dX6_passes_6
theorem sX6_passes_7 : Snd MX6_passes 7 (xLdA 8 0) := snd_aload_n (M := MX6_passes) (pc := 7) dX6_passes_7
theorem sX6_passes_8 : Snd MX6_passes 8 (xGf 11 6 0) := snd_gf (M := MX6_passes) (pc := 8) (C0 := RX6) (T0 := TX6) (N := 32) dX6_passes_8 rfl tbX6 (by decide) w444
theorem sX6_passes_11 : Snd MX6_passes 11 (xLdI 12 1) := snd_iload_n (M := MX6_passes) (pc := 11) dX6_passes_11
theorem sX6_passes_12 : Snd MX6_passes 12 (xK 13 (nI 1)) := snd_iconst (M := MX6_passes) (pc := 12) dX6_passes_12 (by decide +kernel)
theorem sX6_passes_13 : Snd MX6_passes 13 (xBin 14 f_iadd) := snd_iadd (M := MX6_passes) (pc := 13) dX6_passes_13
theorem sX6_passes_14 : Snd MX6_passes 14 (xiaload 15) := snd_iaload (M := MX6_passes) (pc := 14) dX6_passes_14
theorem sX6_passes_15 : Snd MX6_passes 15 (xLdA 16 0) := snd_aload_n (M := MX6_passes) (pc := 15) dX6_passes_15
theorem sX6_passes_16 : Snd MX6_passes 16 (xGf 19 6 4) := snd_gf (M := MX6_passes) (pc := 16) (C0 := RX6) (T0 := TX6) (N := 32) dX6_passes_16 rfl tbX6 (by decide) w483
theorem sX6_passes_19 : Snd MX6_passes 19 (xBin 20 f_iadd) := snd_iadd (M := MX6_passes) (pc := 19) dX6_passes_19
theorem sX6_passes_20 : Snd MX6_passes 20 (xK 23 (nI 999)) := snd_sipush (M := MX6_passes) (pc := 20) dX6_passes_20 (by decide +kernel)
theorem sX6_passes_23 : Snd MX6_passes 23 (xC_le 32 26) := snd_icmp_le (M := MX6_passes) (pc := 23) dX6_passes_23 (by decide)
theorem sX6_passes_26 : Snd MX6_passes 26 (xK 29 (nI 999)) := snd_sipush (M := MX6_passes) (pc := 26) dX6_passes_26 (by decide +kernel)
theorem sX6_passes_29 : Snd MX6_passes 29 (xGo 45) := snd_goto (M := MX6_passes) (pc := 29) dX6_passes_29 (by decide)
theorem sX6_passes_32 : Snd MX6_passes 32 (xLdA 33 0) := snd_aload_n (M := MX6_passes) (pc := 32) dX6_passes_32
theorem sX6_passes_33 : Snd MX6_passes 33 (xGf 36 6 0) := snd_gf (M := MX6_passes) (pc := 33) (C0 := RX6) (T0 := TX6) (N := 32) dX6_passes_33 rfl tbX6 (by decide) w444
theorem sX6_passes_36 : Snd MX6_passes 36 (xLdI 37 1) := snd_iload_n (M := MX6_passes) (pc := 36) dX6_passes_36
theorem sX6_passes_37 : Snd MX6_passes 37 (xK 38 (nI 1)) := snd_iconst (M := MX6_passes) (pc := 37) dX6_passes_37 (by decide +kernel)
theorem sX6_passes_38 : Snd MX6_passes 38 (xBin 39 f_iadd) := snd_iadd (M := MX6_passes) (pc := 38) dX6_passes_38
theorem sX6_passes_39 : Snd MX6_passes 39 (xiaload 40) := snd_iaload (M := MX6_passes) (pc := 39) dX6_passes_39
theorem sX6_passes_40 : Snd MX6_passes 40 (xLdA 41 0) := snd_aload_n (M := MX6_passes) (pc := 40) dX6_passes_40
theorem sX6_passes_41 : Snd MX6_passes 41 (xGf 44 6 4) := snd_gf (M := MX6_passes) (pc := 41) (C0 := RX6) (T0 := TX6) (N := 32) dX6_passes_41 rfl tbX6 (by decide) w483
theorem sX6_passes_44 : Snd MX6_passes 44 (xBin 45 f_iadd) := snd_iadd (M := MX6_passes) (pc := 44) dX6_passes_44
theorem sX6_passes_45 : Snd MX6_passes 45 (xiastore 46) := snd_iastore (M := MX6_passes) (pc := 45) dX6_passes_45
theorem sX6_passes_46 : Snd MX6_passes 46 (xLdA 47 0) := snd_aload_n (M := MX6_passes) (pc := 46) dX6_passes_46
theorem sX6_passes_47 : Snd MX6_passes 47 (xGf 50 6 0) := snd_gf (M := MX6_passes) (pc := 47) (C0 := RX6) (T0 := TX6) (N := 32) dX6_passes_47 rfl tbX6 (by decide) w444
theorem sX6_passes_50 : Snd MX6_passes 50 (xLdI 51 1) := snd_iload_n (M := MX6_passes) (pc := 50) dX6_passes_50
theorem sX6_passes_51 : Snd MX6_passes 51 (xK 52 (nI 0)) := snd_iconst (M := MX6_passes) (pc := 51) dX6_passes_51 (by decide +kernel)
theorem sX6_passes_52 : Snd MX6_passes 52 (xBin 53 f_iadd) := snd_iadd (M := MX6_passes) (pc := 52) dX6_passes_52
theorem sX6_passes_53 : Snd MX6_passes 53 (xDup2 54) := snd_dup2 (M := MX6_passes) (pc := 53) dX6_passes_53
theorem sX6_passes_54 : Snd MX6_passes 54 (xiaload 55) := snd_iaload (M := MX6_passes) (pc := 54) dX6_passes_54
theorem sX6_passes_55 : Snd MX6_passes 55 (xK 56 (nI 1)) := snd_iconst (M := MX6_passes) (pc := 55) dX6_passes_55 (by decide +kernel)
theorem sX6_passes_56 : Snd MX6_passes 56 (xBin 57 f_iadd) := snd_iadd (M := MX6_passes) (pc := 56) dX6_passes_56
theorem sX6_passes_57 : Snd MX6_passes 57 (xiastore 58) := snd_iastore (M := MX6_passes) (pc := 57) dX6_passes_57
theorem sX6_passes_58 : Snd MX6_passes 58 (xRetV) := snd_vret (M := MX6_passes) (pc := 58) dX6_passes_58 rfl
theorem VX6_passes : Valid MX6_passes LX6_passes := va_lid sX6_passes_0 (va_lid sX6_passes_1 (va_lid sX6_passes_4 (va_lid sX6_passes_5 (va_lid sX6_passes_6 (va_lid sX6_passes_7 (va_lid sX6_passes_8 (va_lid sX6_passes_11 (va_lid sX6_passes_12 (va_lid sX6_passes_13 (va_lid sX6_passes_14 (va_lid sX6_passes_15 (va_lid sX6_passes_16 (va_lid sX6_passes_19 (va_lid sX6_passes_20 (va_lid sX6_passes_23 (va_lid sX6_passes_26 (va_lid sX6_passes_29 (va_lid sX6_passes_32 (va_lid sX6_passes_33 (va_lid sX6_passes_36 (va_lid sX6_passes_37 (va_lid sX6_passes_38 (va_lid sX6_passes_39 (va_lid sX6_passes_40 (va_lid sX6_passes_41 (va_lid sX6_passes_44 (va_lid sX6_passes_45 (va_lid sX6_passes_46 (va_lid sX6_passes_47 (va_lid sX6_passes_50 (va_lid sX6_passes_51 (va_lid sX6_passes_52 (va_lid sX6_passes_53 (va_lid sX6_passes_54 (va_lid sX6_passes_55 (va_lid sX6_passes_56 (va_lid sX6_passes_57 (va_lid sX6_passes_58 (va_lid0)))))))))))))))))))))))))))))))))))))))
theorem kX6_passes_0 : lk LX6_passes 0 = some (xLdA 1 0) := rfl
theorem kX6_passes_1 : lk LX6_passes 1 = some (xGf 4 6 0) := rfl
theorem kX6_passes_4 : lk LX6_passes 4 = some (xLdI 5 1) := rfl
theorem kX6_passes_5 : lk LX6_passes 5 = some (xK 6 (nI 1)) := rfl
theorem kX6_passes_6 : lk LX6_passes 6 = some (xBin 7 f_iadd) := rfl
theorem kX6_passes_7 : lk LX6_passes 7 = some (xLdA 8 0) := rfl
theorem kX6_passes_8 : lk LX6_passes 8 = some (xGf 11 6 0) := rfl
theorem kX6_passes_11 : lk LX6_passes 11 = some (xLdI 12 1) := rfl
theorem kX6_passes_12 : lk LX6_passes 12 = some (xK 13 (nI 1)) := rfl
theorem kX6_passes_13 : lk LX6_passes 13 = some (xBin 14 f_iadd) := rfl
theorem kX6_passes_14 : lk LX6_passes 14 = some (xiaload 15) := rfl
theorem kX6_passes_15 : lk LX6_passes 15 = some (xLdA 16 0) := rfl
theorem kX6_passes_16 : lk LX6_passes 16 = some (xGf 19 6 4) := rfl
theorem kX6_passes_19 : lk LX6_passes 19 = some (xBin 20 f_iadd) := rfl
theorem kX6_passes_20 : lk LX6_passes 20 = some (xK 23 (nI 999)) := rfl
theorem kX6_passes_23 : lk LX6_passes 23 = some (xC_le 32 26) := rfl
theorem kX6_passes_26 : lk LX6_passes 26 = some (xK 29 (nI 999)) := rfl
theorem kX6_passes_29 : lk LX6_passes 29 = some (xGo 45) := rfl
theorem kX6_passes_32 : lk LX6_passes 32 = some (xLdA 33 0) := rfl
theorem kX6_passes_33 : lk LX6_passes 33 = some (xGf 36 6 0) := rfl
theorem kX6_passes_36 : lk LX6_passes 36 = some (xLdI 37 1) := rfl
theorem kX6_passes_37 : lk LX6_passes 37 = some (xK 38 (nI 1)) := rfl
theorem kX6_passes_38 : lk LX6_passes 38 = some (xBin 39 f_iadd) := rfl
theorem kX6_passes_39 : lk LX6_passes 39 = some (xiaload 40) := rfl
theorem kX6_passes_40 : lk LX6_passes 40 = some (xLdA 41 0) := rfl
theorem kX6_passes_41 : lk LX6_passes 41 = some (xGf 44 6 4) := rfl
theorem kX6_passes_44 : lk LX6_passes 44 = some (xBin 45 f_iadd) := rfl
theorem kX6_passes_45 : lk LX6_passes 45 = some (xiastore 46) := rfl
theorem kX6_passes_46 : lk LX6_passes 46 = some (xLdA 47 0) := rfl
theorem kX6_passes_47 : lk LX6_passes 47 = some (xGf 50 6 0) := rfl
theorem kX6_passes_50 : lk LX6_passes 50 = some (xLdI 51 1) := rfl
theorem kX6_passes_51 : lk LX6_passes 51 = some (xK 52 (nI 0)) := rfl
theorem kX6_passes_52 : lk LX6_passes 52 = some (xBin 53 f_iadd) := rfl
theorem kX6_passes_53 : lk LX6_passes 53 = some (xDup2 54) := rfl
theorem kX6_passes_54 : lk LX6_passes 54 = some (xiaload 55) := rfl
theorem kX6_passes_55 : lk LX6_passes 55 = some (xK 56 (nI 1)) := rfl
theorem kX6_passes_56 : lk LX6_passes 56 = some (xBin 57 f_iadd) := rfl
theorem kX6_passes_57 : lk LX6_passes 57 = some (xiastore 58) := rfl
theorem kX6_passes_58 : lk LX6_passes 58 = some (xRetV) := rfl
def LX6_neededBy : List (Nat × XI) := [(0, xK 1 (nI 0)),
  (1, xStI 2 2),
  (2, xK 3 (nI 0)),
  (3, xStI 4 3),
  (4, xLdI 5 3),
  (5, xLdA 6 0),
  (6, xGf 9 6 9),
  (9, xC_ge 41 12),
  (12, xLdI 13 2),
  (13, xLdA 14 0),
  (14, xGf 17 6 13),
  (17, xLdI 18 3),
  (18, xiaload 19),
  (19, xLdI 20 1),
  (20, xCallS MX6_has 2 23),
  (23, xZ_eq 32 26),
  (26, xK 27 (nI 1)),
  (27, xLdI 28 3),
  (28, xBin 29 f_ishl),
  (29, xGo 33),
  (32, xK 33 (nI 0)),
  (33, xBin 34 f_ior),
  (34, xStI 35 2),
  (35, xInc 38 3 (nI 1)),
  (38, xGo 4),
  (41, xLdI 42 2),
  (42, xRet)]
theorem sX6_neededBy_0 : Snd MX6_neededBy 0 (xK 1 (nI 0)) := snd_iconst (M := MX6_neededBy) (pc := 0) dX6_neededBy_0 (by decide +kernel)
theorem sX6_neededBy_1 : Snd MX6_neededBy 1 (xStI 2 2) := snd_istore_n (M := MX6_neededBy) (pc := 1) dX6_neededBy_1 (by decide)
theorem sX6_neededBy_2 : Snd MX6_neededBy 2 (xK 3 (nI 0)) := snd_iconst (M := MX6_neededBy) (pc := 2) dX6_neededBy_2 (by decide +kernel)
theorem sX6_neededBy_3 : Snd MX6_neededBy 3 (xStI 4 3) := snd_istore_n (M := MX6_neededBy) (pc := 3) dX6_neededBy_3 (by decide)
theorem sX6_neededBy_4 : Snd MX6_neededBy 4 (xLdI 5 3) := snd_iload_n (M := MX6_neededBy) (pc := 4) dX6_neededBy_4
theorem sX6_neededBy_5 : Snd MX6_neededBy 5 (xLdA 6 0) := snd_aload_n (M := MX6_neededBy) (pc := 5) dX6_neededBy_5
theorem sX6_neededBy_6 : Snd MX6_neededBy 6 (xGf 9 6 9) := snd_gf (M := MX6_neededBy) (pc := 6) (C0 := RX6) (T0 := TX6) (N := 32) dX6_neededBy_6 rfl tbX6 (by decide) w479
theorem sX6_neededBy_9 : Snd MX6_neededBy 9 (xC_ge 41 12) := snd_icmp_ge (M := MX6_neededBy) (pc := 9) dX6_neededBy_9 (by decide)
theorem sX6_neededBy_12 : Snd MX6_neededBy 12 (xLdI 13 2) := snd_iload_n (M := MX6_neededBy) (pc := 12) dX6_neededBy_12
theorem sX6_neededBy_13 : Snd MX6_neededBy 13 (xLdA 14 0) := snd_aload_n (M := MX6_neededBy) (pc := 13) dX6_neededBy_13
theorem sX6_neededBy_14 : Snd MX6_neededBy 14 (xGf 17 6 13) := snd_gf (M := MX6_neededBy) (pc := 14) (C0 := RX6) (T0 := TX6) (N := 32) dX6_neededBy_14 rfl tbX6 (by decide) w451
theorem sX6_neededBy_17 : Snd MX6_neededBy 17 (xLdI 18 3) := snd_iload_n (M := MX6_neededBy) (pc := 17) dX6_neededBy_17
theorem sX6_neededBy_18 : Snd MX6_neededBy 18 (xiaload 19) := snd_iaload (M := MX6_neededBy) (pc := 18) dX6_neededBy_18
theorem sX6_neededBy_19 : Snd MX6_neededBy 19 (xLdI 20 1) := snd_iload_n (M := MX6_neededBy) (pc := 19) dX6_neededBy_19
theorem sX6_neededBy_20 : Snd MX6_neededBy 20 (xCallS MX6_has 2 23) := snd_callS (M := MX6_neededBy) (pc := 20) (n := 2) dX6_neededBy_20 w530 w531 ⟨w462, w529, ⟨by decide, by decide, by decide +kernel⟩, by decide⟩ ⟨rfl, rfl⟩
theorem sX6_neededBy_23 : Snd MX6_neededBy 23 (xZ_eq 32 26) := snd_if_eq (M := MX6_neededBy) (pc := 23) dX6_neededBy_23 (by decide)
theorem sX6_neededBy_26 : Snd MX6_neededBy 26 (xK 27 (nI 1)) := snd_iconst (M := MX6_neededBy) (pc := 26) dX6_neededBy_26 (by decide +kernel)
theorem sX6_neededBy_27 : Snd MX6_neededBy 27 (xLdI 28 3) := snd_iload_n (M := MX6_neededBy) (pc := 27) dX6_neededBy_27
theorem sX6_neededBy_28 : Snd MX6_neededBy 28 (xBin 29 f_ishl) := snd_ishl (M := MX6_neededBy) (pc := 28) dX6_neededBy_28
theorem sX6_neededBy_29 : Snd MX6_neededBy 29 (xGo 33) := snd_goto (M := MX6_neededBy) (pc := 29) dX6_neededBy_29 (by decide)
theorem sX6_neededBy_32 : Snd MX6_neededBy 32 (xK 33 (nI 0)) := snd_iconst (M := MX6_neededBy) (pc := 32) dX6_neededBy_32 (by decide +kernel)
theorem sX6_neededBy_33 : Snd MX6_neededBy 33 (xBin 34 f_ior) := snd_ior (M := MX6_neededBy) (pc := 33) dX6_neededBy_33
theorem sX6_neededBy_34 : Snd MX6_neededBy 34 (xStI 35 2) := snd_istore_n (M := MX6_neededBy) (pc := 34) dX6_neededBy_34 (by decide)
theorem sX6_neededBy_35 : Snd MX6_neededBy 35 (xInc 38 3 (nI 1)) := snd_iinc (M := MX6_neededBy) (pc := 35) dX6_neededBy_35 (by decide +kernel) (by decide)
theorem sX6_neededBy_38 : Snd MX6_neededBy 38 (xGo 4) := snd_goto (M := MX6_neededBy) (pc := 38) dX6_neededBy_38 (by decide)
theorem sX6_neededBy_41 : Snd MX6_neededBy 41 (xLdI 42 2) := snd_iload_n (M := MX6_neededBy) (pc := 41) dX6_neededBy_41
theorem sX6_neededBy_42 : Snd MX6_neededBy 42 (xRet) := snd_iret (M := MX6_neededBy) (pc := 42) dX6_neededBy_42 rfl
theorem VX6_neededBy : Valid MX6_neededBy LX6_neededBy := va_lid sX6_neededBy_0 (va_lid sX6_neededBy_1 (va_lid sX6_neededBy_2 (va_lid sX6_neededBy_3 (va_lid sX6_neededBy_4 (va_lid sX6_neededBy_5 (va_lid sX6_neededBy_6 (va_lid sX6_neededBy_9 (va_lid sX6_neededBy_12 (va_lid sX6_neededBy_13 (va_lid sX6_neededBy_14 (va_lid sX6_neededBy_17 (va_lid sX6_neededBy_18 (va_lid sX6_neededBy_19 (va_lid sX6_neededBy_20 (va_lid sX6_neededBy_23 (va_lid sX6_neededBy_26 (va_lid sX6_neededBy_27 (va_lid sX6_neededBy_28 (va_lid sX6_neededBy_29 (va_lid sX6_neededBy_32 (va_lid sX6_neededBy_33 (va_lid sX6_neededBy_34 (va_lid sX6_neededBy_35 (va_lid sX6_neededBy_38 (va_lid sX6_neededBy_41 (va_lid sX6_neededBy_42 (va_lid0)))))))))))))))))))))))))))
theorem kX6_neededBy_0 : lk LX6_neededBy 0 = some (xK 1 (nI 0)) := rfl
theorem kX6_neededBy_1 : lk LX6_neededBy 1 = some (xStI 2 2) := rfl
theorem kX6_neededBy_2 : lk LX6_neededBy 2 = some (xK 3 (nI 0)) := rfl
theorem kX6_neededBy_3 : lk LX6_neededBy 3 = some (xStI 4 3) := rfl
theorem kX6_neededBy_4 : lk LX6_neededBy 4 = some (xLdI 5 3) := rfl
theorem kX6_neededBy_5 : lk LX6_neededBy 5 = some (xLdA 6 0) := rfl
theorem kX6_neededBy_6 : lk LX6_neededBy 6 = some (xGf 9 6 9) := rfl
theorem kX6_neededBy_9 : lk LX6_neededBy 9 = some (xC_ge 41 12) := rfl
theorem kX6_neededBy_12 : lk LX6_neededBy 12 = some (xLdI 13 2) := rfl
theorem kX6_neededBy_13 : lk LX6_neededBy 13 = some (xLdA 14 0) := rfl
theorem kX6_neededBy_14 : lk LX6_neededBy 14 = some (xGf 17 6 13) := rfl
theorem kX6_neededBy_17 : lk LX6_neededBy 17 = some (xLdI 18 3) := rfl
theorem kX6_neededBy_18 : lk LX6_neededBy 18 = some (xiaload 19) := rfl
theorem kX6_neededBy_19 : lk LX6_neededBy 19 = some (xLdI 20 1) := rfl
theorem kX6_neededBy_20 : lk LX6_neededBy 20 = some (xCallS MX6_has 2 23) := rfl
theorem kX6_neededBy_23 : lk LX6_neededBy 23 = some (xZ_eq 32 26) := rfl
theorem kX6_neededBy_26 : lk LX6_neededBy 26 = some (xK 27 (nI 1)) := rfl
theorem kX6_neededBy_27 : lk LX6_neededBy 27 = some (xLdI 28 3) := rfl
theorem kX6_neededBy_28 : lk LX6_neededBy 28 = some (xBin 29 f_ishl) := rfl
theorem kX6_neededBy_29 : lk LX6_neededBy 29 = some (xGo 33) := rfl
theorem kX6_neededBy_32 : lk LX6_neededBy 32 = some (xK 33 (nI 0)) := rfl
theorem kX6_neededBy_33 : lk LX6_neededBy 33 = some (xBin 34 f_ior) := rfl
theorem kX6_neededBy_34 : lk LX6_neededBy 34 = some (xStI 35 2) := rfl
theorem kX6_neededBy_35 : lk LX6_neededBy 35 = some (xInc 38 3 (nI 1)) := rfl
theorem kX6_neededBy_38 : lk LX6_neededBy 38 = some (xGo 4) := rfl
theorem kX6_neededBy_41 : lk LX6_neededBy 41 = some (xLdI 42 2) := rfl
theorem kX6_neededBy_42 : lk LX6_neededBy 42 = some (xRet) := rfl
def LX6_thing : List (Nat × XI) := [(0, xLdA 1 0),
  (1, xLdI 2 1),
  (2, xCallV MX6_isThing 6 1 5),
  (5, xZ_ne 10 8),
  (8, xK 9 ((-1))),
  (9, xRet),
  (10, xLdI 11 2),
  (11, xTsw 101 0 [48, 55, 62, 69, 80, 95]),
  (48, xLdA 49 0),
  (49, xGf 52 6 6),
  (52, xLdI 53 1),
  (53, xiaload 54),
  (54, xRet),
  (55, xLdA 56 0),
  (56, xGf 59 6 7),
  (59, xLdI 60 1),
  (60, xiaload 61),
  (61, xRet),
  (62, xLdA 63 0),
  (63, xGf 66 6 8),
  (66, xLdI 67 1),
  (67, xiaload 68),
  (68, xRet),
  (69, xLdA 70 0),
  (70, xGf 73 6 0),
  (73, xK 74 (nI 2)),
  (74, xiaload 75),
  (75, xLdI 76 1),
  (76, xBin 77 f_ishr),
  (77, xK 78 (nI 1)),
  (78, xBin 79 f_iand),
  (79, xRet),
  (80, xLdA 81 0),
  (81, xK 82 (nI 0)),
  (82, xLdI 83 1),
  (83, xCallV MX6_canPut 6 2 86),
  (86, xZ_eq 93 89),
  (89, xK 90 (nI 1)),
  (90, xGo 94),
  (93, xK 94 (nI 0)),
  (94, xRet),
  (95, xLdA 96 0),
  (96, xLdI 97 1),
  (97, xCallV MX6_neededBy 6 1 100),
  (100, xRet),
  (101, xK 102 ((-1))),
  (102, xRet)]
theorem sX6_thing_0 : Snd MX6_thing 0 (xLdA 1 0) := snd_aload_n (M := MX6_thing) (pc := 0) dX6_thing_0
theorem sX6_thing_1 : Snd MX6_thing 1 (xLdI 2 1) := snd_iload_n (M := MX6_thing) (pc := 1) dX6_thing_1
theorem sX6_thing_2 : Snd MX6_thing 2 (xCallV MX6_isThing 6 1 5) := snd_callV (M := MX6_thing) (pc := 2) (n := 1) dX6_thing_2 rfl w560 w561 w562 ⟨w462, w559, ⟨by decide, by decide, by decide +kernel⟩, by decide⟩ ⟨rfl, rfl⟩
theorem sX6_thing_5 : Snd MX6_thing 5 (xZ_ne 10 8) := snd_if_ne (M := MX6_thing) (pc := 5) dX6_thing_5 (by decide)
theorem sX6_thing_8 : Snd MX6_thing 8 (xK 9 ((-1))) := snd_iconst (M := MX6_thing) (pc := 8) dX6_thing_8 (by decide +kernel)
theorem sX6_thing_9 : Snd MX6_thing 9 (xRet) := snd_iret (M := MX6_thing) (pc := 9) dX6_thing_9 rfl
theorem sX6_thing_10 : Snd MX6_thing 10 (xLdI 11 2) := snd_iload_n (M := MX6_thing) (pc := 10) dX6_thing_10
theorem sX6_thing_11 : Snd MX6_thing 11 (xTsw 101 0 [48, 55, 62, 69, 80, 95]) := snd_tsw (M := MX6_thing) (pc := 11) dX6_thing_11 rfl (by decide) (by decide) (by decide) (by decide +kernel)
theorem sX6_thing_48 : Snd MX6_thing 48 (xLdA 49 0) := snd_aload_n (M := MX6_thing) (pc := 48) dX6_thing_48
theorem sX6_thing_49 : Snd MX6_thing 49 (xGf 52 6 6) := snd_gf (M := MX6_thing) (pc := 49) (C0 := RX6) (T0 := TX6) (N := 32) dX6_thing_49 rfl tbX6 (by decide) w445
theorem sX6_thing_52 : Snd MX6_thing 52 (xLdI 53 1) := snd_iload_n (M := MX6_thing) (pc := 52) dX6_thing_52
theorem sX6_thing_53 : Snd MX6_thing 53 (xiaload 54) := snd_iaload (M := MX6_thing) (pc := 53) dX6_thing_53
theorem sX6_thing_54 : Snd MX6_thing 54 (xRet) := snd_iret (M := MX6_thing) (pc := 54) dX6_thing_54 rfl
theorem sX6_thing_55 : Snd MX6_thing 55 (xLdA 56 0) := snd_aload_n (M := MX6_thing) (pc := 55) dX6_thing_55
theorem sX6_thing_56 : Snd MX6_thing 56 (xGf 59 6 7) := snd_gf (M := MX6_thing) (pc := 56) (C0 := RX6) (T0 := TX6) (N := 32) dX6_thing_56 rfl tbX6 (by decide) w446
theorem sX6_thing_59 : Snd MX6_thing 59 (xLdI 60 1) := snd_iload_n (M := MX6_thing) (pc := 59) dX6_thing_59
theorem sX6_thing_60 : Snd MX6_thing 60 (xiaload 61) := snd_iaload (M := MX6_thing) (pc := 60) dX6_thing_60
theorem sX6_thing_61 : Snd MX6_thing 61 (xRet) := snd_iret (M := MX6_thing) (pc := 61) dX6_thing_61 rfl
theorem sX6_thing_62 : Snd MX6_thing 62 (xLdA 63 0) := snd_aload_n (M := MX6_thing) (pc := 62) dX6_thing_62
theorem sX6_thing_63 : Snd MX6_thing 63 (xGf 66 6 8) := snd_gf (M := MX6_thing) (pc := 63) (C0 := RX6) (T0 := TX6) (N := 32) dX6_thing_63 rfl tbX6 (by decide) w447
theorem sX6_thing_66 : Snd MX6_thing 66 (xLdI 67 1) := snd_iload_n (M := MX6_thing) (pc := 66) dX6_thing_66
theorem sX6_thing_67 : Snd MX6_thing 67 (xiaload 68) := snd_iaload (M := MX6_thing) (pc := 67) dX6_thing_67
theorem sX6_thing_68 : Snd MX6_thing 68 (xRet) := snd_iret (M := MX6_thing) (pc := 68) dX6_thing_68 rfl
theorem sX6_thing_69 : Snd MX6_thing 69 (xLdA 70 0) := snd_aload_n (M := MX6_thing) (pc := 69) dX6_thing_69
theorem sX6_thing_70 : Snd MX6_thing 70 (xGf 73 6 0) := snd_gf (M := MX6_thing) (pc := 70) (C0 := RX6) (T0 := TX6) (N := 32) dX6_thing_70 rfl tbX6 (by decide) w444
theorem sX6_thing_73 : Snd MX6_thing 73 (xK 74 (nI 2)) := snd_iconst (M := MX6_thing) (pc := 73) dX6_thing_73 (by decide +kernel)
theorem sX6_thing_74 : Snd MX6_thing 74 (xiaload 75) := snd_iaload (M := MX6_thing) (pc := 74) dX6_thing_74
theorem sX6_thing_75 : Snd MX6_thing 75 (xLdI 76 1) := snd_iload_n (M := MX6_thing) (pc := 75) dX6_thing_75
theorem sX6_thing_76 : Snd MX6_thing 76 (xBin 77 f_ishr) := snd_ishr (M := MX6_thing) (pc := 76) dX6_thing_76
theorem sX6_thing_77 : Snd MX6_thing 77 (xK 78 (nI 1)) := snd_iconst (M := MX6_thing) (pc := 77) dX6_thing_77 (by decide +kernel)
theorem sX6_thing_78 : Snd MX6_thing 78 (xBin 79 f_iand) := snd_iand (M := MX6_thing) (pc := 78) dX6_thing_78
theorem sX6_thing_79 : Snd MX6_thing 79 (xRet) := snd_iret (M := MX6_thing) (pc := 79) dX6_thing_79 rfl
theorem sX6_thing_80 : Snd MX6_thing 80 (xLdA 81 0) := snd_aload_n (M := MX6_thing) (pc := 80) dX6_thing_80
theorem sX6_thing_81 : Snd MX6_thing 81 (xK 82 (nI 0)) := snd_iconst (M := MX6_thing) (pc := 81) dX6_thing_81 (by decide +kernel)
theorem sX6_thing_82 : Snd MX6_thing 82 (xLdI 83 1) := snd_iload_n (M := MX6_thing) (pc := 82) dX6_thing_82
theorem sX6_thing_83 : Snd MX6_thing 83 (xCallV MX6_canPut 6 2 86) := snd_callV (M := MX6_thing) (pc := 83) (n := 2) dX6_thing_83 rfl w564 w565 w566 ⟨w462, w563, ⟨by decide, by decide, by decide +kernel⟩, by decide⟩ ⟨rfl, rfl⟩
theorem sX6_thing_86 : Snd MX6_thing 86 (xZ_eq 93 89) := snd_if_eq (M := MX6_thing) (pc := 86) dX6_thing_86 (by decide)
theorem sX6_thing_89 : Snd MX6_thing 89 (xK 90 (nI 1)) := snd_iconst (M := MX6_thing) (pc := 89) dX6_thing_89 (by decide +kernel)
theorem sX6_thing_90 : Snd MX6_thing 90 (xGo 94) := snd_goto (M := MX6_thing) (pc := 90) dX6_thing_90 (by decide)
theorem sX6_thing_93 : Snd MX6_thing 93 (xK 94 (nI 0)) := snd_iconst (M := MX6_thing) (pc := 93) dX6_thing_93 (by decide +kernel)
theorem sX6_thing_94 : Snd MX6_thing 94 (xRet) := snd_iret (M := MX6_thing) (pc := 94) dX6_thing_94 rfl
theorem sX6_thing_95 : Snd MX6_thing 95 (xLdA 96 0) := snd_aload_n (M := MX6_thing) (pc := 95) dX6_thing_95
theorem sX6_thing_96 : Snd MX6_thing 96 (xLdI 97 1) := snd_iload_n (M := MX6_thing) (pc := 96) dX6_thing_96
theorem sX6_thing_97 : Snd MX6_thing 97 (xCallV MX6_neededBy 6 1 100) := snd_callV (M := MX6_thing) (pc := 97) (n := 1) dX6_thing_97 rfl w568 w569 w570 ⟨w462, w567, ⟨by decide, by decide, by decide +kernel⟩, by decide⟩ ⟨rfl, rfl⟩
theorem sX6_thing_100 : Snd MX6_thing 100 (xRet) := snd_iret (M := MX6_thing) (pc := 100) dX6_thing_100 rfl
theorem sX6_thing_101 : Snd MX6_thing 101 (xK 102 ((-1))) := snd_iconst (M := MX6_thing) (pc := 101) dX6_thing_101 (by decide +kernel)
theorem sX6_thing_102 : Snd MX6_thing 102 (xRet) := snd_iret (M := MX6_thing) (pc := 102) dX6_thing_102 rfl
theorem VX6_thing : Valid MX6_thing LX6_thing := va_lid sX6_thing_0 (va_lid sX6_thing_1 (va_lid sX6_thing_2 (va_lid sX6_thing_5 (va_lid sX6_thing_8 (va_lid sX6_thing_9 (va_lid sX6_thing_10 (va_lid sX6_thing_11 (va_lid sX6_thing_48 (va_lid sX6_thing_49 (va_lid sX6_thing_52 (va_lid sX6_thing_53 (va_lid sX6_thing_54 (va_lid sX6_thing_55 (va_lid sX6_thing_56 (va_lid sX6_thing_59 (va_lid sX6_thing_60 (va_lid sX6_thing_61 (va_lid sX6_thing_62 (va_lid sX6_thing_63 (va_lid sX6_thing_66 (va_lid sX6_thing_67 (va_lid sX6_thing_68 (va_lid sX6_thing_69 (va_lid sX6_thing_70 (va_lid sX6_thing_73 (va_lid sX6_thing_74 (va_lid sX6_thing_75 (va_lid sX6_thing_76 (va_lid sX6_thing_77 (va_lid sX6_thing_78 (va_lid sX6_thing_79 (va_lid sX6_thing_80 (va_lid sX6_thing_81 (va_lid sX6_thing_82 (va_lid sX6_thing_83 (va_lid sX6_thing_86 (va_lid sX6_thing_89 (va_lid sX6_thing_90 (va_lid sX6_thing_93 (va_lid sX6_thing_94 (va_lid sX6_thing_95 (va_lid sX6_thing_96 (va_lid sX6_thing_97 (va_lid sX6_thing_100 (va_lid sX6_thing_101 (va_lid sX6_thing_102 (va_lid0)))))))))))))))))))))))))))))))))))))))))))))))
theorem kX6_thing_0 : lk LX6_thing 0 = some (xLdA 1 0) := rfl
theorem kX6_thing_1 : lk LX6_thing 1 = some (xLdI 2 1) := rfl
theorem kX6_thing_2 : lk LX6_thing 2 = some (xCallV MX6_isThing 6 1 5) := rfl
theorem kX6_thing_5 : lk LX6_thing 5 = some (xZ_ne 10 8) := rfl
theorem kX6_thing_8 : lk LX6_thing 8 = some (xK 9 ((-1))) := rfl
theorem kX6_thing_9 : lk LX6_thing 9 = some (xRet) := rfl
theorem kX6_thing_10 : lk LX6_thing 10 = some (xLdI 11 2) := rfl
theorem kX6_thing_11 : lk LX6_thing 11 = some (xTsw 101 0 [48, 55, 62, 69, 80, 95]) := rfl
theorem kX6_thing_48 : lk LX6_thing 48 = some (xLdA 49 0) := rfl
theorem kX6_thing_49 : lk LX6_thing 49 = some (xGf 52 6 6) := rfl
theorem kX6_thing_52 : lk LX6_thing 52 = some (xLdI 53 1) := rfl
theorem kX6_thing_53 : lk LX6_thing 53 = some (xiaload 54) := rfl
theorem kX6_thing_54 : lk LX6_thing 54 = some (xRet) := rfl
theorem kX6_thing_55 : lk LX6_thing 55 = some (xLdA 56 0) := rfl
theorem kX6_thing_56 : lk LX6_thing 56 = some (xGf 59 6 7) := rfl
theorem kX6_thing_59 : lk LX6_thing 59 = some (xLdI 60 1) := rfl
theorem kX6_thing_60 : lk LX6_thing 60 = some (xiaload 61) := rfl
theorem kX6_thing_61 : lk LX6_thing 61 = some (xRet) := rfl
theorem kX6_thing_62 : lk LX6_thing 62 = some (xLdA 63 0) := rfl
theorem kX6_thing_63 : lk LX6_thing 63 = some (xGf 66 6 8) := rfl
theorem kX6_thing_66 : lk LX6_thing 66 = some (xLdI 67 1) := rfl
theorem kX6_thing_67 : lk LX6_thing 67 = some (xiaload 68) := rfl
theorem kX6_thing_68 : lk LX6_thing 68 = some (xRet) := rfl
theorem kX6_thing_69 : lk LX6_thing 69 = some (xLdA 70 0) := rfl
theorem kX6_thing_70 : lk LX6_thing 70 = some (xGf 73 6 0) := rfl
theorem kX6_thing_73 : lk LX6_thing 73 = some (xK 74 (nI 2)) := rfl
theorem kX6_thing_74 : lk LX6_thing 74 = some (xiaload 75) := rfl
theorem kX6_thing_75 : lk LX6_thing 75 = some (xLdI 76 1) := rfl
theorem kX6_thing_76 : lk LX6_thing 76 = some (xBin 77 f_ishr) := rfl
theorem kX6_thing_77 : lk LX6_thing 77 = some (xK 78 (nI 1)) := rfl
theorem kX6_thing_78 : lk LX6_thing 78 = some (xBin 79 f_iand) := rfl
theorem kX6_thing_79 : lk LX6_thing 79 = some (xRet) := rfl
theorem kX6_thing_80 : lk LX6_thing 80 = some (xLdA 81 0) := rfl
theorem kX6_thing_81 : lk LX6_thing 81 = some (xK 82 (nI 0)) := rfl
theorem kX6_thing_82 : lk LX6_thing 82 = some (xLdI 83 1) := rfl
theorem kX6_thing_83 : lk LX6_thing 83 = some (xCallV MX6_canPut 6 2 86) := rfl
theorem kX6_thing_86 : lk LX6_thing 86 = some (xZ_eq 93 89) := rfl
theorem kX6_thing_89 : lk LX6_thing 89 = some (xK 90 (nI 1)) := rfl
theorem kX6_thing_90 : lk LX6_thing 90 = some (xGo 94) := rfl
theorem kX6_thing_93 : lk LX6_thing 93 = some (xK 94 (nI 0)) := rfl
theorem kX6_thing_94 : lk LX6_thing 94 = some (xRet) := rfl
theorem kX6_thing_95 : lk LX6_thing 95 = some (xLdA 96 0) := rfl
theorem kX6_thing_96 : lk LX6_thing 96 = some (xLdI 97 1) := rfl
theorem kX6_thing_97 : lk LX6_thing 97 = some (xCallV MX6_neededBy 6 1 100) := rfl
theorem kX6_thing_100 : lk LX6_thing 100 = some (xRet) := rfl
theorem kX6_thing_101 : lk LX6_thing 101 = some (xK 102 ((-1))) := rfl
theorem kX6_thing_102 : lk LX6_thing 102 = some (xRet) := rfl
def LX6_life : List (Nat × XI) := [(0, xLdA 1 0),
  (1, xLdI 2 1),
  (2, xCallV MX6_isLife 6 1 5),
  (5, xZ_ne 10 8),
  (8, xK 9 ((-1))),
  (9, xRet),
  (10, xLdI 11 2),
  (11, xTsw 107 0 [48, 55, 62, 69, 76, 96]),
  (48, xLdA 49 0),
  (49, xGf 52 6 10),
  (52, xLdI 53 1),
  (53, xiaload 54),
  (54, xRet),
  (55, xLdA 56 0),
  (56, xGf 59 6 11),
  (59, xLdI 60 1),
  (60, xiaload 61),
  (61, xRet),
  (62, xLdA 63 0),
  (63, xGf 66 6 12),
  (66, xLdI 67 1),
  (67, xiaload 68),
  (68, xRet),
  (69, xLdA 70 0),
  (70, xGf 73 6 13),
  (73, xLdI 74 1),
  (74, xiaload 75),
  (75, xRet),
  (76, xLdA 77 0),
  (77, xLdI 78 1),
  (78, xLdA 79 0),
  (79, xGf 82 6 0),
  (82, xK 83 (nI 2)),
  (83, xiaload 84),
  (84, xCallV MX6_canBy 6 2 87),
  (87, xZ_eq 94 90),
  (90, xK 91 (nI 1)),
  (91, xGo 95),
  (94, xK 95 (nI 0)),
  (95, xRet),
  (96, xLdA 97 0),
  (97, xGf 100 6 0),
  (100, xK 101 (nI 3)),
  (101, xiaload 102),
  (102, xLdI 103 1),
  (103, xBin 104 f_ishr),
  (104, xK 105 (nI 1)),
  (105, xBin 106 f_iand),
  (106, xRet),
  (107, xK 108 ((-1))),
  (108, xRet)]
theorem sX6_life_0 : Snd MX6_life 0 (xLdA 1 0) := snd_aload_n (M := MX6_life) (pc := 0) dX6_life_0
theorem sX6_life_1 : Snd MX6_life 1 (xLdI 2 1) := snd_iload_n (M := MX6_life) (pc := 1) dX6_life_1
theorem sX6_life_2 : Snd MX6_life 2 (xCallV MX6_isLife 6 1 5) := snd_callV (M := MX6_life) (pc := 2) (n := 1) dX6_life_2 rfl w572 w573 w574 ⟨w462, w571, ⟨by decide, by decide, by decide +kernel⟩, by decide⟩ ⟨rfl, rfl⟩
theorem sX6_life_5 : Snd MX6_life 5 (xZ_ne 10 8) := snd_if_ne (M := MX6_life) (pc := 5) dX6_life_5 (by decide)
theorem sX6_life_8 : Snd MX6_life 8 (xK 9 ((-1))) := snd_iconst (M := MX6_life) (pc := 8) dX6_life_8 (by decide +kernel)
theorem sX6_life_9 : Snd MX6_life 9 (xRet) := snd_iret (M := MX6_life) (pc := 9) dX6_life_9 rfl
theorem sX6_life_10 : Snd MX6_life 10 (xLdI 11 2) := snd_iload_n (M := MX6_life) (pc := 10) dX6_life_10
theorem sX6_life_11 : Snd MX6_life 11 (xTsw 107 0 [48, 55, 62, 69, 76, 96]) := snd_tsw (M := MX6_life) (pc := 11) dX6_life_11 rfl (by decide) (by decide) (by decide) (by decide +kernel)
theorem sX6_life_48 : Snd MX6_life 48 (xLdA 49 0) := snd_aload_n (M := MX6_life) (pc := 48) dX6_life_48
theorem sX6_life_49 : Snd MX6_life 49 (xGf 52 6 10) := snd_gf (M := MX6_life) (pc := 49) (C0 := RX6) (T0 := TX6) (N := 32) dX6_life_49 rfl tbX6 (by decide) w448
theorem sX6_life_52 : Snd MX6_life 52 (xLdI 53 1) := snd_iload_n (M := MX6_life) (pc := 52) dX6_life_52
theorem sX6_life_53 : Snd MX6_life 53 (xiaload 54) := snd_iaload (M := MX6_life) (pc := 53) dX6_life_53
theorem sX6_life_54 : Snd MX6_life 54 (xRet) := snd_iret (M := MX6_life) (pc := 54) dX6_life_54 rfl
theorem sX6_life_55 : Snd MX6_life 55 (xLdA 56 0) := snd_aload_n (M := MX6_life) (pc := 55) dX6_life_55
theorem sX6_life_56 : Snd MX6_life 56 (xGf 59 6 11) := snd_gf (M := MX6_life) (pc := 56) (C0 := RX6) (T0 := TX6) (N := 32) dX6_life_56 rfl tbX6 (by decide) w449
theorem sX6_life_59 : Snd MX6_life 59 (xLdI 60 1) := snd_iload_n (M := MX6_life) (pc := 59) dX6_life_59
theorem sX6_life_60 : Snd MX6_life 60 (xiaload 61) := snd_iaload (M := MX6_life) (pc := 60) dX6_life_60
theorem sX6_life_61 : Snd MX6_life 61 (xRet) := snd_iret (M := MX6_life) (pc := 61) dX6_life_61 rfl
theorem sX6_life_62 : Snd MX6_life 62 (xLdA 63 0) := snd_aload_n (M := MX6_life) (pc := 62) dX6_life_62
theorem sX6_life_63 : Snd MX6_life 63 (xGf 66 6 12) := snd_gf (M := MX6_life) (pc := 63) (C0 := RX6) (T0 := TX6) (N := 32) dX6_life_63 rfl tbX6 (by decide) w450
theorem sX6_life_66 : Snd MX6_life 66 (xLdI 67 1) := snd_iload_n (M := MX6_life) (pc := 66) dX6_life_66
theorem sX6_life_67 : Snd MX6_life 67 (xiaload 68) := snd_iaload (M := MX6_life) (pc := 67) dX6_life_67
theorem sX6_life_68 : Snd MX6_life 68 (xRet) := snd_iret (M := MX6_life) (pc := 68) dX6_life_68 rfl
theorem sX6_life_69 : Snd MX6_life 69 (xLdA 70 0) := snd_aload_n (M := MX6_life) (pc := 69) dX6_life_69
theorem sX6_life_70 : Snd MX6_life 70 (xGf 73 6 13) := snd_gf (M := MX6_life) (pc := 70) (C0 := RX6) (T0 := TX6) (N := 32) dX6_life_70 rfl tbX6 (by decide) w451
theorem sX6_life_73 : Snd MX6_life 73 (xLdI 74 1) := snd_iload_n (M := MX6_life) (pc := 73) dX6_life_73
theorem sX6_life_74 : Snd MX6_life 74 (xiaload 75) := snd_iaload (M := MX6_life) (pc := 74) dX6_life_74
theorem sX6_life_75 : Snd MX6_life 75 (xRet) := snd_iret (M := MX6_life) (pc := 75) dX6_life_75 rfl
theorem sX6_life_76 : Snd MX6_life 76 (xLdA 77 0) := snd_aload_n (M := MX6_life) (pc := 76) dX6_life_76
theorem sX6_life_77 : Snd MX6_life 77 (xLdI 78 1) := snd_iload_n (M := MX6_life) (pc := 77) dX6_life_77
theorem sX6_life_78 : Snd MX6_life 78 (xLdA 79 0) := snd_aload_n (M := MX6_life) (pc := 78) dX6_life_78
theorem sX6_life_79 : Snd MX6_life 79 (xGf 82 6 0) := snd_gf (M := MX6_life) (pc := 79) (C0 := RX6) (T0 := TX6) (N := 32) dX6_life_79 rfl tbX6 (by decide) w444
theorem sX6_life_82 : Snd MX6_life 82 (xK 83 (nI 2)) := snd_iconst (M := MX6_life) (pc := 82) dX6_life_82 (by decide +kernel)
theorem sX6_life_83 : Snd MX6_life 83 (xiaload 84) := snd_iaload (M := MX6_life) (pc := 83) dX6_life_83
theorem sX6_life_84 : Snd MX6_life 84 (xCallV MX6_canBy 6 2 87) := snd_callV (M := MX6_life) (pc := 84) (n := 2) dX6_life_84 rfl w536 w537 w538 ⟨w462, w535, ⟨by decide, by decide, by decide +kernel⟩, by decide⟩ ⟨rfl, rfl⟩
theorem sX6_life_87 : Snd MX6_life 87 (xZ_eq 94 90) := snd_if_eq (M := MX6_life) (pc := 87) dX6_life_87 (by decide)
theorem sX6_life_90 : Snd MX6_life 90 (xK 91 (nI 1)) := snd_iconst (M := MX6_life) (pc := 90) dX6_life_90 (by decide +kernel)
theorem sX6_life_91 : Snd MX6_life 91 (xGo 95) := snd_goto (M := MX6_life) (pc := 91) dX6_life_91 (by decide)
theorem sX6_life_94 : Snd MX6_life 94 (xK 95 (nI 0)) := snd_iconst (M := MX6_life) (pc := 94) dX6_life_94 (by decide +kernel)
theorem sX6_life_95 : Snd MX6_life 95 (xRet) := snd_iret (M := MX6_life) (pc := 95) dX6_life_95 rfl
theorem sX6_life_96 : Snd MX6_life 96 (xLdA 97 0) := snd_aload_n (M := MX6_life) (pc := 96) dX6_life_96
theorem sX6_life_97 : Snd MX6_life 97 (xGf 100 6 0) := snd_gf (M := MX6_life) (pc := 97) (C0 := RX6) (T0 := TX6) (N := 32) dX6_life_97 rfl tbX6 (by decide) w444
theorem sX6_life_100 : Snd MX6_life 100 (xK 101 (nI 3)) := snd_iconst (M := MX6_life) (pc := 100) dX6_life_100 (by decide +kernel)
theorem sX6_life_101 : Snd MX6_life 101 (xiaload 102) := snd_iaload (M := MX6_life) (pc := 101) dX6_life_101
theorem sX6_life_102 : Snd MX6_life 102 (xLdI 103 1) := snd_iload_n (M := MX6_life) (pc := 102) dX6_life_102
theorem sX6_life_103 : Snd MX6_life 103 (xBin 104 f_ishr) := snd_ishr (M := MX6_life) (pc := 103) dX6_life_103
theorem sX6_life_104 : Snd MX6_life 104 (xK 105 (nI 1)) := snd_iconst (M := MX6_life) (pc := 104) dX6_life_104 (by decide +kernel)
theorem sX6_life_105 : Snd MX6_life 105 (xBin 106 f_iand) := snd_iand (M := MX6_life) (pc := 105) dX6_life_105
theorem sX6_life_106 : Snd MX6_life 106 (xRet) := snd_iret (M := MX6_life) (pc := 106) dX6_life_106 rfl
theorem sX6_life_107 : Snd MX6_life 107 (xK 108 ((-1))) := snd_iconst (M := MX6_life) (pc := 107) dX6_life_107 (by decide +kernel)
theorem sX6_life_108 : Snd MX6_life 108 (xRet) := snd_iret (M := MX6_life) (pc := 108) dX6_life_108 rfl
theorem VX6_life : Valid MX6_life LX6_life := va_lid sX6_life_0 (va_lid sX6_life_1 (va_lid sX6_life_2 (va_lid sX6_life_5 (va_lid sX6_life_8 (va_lid sX6_life_9 (va_lid sX6_life_10 (va_lid sX6_life_11 (va_lid sX6_life_48 (va_lid sX6_life_49 (va_lid sX6_life_52 (va_lid sX6_life_53 (va_lid sX6_life_54 (va_lid sX6_life_55 (va_lid sX6_life_56 (va_lid sX6_life_59 (va_lid sX6_life_60 (va_lid sX6_life_61 (va_lid sX6_life_62 (va_lid sX6_life_63 (va_lid sX6_life_66 (va_lid sX6_life_67 (va_lid sX6_life_68 (va_lid sX6_life_69 (va_lid sX6_life_70 (va_lid sX6_life_73 (va_lid sX6_life_74 (va_lid sX6_life_75 (va_lid sX6_life_76 (va_lid sX6_life_77 (va_lid sX6_life_78 (va_lid sX6_life_79 (va_lid sX6_life_82 (va_lid sX6_life_83 (va_lid sX6_life_84 (va_lid sX6_life_87 (va_lid sX6_life_90 (va_lid sX6_life_91 (va_lid sX6_life_94 (va_lid sX6_life_95 (va_lid sX6_life_96 (va_lid sX6_life_97 (va_lid sX6_life_100 (va_lid sX6_life_101 (va_lid sX6_life_102 (va_lid sX6_life_103 (va_lid sX6_life_104 (va_lid sX6_life_105 (va_lid sX6_life_106 (va_lid sX6_life_107 (va_lid sX6_life_108 (va_lid0)))))))))))))))))))))))))))))))))))))))))))))))))))
theorem kX6_life_0 : lk LX6_life 0 = some (xLdA 1 0) := rfl
theorem kX6_life_1 : lk LX6_life 1 = some (xLdI 2 1) := rfl
theorem kX6_life_2 : lk LX6_life 2 = some (xCallV MX6_isLife 6 1 5) := rfl
theorem kX6_life_5 : lk LX6_life 5 = some (xZ_ne 10 8) := rfl
theorem kX6_life_8 : lk LX6_life 8 = some (xK 9 ((-1))) := rfl
theorem kX6_life_9 : lk LX6_life 9 = some (xRet) := rfl
theorem kX6_life_10 : lk LX6_life 10 = some (xLdI 11 2) := rfl
theorem kX6_life_11 : lk LX6_life 11 = some (xTsw 107 0 [48, 55, 62, 69, 76, 96]) := rfl
theorem kX6_life_48 : lk LX6_life 48 = some (xLdA 49 0) := rfl
theorem kX6_life_49 : lk LX6_life 49 = some (xGf 52 6 10) := rfl
theorem kX6_life_52 : lk LX6_life 52 = some (xLdI 53 1) := rfl
theorem kX6_life_53 : lk LX6_life 53 = some (xiaload 54) := rfl
theorem kX6_life_54 : lk LX6_life 54 = some (xRet) := rfl
theorem kX6_life_55 : lk LX6_life 55 = some (xLdA 56 0) := rfl
theorem kX6_life_56 : lk LX6_life 56 = some (xGf 59 6 11) := rfl
theorem kX6_life_59 : lk LX6_life 59 = some (xLdI 60 1) := rfl
theorem kX6_life_60 : lk LX6_life 60 = some (xiaload 61) := rfl
theorem kX6_life_61 : lk LX6_life 61 = some (xRet) := rfl
theorem kX6_life_62 : lk LX6_life 62 = some (xLdA 63 0) := rfl
theorem kX6_life_63 : lk LX6_life 63 = some (xGf 66 6 12) := rfl
theorem kX6_life_66 : lk LX6_life 66 = some (xLdI 67 1) := rfl
theorem kX6_life_67 : lk LX6_life 67 = some (xiaload 68) := rfl
theorem kX6_life_68 : lk LX6_life 68 = some (xRet) := rfl
theorem kX6_life_69 : lk LX6_life 69 = some (xLdA 70 0) := rfl
theorem kX6_life_70 : lk LX6_life 70 = some (xGf 73 6 13) := rfl
theorem kX6_life_73 : lk LX6_life 73 = some (xLdI 74 1) := rfl
theorem kX6_life_74 : lk LX6_life 74 = some (xiaload 75) := rfl
theorem kX6_life_75 : lk LX6_life 75 = some (xRet) := rfl
theorem kX6_life_76 : lk LX6_life 76 = some (xLdA 77 0) := rfl
theorem kX6_life_77 : lk LX6_life 77 = some (xLdI 78 1) := rfl
theorem kX6_life_78 : lk LX6_life 78 = some (xLdA 79 0) := rfl
theorem kX6_life_79 : lk LX6_life 79 = some (xGf 82 6 0) := rfl
theorem kX6_life_82 : lk LX6_life 82 = some (xK 83 (nI 2)) := rfl
theorem kX6_life_83 : lk LX6_life 83 = some (xiaload 84) := rfl
theorem kX6_life_84 : lk LX6_life 84 = some (xCallV MX6_canBy 6 2 87) := rfl
theorem kX6_life_87 : lk LX6_life 87 = some (xZ_eq 94 90) := rfl
theorem kX6_life_90 : lk LX6_life 90 = some (xK 91 (nI 1)) := rfl
theorem kX6_life_91 : lk LX6_life 91 = some (xGo 95) := rfl
theorem kX6_life_94 : lk LX6_life 94 = some (xK 95 (nI 0)) := rfl
theorem kX6_life_95 : lk LX6_life 95 = some (xRet) := rfl
theorem kX6_life_96 : lk LX6_life 96 = some (xLdA 97 0) := rfl
theorem kX6_life_97 : lk LX6_life 97 = some (xGf 100 6 0) := rfl
theorem kX6_life_100 : lk LX6_life 100 = some (xK 101 (nI 3)) := rfl
theorem kX6_life_101 : lk LX6_life 101 = some (xiaload 102) := rfl
theorem kX6_life_102 : lk LX6_life 102 = some (xLdI 103 1) := rfl
theorem kX6_life_103 : lk LX6_life 103 = some (xBin 104 f_ishr) := rfl
theorem kX6_life_104 : lk LX6_life 104 = some (xK 105 (nI 1)) := rfl
theorem kX6_life_105 : lk LX6_life 105 = some (xBin 106 f_iand) := rfl
theorem kX6_life_106 : lk LX6_life 106 = some (xRet) := rfl
theorem kX6_life_107 : lk LX6_life 107 = some (xK 108 ((-1))) := rfl
theorem kX6_life_108 : lk LX6_life 108 = some (xRet) := rfl
def LX6_room : List (Nat × XI) := [(0, xLdA 1 0),
  (1, xLdA 2 0),
  (2, xGf 5 6 0),
  (5, xK 6 (nI 2)),
  (6, xiaload 7),
  (7, xCallV MX6_roomOf 6 1 10),
  (10, xRet)]
theorem sX6_room_0 : Snd MX6_room 0 (xLdA 1 0) := snd_aload_n (M := MX6_room) (pc := 0) dX6_room_0
theorem sX6_room_1 : Snd MX6_room 1 (xLdA 2 0) := snd_aload_n (M := MX6_room) (pc := 1) dX6_room_1
theorem sX6_room_2 : Snd MX6_room 2 (xGf 5 6 0) := snd_gf (M := MX6_room) (pc := 2) (C0 := RX6) (T0 := TX6) (N := 32) dX6_room_2 rfl tbX6 (by decide) w444
theorem sX6_room_5 : Snd MX6_room 5 (xK 6 (nI 2)) := snd_iconst (M := MX6_room) (pc := 5) dX6_room_5 (by decide +kernel)
theorem sX6_room_6 : Snd MX6_room 6 (xiaload 7) := snd_iaload (M := MX6_room) (pc := 6) dX6_room_6
theorem sX6_room_7 : Snd MX6_room 7 (xCallV MX6_roomOf 6 1 10) := snd_callV (M := MX6_room) (pc := 7) (n := 1) dX6_room_7 rfl w552 w553 w554 ⟨w462, w551, ⟨by decide, by decide, by decide +kernel⟩, by decide⟩ ⟨rfl, rfl⟩
theorem sX6_room_10 : Snd MX6_room 10 (xRet) := snd_iret (M := MX6_room) (pc := 10) dX6_room_10 rfl
theorem VX6_room : Valid MX6_room LX6_room := va_lid sX6_room_0 (va_lid sX6_room_1 (va_lid sX6_room_2 (va_lid sX6_room_5 (va_lid sX6_room_6 (va_lid sX6_room_7 (va_lid sX6_room_10 (va_lid0)))))))
theorem kX6_room_0 : lk LX6_room 0 = some (xLdA 1 0) := rfl
theorem kX6_room_1 : lk LX6_room 1 = some (xLdA 2 0) := rfl
theorem kX6_room_2 : lk LX6_room 2 = some (xGf 5 6 0) := rfl
theorem kX6_room_5 : lk LX6_room 5 = some (xK 6 (nI 2)) := rfl
theorem kX6_room_6 : lk LX6_room 6 = some (xiaload 7) := rfl
theorem kX6_room_7 : lk LX6_room 7 = some (xCallV MX6_roomOf 6 1 10) := rfl
theorem kX6_room_10 : lk LX6_room 10 = some (xRet) := rfl
def LX6_isSet : List (Nat × XI) := [(0, xLdI 1 1),
  (1, xI2l 2),
  (2, xKL 3 (lN 0)),
  (3, xK 4 (nI 1)),
  (4, xLdA 5 0),
  (5, xGf 8 6 5),
  (8, xBin 9 f_ishl),
  (9, xK 10 (nI 1)),
  (10, xBin 11 f_isub),
  (11, xI2l 12),
  (12, xCallS MX6_in 3 15),
  (15, xRetZ)]
theorem sX6_isSet_0 : Snd MX6_isSet 0 (xLdI 1 1) := snd_iload_n (M := MX6_isSet) (pc := 0) dX6_isSet_0
theorem sX6_isSet_1 : Snd MX6_isSet 1 (xI2l 2) := snd_i2l (M := MX6_isSet) (pc := 1) dX6_isSet_1
theorem sX6_isSet_2 : Snd MX6_isSet 2 (xKL 3 (lN 0)) := snd_lconst (M := MX6_isSet) (pc := 2) dX6_isSet_2 rfl
theorem sX6_isSet_3 : Snd MX6_isSet 3 (xK 4 (nI 1)) := snd_iconst (M := MX6_isSet) (pc := 3) dX6_isSet_3 (by decide +kernel)
theorem sX6_isSet_4 : Snd MX6_isSet 4 (xLdA 5 0) := snd_aload_n (M := MX6_isSet) (pc := 4) dX6_isSet_4
theorem sX6_isSet_5 : Snd MX6_isSet 5 (xGf 8 6 5) := snd_gf (M := MX6_isSet) (pc := 5) (C0 := RX6) (T0 := TX6) (N := 32) dX6_isSet_5 rfl tbX6 (by decide) w475
theorem sX6_isSet_8 : Snd MX6_isSet 8 (xBin 9 f_ishl) := snd_ishl (M := MX6_isSet) (pc := 8) dX6_isSet_8
theorem sX6_isSet_9 : Snd MX6_isSet 9 (xK 10 (nI 1)) := snd_iconst (M := MX6_isSet) (pc := 9) dX6_isSet_9 (by decide +kernel)
theorem sX6_isSet_10 : Snd MX6_isSet 10 (xBin 11 f_isub) := snd_isub (M := MX6_isSet) (pc := 10) dX6_isSet_10
theorem sX6_isSet_11 : Snd MX6_isSet 11 (xI2l 12) := snd_i2l (M := MX6_isSet) (pc := 11) dX6_isSet_11
theorem sX6_isSet_12 : Snd MX6_isSet 12 (xCallS MX6_in 3 15) := snd_callS (M := MX6_isSet) (pc := 12) (n := 3) dX6_isSet_12 w477 w478 ⟨w462, w476, ⟨by decide, by decide, by decide +kernel⟩, by decide⟩ ⟨rfl, rfl⟩
theorem sX6_isSet_15 : Snd MX6_isSet 15 (xRetZ) := snd_zret (M := MX6_isSet) (pc := 15) dX6_isSet_15 rfl
theorem VX6_isSet : Valid MX6_isSet LX6_isSet := va_lid sX6_isSet_0 (va_lid sX6_isSet_1 (va_lid sX6_isSet_2 (va_lid sX6_isSet_3 (va_lid sX6_isSet_4 (va_lid sX6_isSet_5 (va_lid sX6_isSet_8 (va_lid sX6_isSet_9 (va_lid sX6_isSet_10 (va_lid sX6_isSet_11 (va_lid sX6_isSet_12 (va_lid sX6_isSet_15 (va_lid0))))))))))))
theorem kX6_isSet_0 : lk LX6_isSet 0 = some (xLdI 1 1) := rfl
theorem kX6_isSet_1 : lk LX6_isSet 1 = some (xI2l 2) := rfl
theorem kX6_isSet_2 : lk LX6_isSet 2 = some (xKL 3 (lN 0)) := rfl
theorem kX6_isSet_3 : lk LX6_isSet 3 = some (xK 4 (nI 1)) := rfl
theorem kX6_isSet_4 : lk LX6_isSet 4 = some (xLdA 5 0) := rfl
theorem kX6_isSet_5 : lk LX6_isSet 5 = some (xGf 8 6 5) := rfl
theorem kX6_isSet_8 : lk LX6_isSet 8 = some (xBin 9 f_ishl) := rfl
theorem kX6_isSet_9 : lk LX6_isSet 9 = some (xK 10 (nI 1)) := rfl
theorem kX6_isSet_10 : lk LX6_isSet 10 = some (xBin 11 f_isub) := rfl
theorem kX6_isSet_11 : lk LX6_isSet 11 = some (xI2l 12) := rfl
theorem kX6_isSet_12 : lk LX6_isSet 12 = some (xCallS MX6_in 3 15) := rfl
theorem kX6_isSet_15 : lk LX6_isSet 15 = some (xRetZ) := rfl
def LX6_worth : List (Nat × XI) := [(0, xLdA 1 0),
  (1, xLdI 2 1),
  (2, xCallV MX6_isSet 6 1 5),
  (5, xZ_eq 27 8),
  (8, xLdI 9 2),
  (9, xI2l 10),
  (10, xKL 11 (lN 0)),
  (11, xKL 12 (lN 1)),
  (12, xCallS MX6_in 3 15),
  (15, xZ_eq 27 18),
  (18, xLdA 19 0),
  (19, xLdI 20 1),
  (20, xLdI 21 2),
  (21, xCallV MX6_worthPart 6 2 24),
  (24, xGo 28),
  (27, xK 28 ((-1))),
  (28, xRet)]
theorem sX6_worth_0 : Snd MX6_worth 0 (xLdA 1 0) := snd_aload_n (M := MX6_worth) (pc := 0) dX6_worth_0
theorem sX6_worth_1 : Snd MX6_worth 1 (xLdI 2 1) := snd_iload_n (M := MX6_worth) (pc := 1) dX6_worth_1
theorem sX6_worth_2 : Snd MX6_worth 2 (xCallV MX6_isSet 6 1 5) := snd_callV (M := MX6_worth) (pc := 2) (n := 1) dX6_worth_2 rfl w576 w577 w578 ⟨w462, w575, ⟨by decide, by decide, by decide +kernel⟩, by decide⟩ ⟨rfl, rfl⟩
theorem sX6_worth_5 : Snd MX6_worth 5 (xZ_eq 27 8) := snd_if_eq (M := MX6_worth) (pc := 5) dX6_worth_5 (by decide)
theorem sX6_worth_8 : Snd MX6_worth 8 (xLdI 9 2) := snd_iload_n (M := MX6_worth) (pc := 8) dX6_worth_8
theorem sX6_worth_9 : Snd MX6_worth 9 (xI2l 10) := snd_i2l (M := MX6_worth) (pc := 9) dX6_worth_9
theorem sX6_worth_10 : Snd MX6_worth 10 (xKL 11 (lN 0)) := snd_lconst (M := MX6_worth) (pc := 10) dX6_worth_10 rfl
theorem sX6_worth_11 : Snd MX6_worth 11 (xKL 12 (lN 1)) := snd_lconst (M := MX6_worth) (pc := 11) dX6_worth_11 rfl
theorem sX6_worth_12 : Snd MX6_worth 12 (xCallS MX6_in 3 15) := snd_callS (M := MX6_worth) (pc := 12) (n := 3) dX6_worth_12 w477 w478 ⟨w462, w476, ⟨by decide, by decide, by decide +kernel⟩, by decide⟩ ⟨rfl, rfl⟩
theorem sX6_worth_15 : Snd MX6_worth 15 (xZ_eq 27 18) := snd_if_eq (M := MX6_worth) (pc := 15) dX6_worth_15 (by decide)
theorem sX6_worth_18 : Snd MX6_worth 18 (xLdA 19 0) := snd_aload_n (M := MX6_worth) (pc := 18) dX6_worth_18
theorem sX6_worth_19 : Snd MX6_worth 19 (xLdI 20 1) := snd_iload_n (M := MX6_worth) (pc := 19) dX6_worth_19
theorem sX6_worth_20 : Snd MX6_worth 20 (xLdI 21 2) := snd_iload_n (M := MX6_worth) (pc := 20) dX6_worth_20
theorem sX6_worth_21 : Snd MX6_worth 21 (xCallV MX6_worthPart 6 2 24) := snd_callV (M := MX6_worth) (pc := 21) (n := 2) dX6_worth_21 rfl w580 w581 w582 ⟨w462, w579, ⟨by decide, by decide, by decide +kernel⟩, by decide⟩ ⟨rfl, rfl⟩
theorem sX6_worth_24 : Snd MX6_worth 24 (xGo 28) := snd_goto (M := MX6_worth) (pc := 24) dX6_worth_24 (by decide)
theorem sX6_worth_27 : Snd MX6_worth 27 (xK 28 ((-1))) := snd_iconst (M := MX6_worth) (pc := 27) dX6_worth_27 (by decide +kernel)
theorem sX6_worth_28 : Snd MX6_worth 28 (xRet) := snd_iret (M := MX6_worth) (pc := 28) dX6_worth_28 rfl
theorem VX6_worth : Valid MX6_worth LX6_worth := va_lid sX6_worth_0 (va_lid sX6_worth_1 (va_lid sX6_worth_2 (va_lid sX6_worth_5 (va_lid sX6_worth_8 (va_lid sX6_worth_9 (va_lid sX6_worth_10 (va_lid sX6_worth_11 (va_lid sX6_worth_12 (va_lid sX6_worth_15 (va_lid sX6_worth_18 (va_lid sX6_worth_19 (va_lid sX6_worth_20 (va_lid sX6_worth_21 (va_lid sX6_worth_24 (va_lid sX6_worth_27 (va_lid sX6_worth_28 (va_lid0)))))))))))))))))
theorem kX6_worth_0 : lk LX6_worth 0 = some (xLdA 1 0) := rfl
theorem kX6_worth_1 : lk LX6_worth 1 = some (xLdI 2 1) := rfl
theorem kX6_worth_2 : lk LX6_worth 2 = some (xCallV MX6_isSet 6 1 5) := rfl
theorem kX6_worth_5 : lk LX6_worth 5 = some (xZ_eq 27 8) := rfl
theorem kX6_worth_8 : lk LX6_worth 8 = some (xLdI 9 2) := rfl
theorem kX6_worth_9 : lk LX6_worth 9 = some (xI2l 10) := rfl
theorem kX6_worth_10 : lk LX6_worth 10 = some (xKL 11 (lN 0)) := rfl
theorem kX6_worth_11 : lk LX6_worth 11 = some (xKL 12 (lN 1)) := rfl
theorem kX6_worth_12 : lk LX6_worth 12 = some (xCallS MX6_in 3 15) := rfl
theorem kX6_worth_15 : lk LX6_worth 15 = some (xZ_eq 27 18) := rfl
theorem kX6_worth_18 : lk LX6_worth 18 = some (xLdA 19 0) := rfl
theorem kX6_worth_19 : lk LX6_worth 19 = some (xLdI 20 1) := rfl
theorem kX6_worth_20 : lk LX6_worth 20 = some (xLdI 21 2) := rfl
theorem kX6_worth_21 : lk LX6_worth 21 = some (xCallV MX6_worthPart 6 2 24) := rfl
theorem kX6_worth_24 : lk LX6_worth 24 = some (xGo 28) := rfl
theorem kX6_worth_27 : lk LX6_worth 27 = some (xK 28 ((-1))) := rfl
theorem kX6_worth_28 : lk LX6_worth 28 = some (xRet) := rfl
def LX6_minds : List (Nat × XI) := [(0, xLdA 1 0),
  (1, xGf 4 6 1),
  (4, xK 6 (nI 8)),
  (6, xC_ne 53 9),
  (9, xK 10 (nI 0)),
  (10, xStI 11 1),
  (11, xLdI 12 1),
  (12, xK 14 (nI 28)),
  (14, xC_ge 43 17),
  (17, xLdA 18 0),
  (18, xGf 21 6 0),
  (21, xK 23 (nI 16)),
  (23, xLdI 24 1),
  (24, xBin 25 f_iadd),
  (25, xLdA 26 0),
  (26, xGf 29 6 0),
  (29, xK 31 (nI 16)),
  (31, xLdI 32 1),
  (32, xBin 33 f_iadd),
  (33, xK 34 (nI 4)),
  (34, xBin 35 f_iadd),
  (35, xiaload 36),
  (36, xiastore 37),
  (37, xInc 40 1 (nI 1)),
  (40, xGo 11),
  (43, xLdA 44 0),
  (44, xDup 45),
  (45, xGf 48 6 1),
  (48, xK 49 (nI 1)),
  (49, xBin 50 f_isub),
  (50, xPfI 53 6 1),
  (53, xLdA 54 0),
  (54, xK 55 (nI 0)),
  (55, xK 57 (nI 16)),
  (57, xK 58 (nI 4)),
  (58, xLdA 59 0),
  (59, xGf 62 6 1),
  (62, xBin 63 f_imul),
  (63, xBin 64 f_iadd),
  (64, xCallV MX6_copy 6 2 67),
  (67, xLdA 68 0),
  (68, xDup 69),
  (69, xGf 72 6 1),
  (72, xK 73 (nI 1)),
  (73, xBin 74 f_iadd),
  (74, xPfI 77 6 1),
  (77, xRetV)]
theorem sX6_minds_0 : Snd MX6_minds 0 (xLdA 1 0) := snd_aload_n (M := MX6_minds) (pc := 0) dX6_minds_0
theorem sX6_minds_1 : Snd MX6_minds 1 (xGf 4 6 1) := snd_gf (M := MX6_minds) (pc := 1) (C0 := RX6) (T0 := TX6) (N := 32) dX6_minds_1 rfl tbX6 (by decide) w484
theorem sX6_minds_4 : Snd MX6_minds 4 (xK 6 (nI 8)) := snd_bipush (M := MX6_minds) (pc := 4) dX6_minds_4 (by decide +kernel)
theorem sX6_minds_6 : Snd MX6_minds 6 (xC_ne 53 9) := snd_icmp_ne (M := MX6_minds) (pc := 6) dX6_minds_6 (by decide)
theorem sX6_minds_9 : Snd MX6_minds 9 (xK 10 (nI 0)) := snd_iconst (M := MX6_minds) (pc := 9) dX6_minds_9 (by decide +kernel)
theorem sX6_minds_10 : Snd MX6_minds 10 (xStI 11 1) := snd_istore_n (M := MX6_minds) (pc := 10) dX6_minds_10 (by decide)
theorem sX6_minds_11 : Snd MX6_minds 11 (xLdI 12 1) := snd_iload_n (M := MX6_minds) (pc := 11) dX6_minds_11
theorem sX6_minds_12 : Snd MX6_minds 12 (xK 14 (nI 28)) := snd_bipush (M := MX6_minds) (pc := 12) dX6_minds_12 (by decide +kernel)
theorem sX6_minds_14 : Snd MX6_minds 14 (xC_ge 43 17) := snd_icmp_ge (M := MX6_minds) (pc := 14) dX6_minds_14 (by decide)
theorem sX6_minds_17 : Snd MX6_minds 17 (xLdA 18 0) := snd_aload_n (M := MX6_minds) (pc := 17) dX6_minds_17
theorem sX6_minds_18 : Snd MX6_minds 18 (xGf 21 6 0) := snd_gf (M := MX6_minds) (pc := 18) (C0 := RX6) (T0 := TX6) (N := 32) dX6_minds_18 rfl tbX6 (by decide) w444
theorem sX6_minds_21 : Snd MX6_minds 21 (xK 23 (nI 16)) := snd_bipush (M := MX6_minds) (pc := 21) dX6_minds_21 (by decide +kernel)
theorem sX6_minds_23 : Snd MX6_minds 23 (xLdI 24 1) := snd_iload_n (M := MX6_minds) (pc := 23) dX6_minds_23
theorem sX6_minds_24 : Snd MX6_minds 24 (xBin 25 f_iadd) := snd_iadd (M := MX6_minds) (pc := 24) dX6_minds_24
theorem sX6_minds_25 : Snd MX6_minds 25 (xLdA 26 0) := snd_aload_n (M := MX6_minds) (pc := 25) dX6_minds_25
theorem sX6_minds_26 : Snd MX6_minds 26 (xGf 29 6 0) := snd_gf (M := MX6_minds) (pc := 26) (C0 := RX6) (T0 := TX6) (N := 32) dX6_minds_26 rfl tbX6 (by decide) w444
theorem sX6_minds_29 : Snd MX6_minds 29 (xK 31 (nI 16)) := snd_bipush (M := MX6_minds) (pc := 29) dX6_minds_29 (by decide +kernel)
theorem sX6_minds_31 : Snd MX6_minds 31 (xLdI 32 1) := snd_iload_n (M := MX6_minds) (pc := 31) dX6_minds_31
theorem sX6_minds_32 : Snd MX6_minds 32 (xBin 33 f_iadd) := snd_iadd (M := MX6_minds) (pc := 32) dX6_minds_32
theorem sX6_minds_33 : Snd MX6_minds 33 (xK 34 (nI 4)) := snd_iconst (M := MX6_minds) (pc := 33) dX6_minds_33 (by decide +kernel)
theorem sX6_minds_34 : Snd MX6_minds 34 (xBin 35 f_iadd) := snd_iadd (M := MX6_minds) (pc := 34) dX6_minds_34
theorem sX6_minds_35 : Snd MX6_minds 35 (xiaload 36) := snd_iaload (M := MX6_minds) (pc := 35) dX6_minds_35
theorem sX6_minds_36 : Snd MX6_minds 36 (xiastore 37) := snd_iastore (M := MX6_minds) (pc := 36) dX6_minds_36
theorem sX6_minds_37 : Snd MX6_minds 37 (xInc 40 1 (nI 1)) := snd_iinc (M := MX6_minds) (pc := 37) dX6_minds_37 (by decide +kernel) (by decide)
theorem sX6_minds_40 : Snd MX6_minds 40 (xGo 11) := snd_goto (M := MX6_minds) (pc := 40) dX6_minds_40 (by decide)
theorem sX6_minds_43 : Snd MX6_minds 43 (xLdA 44 0) := snd_aload_n (M := MX6_minds) (pc := 43) dX6_minds_43
theorem sX6_minds_44 : Snd MX6_minds 44 (xDup 45) := snd_dup (M := MX6_minds) (pc := 44) dX6_minds_44
theorem sX6_minds_45 : Snd MX6_minds 45 (xGf 48 6 1) := snd_gf (M := MX6_minds) (pc := 45) (C0 := RX6) (T0 := TX6) (N := 32) dX6_minds_45 rfl tbX6 (by decide) w484
theorem sX6_minds_48 : Snd MX6_minds 48 (xK 49 (nI 1)) := snd_iconst (M := MX6_minds) (pc := 48) dX6_minds_48 (by decide +kernel)
theorem sX6_minds_49 : Snd MX6_minds 49 (xBin 50 f_isub) := snd_isub (M := MX6_minds) (pc := 49) dX6_minds_49
theorem sX6_minds_50 : Snd MX6_minds 50 (xPfI 53 6 1) := snd_pfI (M := MX6_minds) (pc := 50) (C0 := RX6) (T0 := TX6) (N := 32) dX6_minds_50 rfl tbX6 tyX6 tyX6_ok nmX6 (by decide) w484 rfl (by decide +kernel)
theorem sX6_minds_53 : Snd MX6_minds 53 (xLdA 54 0) := snd_aload_n (M := MX6_minds) (pc := 53) dX6_minds_53
theorem sX6_minds_54 : Snd MX6_minds 54 (xK 55 (nI 0)) := snd_iconst (M := MX6_minds) (pc := 54) dX6_minds_54 (by decide +kernel)
theorem sX6_minds_55 : Snd MX6_minds 55 (xK 57 (nI 16)) := snd_bipush (M := MX6_minds) (pc := 55) dX6_minds_55 (by decide +kernel)
theorem sX6_minds_57 : Snd MX6_minds 57 (xK 58 (nI 4)) := snd_iconst (M := MX6_minds) (pc := 57) dX6_minds_57 (by decide +kernel)
theorem sX6_minds_58 : Snd MX6_minds 58 (xLdA 59 0) := snd_aload_n (M := MX6_minds) (pc := 58) dX6_minds_58
theorem sX6_minds_59 : Snd MX6_minds 59 (xGf 62 6 1) := snd_gf (M := MX6_minds) (pc := 59) (C0 := RX6) (T0 := TX6) (N := 32) dX6_minds_59 rfl tbX6 (by decide) w484
theorem sX6_minds_62 : Snd MX6_minds 62 (xBin 63 f_imul) := snd_imul (M := MX6_minds) (pc := 62) dX6_minds_62
theorem sX6_minds_63 : Snd MX6_minds 63 (xBin 64 f_iadd) := snd_iadd (M := MX6_minds) (pc := 63) dX6_minds_63
theorem sX6_minds_64 : Snd MX6_minds 64 (xCallV MX6_copy 6 2 67) := snd_callV (M := MX6_minds) (pc := 64) (n := 2) dX6_minds_64 rfl w584 w585 w586 ⟨w462, w583, ⟨by decide, by decide, by decide +kernel⟩, by decide⟩ ⟨rfl, rfl⟩
theorem sX6_minds_67 : Snd MX6_minds 67 (xLdA 68 0) := snd_aload_n (M := MX6_minds) (pc := 67) dX6_minds_67
theorem sX6_minds_68 : Snd MX6_minds 68 (xDup 69) := snd_dup (M := MX6_minds) (pc := 68) dX6_minds_68
theorem sX6_minds_69 : Snd MX6_minds 69 (xGf 72 6 1) := snd_gf (M := MX6_minds) (pc := 69) (C0 := RX6) (T0 := TX6) (N := 32) dX6_minds_69 rfl tbX6 (by decide) w484
theorem sX6_minds_72 : Snd MX6_minds 72 (xK 73 (nI 1)) := snd_iconst (M := MX6_minds) (pc := 72) dX6_minds_72 (by decide +kernel)
theorem sX6_minds_73 : Snd MX6_minds 73 (xBin 74 f_iadd) := snd_iadd (M := MX6_minds) (pc := 73) dX6_minds_73
theorem sX6_minds_74 : Snd MX6_minds 74 (xPfI 77 6 1) := snd_pfI (M := MX6_minds) (pc := 74) (C0 := RX6) (T0 := TX6) (N := 32) dX6_minds_74 rfl tbX6 tyX6 tyX6_ok nmX6 (by decide) w484 rfl (by decide +kernel)
theorem sX6_minds_77 : Snd MX6_minds 77 (xRetV) := snd_vret (M := MX6_minds) (pc := 77) dX6_minds_77 rfl
theorem VX6_minds : Valid MX6_minds LX6_minds := va_lid sX6_minds_0 (va_lid sX6_minds_1 (va_lid sX6_minds_4 (va_lid sX6_minds_6 (va_lid sX6_minds_9 (va_lid sX6_minds_10 (va_lid sX6_minds_11 (va_lid sX6_minds_12 (va_lid sX6_minds_14 (va_lid sX6_minds_17 (va_lid sX6_minds_18 (va_lid sX6_minds_21 (va_lid sX6_minds_23 (va_lid sX6_minds_24 (va_lid sX6_minds_25 (va_lid sX6_minds_26 (va_lid sX6_minds_29 (va_lid sX6_minds_31 (va_lid sX6_minds_32 (va_lid sX6_minds_33 (va_lid sX6_minds_34 (va_lid sX6_minds_35 (va_lid sX6_minds_36 (va_lid sX6_minds_37 (va_lid sX6_minds_40 (va_lid sX6_minds_43 (va_lid sX6_minds_44 (va_lid sX6_minds_45 (va_lid sX6_minds_48 (va_lid sX6_minds_49 (va_lid sX6_minds_50 (va_lid sX6_minds_53 (va_lid sX6_minds_54 (va_lid sX6_minds_55 (va_lid sX6_minds_57 (va_lid sX6_minds_58 (va_lid sX6_minds_59 (va_lid sX6_minds_62 (va_lid sX6_minds_63 (va_lid sX6_minds_64 (va_lid sX6_minds_67 (va_lid sX6_minds_68 (va_lid sX6_minds_69 (va_lid sX6_minds_72 (va_lid sX6_minds_73 (va_lid sX6_minds_74 (va_lid sX6_minds_77 (va_lid0)))))))))))))))))))))))))))))))))))))))))))))))
theorem kX6_minds_0 : lk LX6_minds 0 = some (xLdA 1 0) := rfl
theorem kX6_minds_1 : lk LX6_minds 1 = some (xGf 4 6 1) := rfl
theorem kX6_minds_4 : lk LX6_minds 4 = some (xK 6 (nI 8)) := rfl
theorem kX6_minds_6 : lk LX6_minds 6 = some (xC_ne 53 9) := rfl
theorem kX6_minds_9 : lk LX6_minds 9 = some (xK 10 (nI 0)) := rfl
theorem kX6_minds_10 : lk LX6_minds 10 = some (xStI 11 1) := rfl
theorem kX6_minds_11 : lk LX6_minds 11 = some (xLdI 12 1) := rfl
theorem kX6_minds_12 : lk LX6_minds 12 = some (xK 14 (nI 28)) := rfl
theorem kX6_minds_14 : lk LX6_minds 14 = some (xC_ge 43 17) := rfl
theorem kX6_minds_17 : lk LX6_minds 17 = some (xLdA 18 0) := rfl
theorem kX6_minds_18 : lk LX6_minds 18 = some (xGf 21 6 0) := rfl
theorem kX6_minds_21 : lk LX6_minds 21 = some (xK 23 (nI 16)) := rfl
theorem kX6_minds_23 : lk LX6_minds 23 = some (xLdI 24 1) := rfl
theorem kX6_minds_24 : lk LX6_minds 24 = some (xBin 25 f_iadd) := rfl
theorem kX6_minds_25 : lk LX6_minds 25 = some (xLdA 26 0) := rfl
theorem kX6_minds_26 : lk LX6_minds 26 = some (xGf 29 6 0) := rfl
theorem kX6_minds_29 : lk LX6_minds 29 = some (xK 31 (nI 16)) := rfl
theorem kX6_minds_31 : lk LX6_minds 31 = some (xLdI 32 1) := rfl
theorem kX6_minds_32 : lk LX6_minds 32 = some (xBin 33 f_iadd) := rfl
theorem kX6_minds_33 : lk LX6_minds 33 = some (xK 34 (nI 4)) := rfl
theorem kX6_minds_34 : lk LX6_minds 34 = some (xBin 35 f_iadd) := rfl
theorem kX6_minds_35 : lk LX6_minds 35 = some (xiaload 36) := rfl
theorem kX6_minds_36 : lk LX6_minds 36 = some (xiastore 37) := rfl
theorem kX6_minds_37 : lk LX6_minds 37 = some (xInc 40 1 (nI 1)) := rfl
theorem kX6_minds_40 : lk LX6_minds 40 = some (xGo 11) := rfl
theorem kX6_minds_43 : lk LX6_minds 43 = some (xLdA 44 0) := rfl
theorem kX6_minds_44 : lk LX6_minds 44 = some (xDup 45) := rfl
theorem kX6_minds_45 : lk LX6_minds 45 = some (xGf 48 6 1) := rfl
theorem kX6_minds_48 : lk LX6_minds 48 = some (xK 49 (nI 1)) := rfl
theorem kX6_minds_49 : lk LX6_minds 49 = some (xBin 50 f_isub) := rfl
theorem kX6_minds_50 : lk LX6_minds 50 = some (xPfI 53 6 1) := rfl
theorem kX6_minds_53 : lk LX6_minds 53 = some (xLdA 54 0) := rfl
theorem kX6_minds_54 : lk LX6_minds 54 = some (xK 55 (nI 0)) := rfl
theorem kX6_minds_55 : lk LX6_minds 55 = some (xK 57 (nI 16)) := rfl
theorem kX6_minds_57 : lk LX6_minds 57 = some (xK 58 (nI 4)) := rfl
theorem kX6_minds_58 : lk LX6_minds 58 = some (xLdA 59 0) := rfl
theorem kX6_minds_59 : lk LX6_minds 59 = some (xGf 62 6 1) := rfl
theorem kX6_minds_62 : lk LX6_minds 62 = some (xBin 63 f_imul) := rfl
theorem kX6_minds_63 : lk LX6_minds 63 = some (xBin 64 f_iadd) := rfl
theorem kX6_minds_64 : lk LX6_minds 64 = some (xCallV MX6_copy 6 2 67) := rfl
theorem kX6_minds_67 : lk LX6_minds 67 = some (xLdA 68 0) := rfl
theorem kX6_minds_68 : lk LX6_minds 68 = some (xDup 69) := rfl
theorem kX6_minds_69 : lk LX6_minds 69 = some (xGf 72 6 1) := rfl
theorem kX6_minds_72 : lk LX6_minds 72 = some (xK 73 (nI 1)) := rfl
theorem kX6_minds_73 : lk LX6_minds 73 = some (xBin 74 f_iadd) := rfl
theorem kX6_minds_74 : lk LX6_minds 74 = some (xPfI 77 6 1) := rfl
theorem kX6_minds_77 : lk LX6_minds 77 = some (xRetV) := rfl
def LX6_put : List (Nat × XI) := [(0, xLdA 1 0),
  (1, xLdI 2 1),
  (2, xCallV MX6_isThing 6 1 5),
  (5, xZ_ne 10 8),
  (8, xK 9 ((-1))),
  (9, xRet),
  (10, xLdA 11 0),
  (11, xK 12 (nI 0)),
  (12, xLdI 13 1),
  (13, xCallV MX6_canPut 6 2 16),
  (16, xZ_ne 22 19),
  (19, xK 21 ((-2))),
  (21, xRet),
  (22, xLdA 23 0),
  (23, xCallV MX6_minds 6 0 26),
  (26, xLdA 27 0),
  (27, xK 28 (nI 0)),
  (28, xLdI 29 1),
  (29, xCallV MX6_puts 6 2 32),
  (32, xLdA 33 0),
  (33, xGf 36 6 3),
  (36, xLdA 37 0),
  (37, xLdA 38 0),
  (38, xGf 41 6 0),
  (41, xK 42 (nI 2)),
  (42, xiaload 43),
  (43, xCallV MX6_roomOf 6 1 46),
  (46, xBin 47 f_isub),
  (47, xRet)]
theorem sX6_put_0 : Snd MX6_put 0 (xLdA 1 0) := snd_aload_n (M := MX6_put) (pc := 0) dX6_put_0
theorem sX6_put_1 : Snd MX6_put 1 (xLdI 2 1) := snd_iload_n (M := MX6_put) (pc := 1) dX6_put_1
theorem sX6_put_2 : Snd MX6_put 2 (xCallV MX6_isThing 6 1 5) := snd_callV (M := MX6_put) (pc := 2) (n := 1) dX6_put_2 rfl w560 w561 w562 ⟨w462, w559, ⟨by decide, by decide, by decide +kernel⟩, by decide⟩ ⟨rfl, rfl⟩
theorem sX6_put_5 : Snd MX6_put 5 (xZ_ne 10 8) := snd_if_ne (M := MX6_put) (pc := 5) dX6_put_5 (by decide)
theorem sX6_put_8 : Snd MX6_put 8 (xK 9 ((-1))) := snd_iconst (M := MX6_put) (pc := 8) dX6_put_8 (by decide +kernel)
theorem sX6_put_9 : Snd MX6_put 9 (xRet) := snd_iret (M := MX6_put) (pc := 9) dX6_put_9 rfl
theorem sX6_put_10 : Snd MX6_put 10 (xLdA 11 0) := snd_aload_n (M := MX6_put) (pc := 10) dX6_put_10
theorem sX6_put_11 : Snd MX6_put 11 (xK 12 (nI 0)) := snd_iconst (M := MX6_put) (pc := 11) dX6_put_11 (by decide +kernel)
theorem sX6_put_12 : Snd MX6_put 12 (xLdI 13 1) := snd_iload_n (M := MX6_put) (pc := 12) dX6_put_12
theorem sX6_put_13 : Snd MX6_put 13 (xCallV MX6_canPut 6 2 16) := snd_callV (M := MX6_put) (pc := 13) (n := 2) dX6_put_13 rfl w564 w565 w566 ⟨w462, w563, ⟨by decide, by decide, by decide +kernel⟩, by decide⟩ ⟨rfl, rfl⟩
theorem sX6_put_16 : Snd MX6_put 16 (xZ_ne 22 19) := snd_if_ne (M := MX6_put) (pc := 16) dX6_put_16 (by decide)
theorem sX6_put_19 : Snd MX6_put 19 (xK 21 ((-2))) := snd_bipush (M := MX6_put) (pc := 19) dX6_put_19 (by decide +kernel)
theorem sX6_put_21 : Snd MX6_put 21 (xRet) := snd_iret (M := MX6_put) (pc := 21) dX6_put_21 rfl
theorem sX6_put_22 : Snd MX6_put 22 (xLdA 23 0) := snd_aload_n (M := MX6_put) (pc := 22) dX6_put_22
theorem sX6_put_23 : Snd MX6_put 23 (xCallV MX6_minds 6 0 26) := snd_callV (M := MX6_put) (pc := 23) (n := 0) dX6_put_23 rfl w588 w589 w590 ⟨w462, w587, ⟨by decide, by decide, by decide +kernel⟩, by decide⟩ ⟨rfl, rfl⟩
theorem sX6_put_26 : Snd MX6_put 26 (xLdA 27 0) := snd_aload_n (M := MX6_put) (pc := 26) dX6_put_26
theorem sX6_put_27 : Snd MX6_put 27 (xK 28 (nI 0)) := snd_iconst (M := MX6_put) (pc := 27) dX6_put_27 (by decide +kernel)
theorem sX6_put_28 : Snd MX6_put 28 (xLdI 29 1) := snd_iload_n (M := MX6_put) (pc := 28) dX6_put_28
theorem sX6_put_29 : Snd MX6_put 29 (xCallV MX6_puts 6 2 32) := snd_callV (M := MX6_put) (pc := 29) (n := 2) dX6_put_29 rfl w592 w593 w594 ⟨w462, w591, ⟨by decide, by decide, by decide +kernel⟩, by decide⟩ ⟨rfl, rfl⟩
theorem sX6_put_32 : Snd MX6_put 32 (xLdA 33 0) := snd_aload_n (M := MX6_put) (pc := 32) dX6_put_32
theorem sX6_put_33 : Snd MX6_put 33 (xGf 36 6 3) := snd_gf (M := MX6_put) (pc := 33) (C0 := RX6) (T0 := TX6) (N := 32) dX6_put_33 rfl tbX6 (by decide) w482
theorem sX6_put_36 : Snd MX6_put 36 (xLdA 37 0) := snd_aload_n (M := MX6_put) (pc := 36) dX6_put_36
theorem sX6_put_37 : Snd MX6_put 37 (xLdA 38 0) := snd_aload_n (M := MX6_put) (pc := 37) dX6_put_37
theorem sX6_put_38 : Snd MX6_put 38 (xGf 41 6 0) := snd_gf (M := MX6_put) (pc := 38) (C0 := RX6) (T0 := TX6) (N := 32) dX6_put_38 rfl tbX6 (by decide) w444
theorem sX6_put_41 : Snd MX6_put 41 (xK 42 (nI 2)) := snd_iconst (M := MX6_put) (pc := 41) dX6_put_41 (by decide +kernel)
theorem sX6_put_42 : Snd MX6_put 42 (xiaload 43) := snd_iaload (M := MX6_put) (pc := 42) dX6_put_42
theorem sX6_put_43 : Snd MX6_put 43 (xCallV MX6_roomOf 6 1 46) := snd_callV (M := MX6_put) (pc := 43) (n := 1) dX6_put_43 rfl w552 w553 w554 ⟨w462, w551, ⟨by decide, by decide, by decide +kernel⟩, by decide⟩ ⟨rfl, rfl⟩
theorem sX6_put_46 : Snd MX6_put 46 (xBin 47 f_isub) := snd_isub (M := MX6_put) (pc := 46) dX6_put_46
theorem sX6_put_47 : Snd MX6_put 47 (xRet) := snd_iret (M := MX6_put) (pc := 47) dX6_put_47 rfl
theorem VX6_put : Valid MX6_put LX6_put := va_lid sX6_put_0 (va_lid sX6_put_1 (va_lid sX6_put_2 (va_lid sX6_put_5 (va_lid sX6_put_8 (va_lid sX6_put_9 (va_lid sX6_put_10 (va_lid sX6_put_11 (va_lid sX6_put_12 (va_lid sX6_put_13 (va_lid sX6_put_16 (va_lid sX6_put_19 (va_lid sX6_put_21 (va_lid sX6_put_22 (va_lid sX6_put_23 (va_lid sX6_put_26 (va_lid sX6_put_27 (va_lid sX6_put_28 (va_lid sX6_put_29 (va_lid sX6_put_32 (va_lid sX6_put_33 (va_lid sX6_put_36 (va_lid sX6_put_37 (va_lid sX6_put_38 (va_lid sX6_put_41 (va_lid sX6_put_42 (va_lid sX6_put_43 (va_lid sX6_put_46 (va_lid sX6_put_47 (va_lid0)))))))))))))))))))))))))))))
theorem kX6_put_0 : lk LX6_put 0 = some (xLdA 1 0) := rfl
theorem kX6_put_1 : lk LX6_put 1 = some (xLdI 2 1) := rfl
theorem kX6_put_2 : lk LX6_put 2 = some (xCallV MX6_isThing 6 1 5) := rfl
theorem kX6_put_5 : lk LX6_put 5 = some (xZ_ne 10 8) := rfl
theorem kX6_put_8 : lk LX6_put 8 = some (xK 9 ((-1))) := rfl
theorem kX6_put_9 : lk LX6_put 9 = some (xRet) := rfl
theorem kX6_put_10 : lk LX6_put 10 = some (xLdA 11 0) := rfl
theorem kX6_put_11 : lk LX6_put 11 = some (xK 12 (nI 0)) := rfl
theorem kX6_put_12 : lk LX6_put 12 = some (xLdI 13 1) := rfl
theorem kX6_put_13 : lk LX6_put 13 = some (xCallV MX6_canPut 6 2 16) := rfl
theorem kX6_put_16 : lk LX6_put 16 = some (xZ_ne 22 19) := rfl
theorem kX6_put_19 : lk LX6_put 19 = some (xK 21 ((-2))) := rfl
theorem kX6_put_21 : lk LX6_put 21 = some (xRet) := rfl
theorem kX6_put_22 : lk LX6_put 22 = some (xLdA 23 0) := rfl
theorem kX6_put_23 : lk LX6_put 23 = some (xCallV MX6_minds 6 0 26) := rfl
theorem kX6_put_26 : lk LX6_put 26 = some (xLdA 27 0) := rfl
theorem kX6_put_27 : lk LX6_put 27 = some (xK 28 (nI 0)) := rfl
theorem kX6_put_28 : lk LX6_put 28 = some (xLdI 29 1) := rfl
theorem kX6_put_29 : lk LX6_put 29 = some (xCallV MX6_puts 6 2 32) := rfl
theorem kX6_put_32 : lk LX6_put 32 = some (xLdA 33 0) := rfl
theorem kX6_put_33 : lk LX6_put 33 = some (xGf 36 6 3) := rfl
theorem kX6_put_36 : lk LX6_put 36 = some (xLdA 37 0) := rfl
theorem kX6_put_37 : lk LX6_put 37 = some (xLdA 38 0) := rfl
theorem kX6_put_38 : lk LX6_put 38 = some (xGf 41 6 0) := rfl
theorem kX6_put_41 : lk LX6_put 41 = some (xK 42 (nI 2)) := rfl
theorem kX6_put_42 : lk LX6_put 42 = some (xiaload 43) := rfl
theorem kX6_put_43 : lk LX6_put 43 = some (xCallV MX6_roomOf 6 1 46) := rfl
theorem kX6_put_46 : lk LX6_put 46 = some (xBin 47 f_isub) := rfl
theorem kX6_put_47 : lk LX6_put 47 = some (xRet) := rfl
def LX6_out : List (Nat × XI) := [(0, xLdA 1 0),
  (1, xLdI 2 1),
  (2, xCallV MX6_isThing 6 1 5),
  (5, xZ_ne 10 8),
  (8, xK 9 ((-1))),
  (9, xRet),
  (10, xLdA 11 0),
  (11, xGf 14 6 0),
  (14, xK 15 (nI 2)),
  (15, xiaload 16),
  (16, xLdI 17 1),
  (17, xCallS MX6_has 2 20),
  (20, xZ_ne 26 23),
  (23, xK 25 ((-2))),
  (25, xRet),
  (26, xLdA 27 0),
  (27, xCallV MX6_minds 6 0 30),
  (30, xLdA 31 0),
  (31, xGf 34 6 0),
  (34, xK 35 (nI 2)),
  (35, xDup2 36),
  (36, xiaload 37),
  (37, xK 38 (nI 1)),
  (38, xLdI 39 1),
  (39, xBin 40 f_ishl),
  (40, xK 41 ((-1))),
  (41, xBin 42 f_ixor),
  (42, xBin 43 f_iand),
  (43, xiastore 44),
  (44, xLdA 45 0),
  (45, xGf 48 6 3),
  (48, xLdA 49 0),
  (49, xLdA 50 0),
  (50, xGf 53 6 0),
  (53, xK 54 (nI 2)),
  (54, xiaload 55),
  (55, xCallV MX6_roomOf 6 1 58),
  (58, xBin 59 f_isub),
  (59, xRet)]
theorem sX6_out_0 : Snd MX6_out 0 (xLdA 1 0) := snd_aload_n (M := MX6_out) (pc := 0) dX6_out_0
theorem sX6_out_1 : Snd MX6_out 1 (xLdI 2 1) := snd_iload_n (M := MX6_out) (pc := 1) dX6_out_1
theorem sX6_out_2 : Snd MX6_out 2 (xCallV MX6_isThing 6 1 5) := snd_callV (M := MX6_out) (pc := 2) (n := 1) dX6_out_2 rfl w560 w561 w562 ⟨w462, w559, ⟨by decide, by decide, by decide +kernel⟩, by decide⟩ ⟨rfl, rfl⟩
theorem sX6_out_5 : Snd MX6_out 5 (xZ_ne 10 8) := snd_if_ne (M := MX6_out) (pc := 5) dX6_out_5 (by decide)
theorem sX6_out_8 : Snd MX6_out 8 (xK 9 ((-1))) := snd_iconst (M := MX6_out) (pc := 8) dX6_out_8 (by decide +kernel)
theorem sX6_out_9 : Snd MX6_out 9 (xRet) := snd_iret (M := MX6_out) (pc := 9) dX6_out_9 rfl
theorem sX6_out_10 : Snd MX6_out 10 (xLdA 11 0) := snd_aload_n (M := MX6_out) (pc := 10) dX6_out_10
theorem sX6_out_11 : Snd MX6_out 11 (xGf 14 6 0) := snd_gf (M := MX6_out) (pc := 11) (C0 := RX6) (T0 := TX6) (N := 32) dX6_out_11 rfl tbX6 (by decide) w444
theorem sX6_out_14 : Snd MX6_out 14 (xK 15 (nI 2)) := snd_iconst (M := MX6_out) (pc := 14) dX6_out_14 (by decide +kernel)
theorem sX6_out_15 : Snd MX6_out 15 (xiaload 16) := snd_iaload (M := MX6_out) (pc := 15) dX6_out_15
theorem sX6_out_16 : Snd MX6_out 16 (xLdI 17 1) := snd_iload_n (M := MX6_out) (pc := 16) dX6_out_16
theorem sX6_out_17 : Snd MX6_out 17 (xCallS MX6_has 2 20) := snd_callS (M := MX6_out) (pc := 17) (n := 2) dX6_out_17 w530 w531 ⟨w462, w529, ⟨by decide, by decide, by decide +kernel⟩, by decide⟩ ⟨rfl, rfl⟩
theorem sX6_out_20 : Snd MX6_out 20 (xZ_ne 26 23) := snd_if_ne (M := MX6_out) (pc := 20) dX6_out_20 (by decide)
theorem sX6_out_23 : Snd MX6_out 23 (xK 25 ((-2))) := snd_bipush (M := MX6_out) (pc := 23) dX6_out_23 (by decide +kernel)
theorem sX6_out_25 : Snd MX6_out 25 (xRet) := snd_iret (M := MX6_out) (pc := 25) dX6_out_25 rfl
theorem sX6_out_26 : Snd MX6_out 26 (xLdA 27 0) := snd_aload_n (M := MX6_out) (pc := 26) dX6_out_26
theorem sX6_out_27 : Snd MX6_out 27 (xCallV MX6_minds 6 0 30) := snd_callV (M := MX6_out) (pc := 27) (n := 0) dX6_out_27 rfl w588 w589 w590 ⟨w462, w587, ⟨by decide, by decide, by decide +kernel⟩, by decide⟩ ⟨rfl, rfl⟩
theorem sX6_out_30 : Snd MX6_out 30 (xLdA 31 0) := snd_aload_n (M := MX6_out) (pc := 30) dX6_out_30
theorem sX6_out_31 : Snd MX6_out 31 (xGf 34 6 0) := snd_gf (M := MX6_out) (pc := 31) (C0 := RX6) (T0 := TX6) (N := 32) dX6_out_31 rfl tbX6 (by decide) w444
theorem sX6_out_34 : Snd MX6_out 34 (xK 35 (nI 2)) := snd_iconst (M := MX6_out) (pc := 34) dX6_out_34 (by decide +kernel)
theorem sX6_out_35 : Snd MX6_out 35 (xDup2 36) := snd_dup2 (M := MX6_out) (pc := 35) dX6_out_35
theorem sX6_out_36 : Snd MX6_out 36 (xiaload 37) := snd_iaload (M := MX6_out) (pc := 36) dX6_out_36
theorem sX6_out_37 : Snd MX6_out 37 (xK 38 (nI 1)) := snd_iconst (M := MX6_out) (pc := 37) dX6_out_37 (by decide +kernel)
theorem sX6_out_38 : Snd MX6_out 38 (xLdI 39 1) := snd_iload_n (M := MX6_out) (pc := 38) dX6_out_38
theorem sX6_out_39 : Snd MX6_out 39 (xBin 40 f_ishl) := snd_ishl (M := MX6_out) (pc := 39) dX6_out_39
theorem sX6_out_40 : Snd MX6_out 40 (xK 41 ((-1))) := snd_iconst (M := MX6_out) (pc := 40) dX6_out_40 (by decide +kernel)
theorem sX6_out_41 : Snd MX6_out 41 (xBin 42 f_ixor) := snd_ixor (M := MX6_out) (pc := 41) dX6_out_41
theorem sX6_out_42 : Snd MX6_out 42 (xBin 43 f_iand) := snd_iand (M := MX6_out) (pc := 42) dX6_out_42
theorem sX6_out_43 : Snd MX6_out 43 (xiastore 44) := snd_iastore (M := MX6_out) (pc := 43) dX6_out_43
theorem sX6_out_44 : Snd MX6_out 44 (xLdA 45 0) := snd_aload_n (M := MX6_out) (pc := 44) dX6_out_44
theorem sX6_out_45 : Snd MX6_out 45 (xGf 48 6 3) := snd_gf (M := MX6_out) (pc := 45) (C0 := RX6) (T0 := TX6) (N := 32) dX6_out_45 rfl tbX6 (by decide) w482
theorem sX6_out_48 : Snd MX6_out 48 (xLdA 49 0) := snd_aload_n (M := MX6_out) (pc := 48) dX6_out_48
theorem sX6_out_49 : Snd MX6_out 49 (xLdA 50 0) := snd_aload_n (M := MX6_out) (pc := 49) dX6_out_49
theorem sX6_out_50 : Snd MX6_out 50 (xGf 53 6 0) := snd_gf (M := MX6_out) (pc := 50) (C0 := RX6) (T0 := TX6) (N := 32) dX6_out_50 rfl tbX6 (by decide) w444
theorem sX6_out_53 : Snd MX6_out 53 (xK 54 (nI 2)) := snd_iconst (M := MX6_out) (pc := 53) dX6_out_53 (by decide +kernel)
theorem sX6_out_54 : Snd MX6_out 54 (xiaload 55) := snd_iaload (M := MX6_out) (pc := 54) dX6_out_54
theorem sX6_out_55 : Snd MX6_out 55 (xCallV MX6_roomOf 6 1 58) := snd_callV (M := MX6_out) (pc := 55) (n := 1) dX6_out_55 rfl w552 w553 w554 ⟨w462, w551, ⟨by decide, by decide, by decide +kernel⟩, by decide⟩ ⟨rfl, rfl⟩
theorem sX6_out_58 : Snd MX6_out 58 (xBin 59 f_isub) := snd_isub (M := MX6_out) (pc := 58) dX6_out_58
theorem sX6_out_59 : Snd MX6_out 59 (xRet) := snd_iret (M := MX6_out) (pc := 59) dX6_out_59 rfl
theorem VX6_out : Valid MX6_out LX6_out := va_lid sX6_out_0 (va_lid sX6_out_1 (va_lid sX6_out_2 (va_lid sX6_out_5 (va_lid sX6_out_8 (va_lid sX6_out_9 (va_lid sX6_out_10 (va_lid sX6_out_11 (va_lid sX6_out_14 (va_lid sX6_out_15 (va_lid sX6_out_16 (va_lid sX6_out_17 (va_lid sX6_out_20 (va_lid sX6_out_23 (va_lid sX6_out_25 (va_lid sX6_out_26 (va_lid sX6_out_27 (va_lid sX6_out_30 (va_lid sX6_out_31 (va_lid sX6_out_34 (va_lid sX6_out_35 (va_lid sX6_out_36 (va_lid sX6_out_37 (va_lid sX6_out_38 (va_lid sX6_out_39 (va_lid sX6_out_40 (va_lid sX6_out_41 (va_lid sX6_out_42 (va_lid sX6_out_43 (va_lid sX6_out_44 (va_lid sX6_out_45 (va_lid sX6_out_48 (va_lid sX6_out_49 (va_lid sX6_out_50 (va_lid sX6_out_53 (va_lid sX6_out_54 (va_lid sX6_out_55 (va_lid sX6_out_58 (va_lid sX6_out_59 (va_lid0)))))))))))))))))))))))))))))))))))))))
theorem kX6_out_0 : lk LX6_out 0 = some (xLdA 1 0) := rfl
theorem kX6_out_1 : lk LX6_out 1 = some (xLdI 2 1) := rfl
theorem kX6_out_2 : lk LX6_out 2 = some (xCallV MX6_isThing 6 1 5) := rfl
theorem kX6_out_5 : lk LX6_out 5 = some (xZ_ne 10 8) := rfl
theorem kX6_out_8 : lk LX6_out 8 = some (xK 9 ((-1))) := rfl
theorem kX6_out_9 : lk LX6_out 9 = some (xRet) := rfl
theorem kX6_out_10 : lk LX6_out 10 = some (xLdA 11 0) := rfl
theorem kX6_out_11 : lk LX6_out 11 = some (xGf 14 6 0) := rfl
theorem kX6_out_14 : lk LX6_out 14 = some (xK 15 (nI 2)) := rfl
theorem kX6_out_15 : lk LX6_out 15 = some (xiaload 16) := rfl
theorem kX6_out_16 : lk LX6_out 16 = some (xLdI 17 1) := rfl
theorem kX6_out_17 : lk LX6_out 17 = some (xCallS MX6_has 2 20) := rfl
theorem kX6_out_20 : lk LX6_out 20 = some (xZ_ne 26 23) := rfl
theorem kX6_out_23 : lk LX6_out 23 = some (xK 25 ((-2))) := rfl
theorem kX6_out_25 : lk LX6_out 25 = some (xRet) := rfl
theorem kX6_out_26 : lk LX6_out 26 = some (xLdA 27 0) := rfl
theorem kX6_out_27 : lk LX6_out 27 = some (xCallV MX6_minds 6 0 30) := rfl
theorem kX6_out_30 : lk LX6_out 30 = some (xLdA 31 0) := rfl
theorem kX6_out_31 : lk LX6_out 31 = some (xGf 34 6 0) := rfl
theorem kX6_out_34 : lk LX6_out 34 = some (xK 35 (nI 2)) := rfl
theorem kX6_out_35 : lk LX6_out 35 = some (xDup2 36) := rfl
theorem kX6_out_36 : lk LX6_out 36 = some (xiaload 37) := rfl
theorem kX6_out_37 : lk LX6_out 37 = some (xK 38 (nI 1)) := rfl
theorem kX6_out_38 : lk LX6_out 38 = some (xLdI 39 1) := rfl
theorem kX6_out_39 : lk LX6_out 39 = some (xBin 40 f_ishl) := rfl
theorem kX6_out_40 : lk LX6_out 40 = some (xK 41 ((-1))) := rfl
theorem kX6_out_41 : lk LX6_out 41 = some (xBin 42 f_ixor) := rfl
theorem kX6_out_42 : lk LX6_out 42 = some (xBin 43 f_iand) := rfl
theorem kX6_out_43 : lk LX6_out 43 = some (xiastore 44) := rfl
theorem kX6_out_44 : lk LX6_out 44 = some (xLdA 45 0) := rfl
theorem kX6_out_45 : lk LX6_out 45 = some (xGf 48 6 3) := rfl
theorem kX6_out_48 : lk LX6_out 48 = some (xLdA 49 0) := rfl
theorem kX6_out_49 : lk LX6_out 49 = some (xLdA 50 0) := rfl
theorem kX6_out_50 : lk LX6_out 50 = some (xGf 53 6 0) := rfl
theorem kX6_out_53 : lk LX6_out 53 = some (xK 54 (nI 2)) := rfl
theorem kX6_out_54 : lk LX6_out 54 = some (xiaload 55) := rfl
theorem kX6_out_55 : lk LX6_out 55 = some (xCallV MX6_roomOf 6 1 58) := rfl
theorem kX6_out_58 : lk LX6_out 58 = some (xBin 59 f_isub) := rfl
theorem kX6_out_59 : lk LX6_out 59 = some (xRet) := rfl
def LX6_live : List (Nat × XI) := [(0, xLdA 1 0),
  (1, xLdI 2 1),
  (2, xCallV MX6_isLife 6 1 5),
  (5, xZ_ne 10 8),
  (8, xK 9 ((-1))),
  (9, xRet),
  (10, xLdA 11 0),
  (11, xK 12 (nI 0)),
  (12, xLdI 13 1),
  (13, xCallV MX6_canLive 6 2 16),
  (16, xZ_ne 22 19),
  (19, xK 21 ((-2))),
  (21, xRet),
  (22, xLdA 23 0),
  (23, xCallV MX6_minds 6 0 26),
  (26, xLdA 27 0),
  (27, xK 28 (nI 0)),
  (28, xLdI 29 1),
  (29, xCallV MX6_livesOne 6 2 32),
  (32, xRet)]
theorem sX6_live_0 : Snd MX6_live 0 (xLdA 1 0) := snd_aload_n (M := MX6_live) (pc := 0) dX6_live_0
theorem sX6_live_1 : Snd MX6_live 1 (xLdI 2 1) := snd_iload_n (M := MX6_live) (pc := 1) dX6_live_1
theorem sX6_live_2 : Snd MX6_live 2 (xCallV MX6_isLife 6 1 5) := snd_callV (M := MX6_live) (pc := 2) (n := 1) dX6_live_2 rfl w572 w573 w574 ⟨w462, w571, ⟨by decide, by decide, by decide +kernel⟩, by decide⟩ ⟨rfl, rfl⟩
theorem sX6_live_5 : Snd MX6_live 5 (xZ_ne 10 8) := snd_if_ne (M := MX6_live) (pc := 5) dX6_live_5 (by decide)
theorem sX6_live_8 : Snd MX6_live 8 (xK 9 ((-1))) := snd_iconst (M := MX6_live) (pc := 8) dX6_live_8 (by decide +kernel)
theorem sX6_live_9 : Snd MX6_live 9 (xRet) := snd_iret (M := MX6_live) (pc := 9) dX6_live_9 rfl
theorem sX6_live_10 : Snd MX6_live 10 (xLdA 11 0) := snd_aload_n (M := MX6_live) (pc := 10) dX6_live_10
theorem sX6_live_11 : Snd MX6_live 11 (xK 12 (nI 0)) := snd_iconst (M := MX6_live) (pc := 11) dX6_live_11 (by decide +kernel)
theorem sX6_live_12 : Snd MX6_live 12 (xLdI 13 1) := snd_iload_n (M := MX6_live) (pc := 12) dX6_live_12
theorem sX6_live_13 : Snd MX6_live 13 (xCallV MX6_canLive 6 2 16) := snd_callV (M := MX6_live) (pc := 13) (n := 2) dX6_live_13 rfl w596 w597 w598 ⟨w462, w595, ⟨by decide, by decide, by decide +kernel⟩, by decide⟩ ⟨rfl, rfl⟩
theorem sX6_live_16 : Snd MX6_live 16 (xZ_ne 22 19) := snd_if_ne (M := MX6_live) (pc := 16) dX6_live_16 (by decide)
theorem sX6_live_19 : Snd MX6_live 19 (xK 21 ((-2))) := snd_bipush (M := MX6_live) (pc := 19) dX6_live_19 (by decide +kernel)
theorem sX6_live_21 : Snd MX6_live 21 (xRet) := snd_iret (M := MX6_live) (pc := 21) dX6_live_21 rfl
theorem sX6_live_22 : Snd MX6_live 22 (xLdA 23 0) := snd_aload_n (M := MX6_live) (pc := 22) dX6_live_22
theorem sX6_live_23 : Snd MX6_live 23 (xCallV MX6_minds 6 0 26) := snd_callV (M := MX6_live) (pc := 23) (n := 0) dX6_live_23 rfl w588 w589 w590 ⟨w462, w587, ⟨by decide, by decide, by decide +kernel⟩, by decide⟩ ⟨rfl, rfl⟩
theorem sX6_live_26 : Snd MX6_live 26 (xLdA 27 0) := snd_aload_n (M := MX6_live) (pc := 26) dX6_live_26
theorem sX6_live_27 : Snd MX6_live 27 (xK 28 (nI 0)) := snd_iconst (M := MX6_live) (pc := 27) dX6_live_27 (by decide +kernel)
theorem sX6_live_28 : Snd MX6_live 28 (xLdI 29 1) := snd_iload_n (M := MX6_live) (pc := 28) dX6_live_28
theorem sX6_live_29 : Snd MX6_live 29 (xCallV MX6_livesOne 6 2 32) := snd_callV (M := MX6_live) (pc := 29) (n := 2) dX6_live_29 rfl w600 w601 w602 ⟨w462, w599, ⟨by decide, by decide, by decide +kernel⟩, by decide⟩ ⟨rfl, rfl⟩
theorem sX6_live_32 : Snd MX6_live 32 (xRet) := snd_iret (M := MX6_live) (pc := 32) dX6_live_32 rfl
theorem VX6_live : Valid MX6_live LX6_live := va_lid sX6_live_0 (va_lid sX6_live_1 (va_lid sX6_live_2 (va_lid sX6_live_5 (va_lid sX6_live_8 (va_lid sX6_live_9 (va_lid sX6_live_10 (va_lid sX6_live_11 (va_lid sX6_live_12 (va_lid sX6_live_13 (va_lid sX6_live_16 (va_lid sX6_live_19 (va_lid sX6_live_21 (va_lid sX6_live_22 (va_lid sX6_live_23 (va_lid sX6_live_26 (va_lid sX6_live_27 (va_lid sX6_live_28 (va_lid sX6_live_29 (va_lid sX6_live_32 (va_lid0))))))))))))))))))))
theorem kX6_live_0 : lk LX6_live 0 = some (xLdA 1 0) := rfl
theorem kX6_live_1 : lk LX6_live 1 = some (xLdI 2 1) := rfl
theorem kX6_live_2 : lk LX6_live 2 = some (xCallV MX6_isLife 6 1 5) := rfl
theorem kX6_live_5 : lk LX6_live 5 = some (xZ_ne 10 8) := rfl
theorem kX6_live_8 : lk LX6_live 8 = some (xK 9 ((-1))) := rfl
theorem kX6_live_9 : lk LX6_live 9 = some (xRet) := rfl
theorem kX6_live_10 : lk LX6_live 10 = some (xLdA 11 0) := rfl
theorem kX6_live_11 : lk LX6_live 11 = some (xK 12 (nI 0)) := rfl
theorem kX6_live_12 : lk LX6_live 12 = some (xLdI 13 1) := rfl
theorem kX6_live_13 : lk LX6_live 13 = some (xCallV MX6_canLive 6 2 16) := rfl
theorem kX6_live_16 : lk LX6_live 16 = some (xZ_ne 22 19) := rfl
theorem kX6_live_19 : lk LX6_live 19 = some (xK 21 ((-2))) := rfl
theorem kX6_live_21 : lk LX6_live 21 = some (xRet) := rfl
theorem kX6_live_22 : lk LX6_live 22 = some (xLdA 23 0) := rfl
theorem kX6_live_23 : lk LX6_live 23 = some (xCallV MX6_minds 6 0 26) := rfl
theorem kX6_live_26 : lk LX6_live 26 = some (xLdA 27 0) := rfl
theorem kX6_live_27 : lk LX6_live 27 = some (xK 28 (nI 0)) := rfl
theorem kX6_live_28 : lk LX6_live 28 = some (xLdI 29 1) := rfl
theorem kX6_live_29 : lk LX6_live 29 = some (xCallV MX6_livesOne 6 2 32) := rfl
theorem kX6_live_32 : lk LX6_live 32 = some (xRet) := rfl
def LX6_pass : List (Nat × XI) := [(0, xLdI 1 1),
  (1, xI2l 2),
  (2, xKL 3 (lN 1)),
  (3, xKL 6 (lN 20)),
  (6, xCallS MX6_in 3 9),
  (9, xZ_ne 14 12),
  (12, xK 13 ((-1))),
  (13, xRet),
  (14, xLdA 15 0),
  (15, xCallV MX6_minds 6 0 18),
  (18, xK 19 (nI 0)),
  (19, xStI 20 2),
  (20, xLdI 21 2),
  (21, xLdI 22 1),
  (22, xC_ge 36 25),
  (25, xLdA 26 0),
  (26, xK 27 (nI 0)),
  (27, xCallV MX6_passes 6 1 30),
  (30, xInc 33 2 (nI 1)),
  (33, xGo 20),
  (36, xLdA 37 0),
  (37, xGf 40 6 0),
  (40, xK 41 (nI 1)),
  (41, xiaload 42),
  (42, xRet)]
theorem sX6_pass_0 : Snd MX6_pass 0 (xLdI 1 1) := snd_iload_n (M := MX6_pass) (pc := 0) dX6_pass_0
theorem sX6_pass_1 : Snd MX6_pass 1 (xI2l 2) := snd_i2l (M := MX6_pass) (pc := 1) dX6_pass_1
theorem sX6_pass_2 : Snd MX6_pass 2 (xKL 3 (lN 1)) := snd_lconst (M := MX6_pass) (pc := 2) dX6_pass_2 rfl
theorem sX6_pass_3 : Snd MX6_pass 3 (xKL 6 (lN 20)) := snd_ldc2 (M := MX6_pass) (pc := 3) dX6_pass_3 w603
theorem sX6_pass_6 : Snd MX6_pass 6 (xCallS MX6_in 3 9) := snd_callS (M := MX6_pass) (pc := 6) (n := 3) dX6_pass_6 w477 w478 ⟨w462, w476, ⟨by decide, by decide, by decide +kernel⟩, by decide⟩ ⟨rfl, rfl⟩
theorem sX6_pass_9 : Snd MX6_pass 9 (xZ_ne 14 12) := snd_if_ne (M := MX6_pass) (pc := 9) dX6_pass_9 (by decide)
theorem sX6_pass_12 : Snd MX6_pass 12 (xK 13 ((-1))) := snd_iconst (M := MX6_pass) (pc := 12) dX6_pass_12 (by decide +kernel)
theorem sX6_pass_13 : Snd MX6_pass 13 (xRet) := snd_iret (M := MX6_pass) (pc := 13) dX6_pass_13 rfl
theorem sX6_pass_14 : Snd MX6_pass 14 (xLdA 15 0) := snd_aload_n (M := MX6_pass) (pc := 14) dX6_pass_14
theorem sX6_pass_15 : Snd MX6_pass 15 (xCallV MX6_minds 6 0 18) := snd_callV (M := MX6_pass) (pc := 15) (n := 0) dX6_pass_15 rfl w588 w589 w590 ⟨w462, w587, ⟨by decide, by decide, by decide +kernel⟩, by decide⟩ ⟨rfl, rfl⟩
theorem sX6_pass_18 : Snd MX6_pass 18 (xK 19 (nI 0)) := snd_iconst (M := MX6_pass) (pc := 18) dX6_pass_18 (by decide +kernel)
theorem sX6_pass_19 : Snd MX6_pass 19 (xStI 20 2) := snd_istore_n (M := MX6_pass) (pc := 19) dX6_pass_19 (by decide)
theorem sX6_pass_20 : Snd MX6_pass 20 (xLdI 21 2) := snd_iload_n (M := MX6_pass) (pc := 20) dX6_pass_20
theorem sX6_pass_21 : Snd MX6_pass 21 (xLdI 22 1) := snd_iload_n (M := MX6_pass) (pc := 21) dX6_pass_21
theorem sX6_pass_22 : Snd MX6_pass 22 (xC_ge 36 25) := snd_icmp_ge (M := MX6_pass) (pc := 22) dX6_pass_22 (by decide)
theorem sX6_pass_25 : Snd MX6_pass 25 (xLdA 26 0) := snd_aload_n (M := MX6_pass) (pc := 25) dX6_pass_25
theorem sX6_pass_26 : Snd MX6_pass 26 (xK 27 (nI 0)) := snd_iconst (M := MX6_pass) (pc := 26) dX6_pass_26 (by decide +kernel)
theorem sX6_pass_27 : Snd MX6_pass 27 (xCallV MX6_passes 6 1 30) := snd_callV (M := MX6_pass) (pc := 27) (n := 1) dX6_pass_27 rfl w605 w606 w607 ⟨w462, w604, ⟨by decide, by decide, by decide +kernel⟩, by decide⟩ ⟨rfl, rfl⟩
theorem sX6_pass_30 : Snd MX6_pass 30 (xInc 33 2 (nI 1)) := snd_iinc (M := MX6_pass) (pc := 30) dX6_pass_30 (by decide +kernel) (by decide)
theorem sX6_pass_33 : Snd MX6_pass 33 (xGo 20) := snd_goto (M := MX6_pass) (pc := 33) dX6_pass_33 (by decide)
theorem sX6_pass_36 : Snd MX6_pass 36 (xLdA 37 0) := snd_aload_n (M := MX6_pass) (pc := 36) dX6_pass_36
theorem sX6_pass_37 : Snd MX6_pass 37 (xGf 40 6 0) := snd_gf (M := MX6_pass) (pc := 37) (C0 := RX6) (T0 := TX6) (N := 32) dX6_pass_37 rfl tbX6 (by decide) w444
theorem sX6_pass_40 : Snd MX6_pass 40 (xK 41 (nI 1)) := snd_iconst (M := MX6_pass) (pc := 40) dX6_pass_40 (by decide +kernel)
theorem sX6_pass_41 : Snd MX6_pass 41 (xiaload 42) := snd_iaload (M := MX6_pass) (pc := 41) dX6_pass_41
theorem sX6_pass_42 : Snd MX6_pass 42 (xRet) := snd_iret (M := MX6_pass) (pc := 42) dX6_pass_42 rfl
theorem VX6_pass : Valid MX6_pass LX6_pass := va_lid sX6_pass_0 (va_lid sX6_pass_1 (va_lid sX6_pass_2 (va_lid sX6_pass_3 (va_lid sX6_pass_6 (va_lid sX6_pass_9 (va_lid sX6_pass_12 (va_lid sX6_pass_13 (va_lid sX6_pass_14 (va_lid sX6_pass_15 (va_lid sX6_pass_18 (va_lid sX6_pass_19 (va_lid sX6_pass_20 (va_lid sX6_pass_21 (va_lid sX6_pass_22 (va_lid sX6_pass_25 (va_lid sX6_pass_26 (va_lid sX6_pass_27 (va_lid sX6_pass_30 (va_lid sX6_pass_33 (va_lid sX6_pass_36 (va_lid sX6_pass_37 (va_lid sX6_pass_40 (va_lid sX6_pass_41 (va_lid sX6_pass_42 (va_lid0)))))))))))))))))))))))))
theorem kX6_pass_0 : lk LX6_pass 0 = some (xLdI 1 1) := rfl
theorem kX6_pass_1 : lk LX6_pass 1 = some (xI2l 2) := rfl
theorem kX6_pass_2 : lk LX6_pass 2 = some (xKL 3 (lN 1)) := rfl
theorem kX6_pass_3 : lk LX6_pass 3 = some (xKL 6 (lN 20)) := rfl
theorem kX6_pass_6 : lk LX6_pass 6 = some (xCallS MX6_in 3 9) := rfl
theorem kX6_pass_9 : lk LX6_pass 9 = some (xZ_ne 14 12) := rfl
theorem kX6_pass_12 : lk LX6_pass 12 = some (xK 13 ((-1))) := rfl
theorem kX6_pass_13 : lk LX6_pass 13 = some (xRet) := rfl
theorem kX6_pass_14 : lk LX6_pass 14 = some (xLdA 15 0) := rfl
theorem kX6_pass_15 : lk LX6_pass 15 = some (xCallV MX6_minds 6 0 18) := rfl
theorem kX6_pass_18 : lk LX6_pass 18 = some (xK 19 (nI 0)) := rfl
theorem kX6_pass_19 : lk LX6_pass 19 = some (xStI 20 2) := rfl
theorem kX6_pass_20 : lk LX6_pass 20 = some (xLdI 21 2) := rfl
theorem kX6_pass_21 : lk LX6_pass 21 = some (xLdI 22 1) := rfl
theorem kX6_pass_22 : lk LX6_pass 22 = some (xC_ge 36 25) := rfl
theorem kX6_pass_25 : lk LX6_pass 25 = some (xLdA 26 0) := rfl
theorem kX6_pass_26 : lk LX6_pass 26 = some (xK 27 (nI 0)) := rfl
theorem kX6_pass_27 : lk LX6_pass 27 = some (xCallV MX6_passes 6 1 30) := rfl
theorem kX6_pass_30 : lk LX6_pass 30 = some (xInc 33 2 (nI 1)) := rfl
theorem kX6_pass_33 : lk LX6_pass 33 = some (xGo 20) := rfl
theorem kX6_pass_36 : lk LX6_pass 36 = some (xLdA 37 0) := rfl
theorem kX6_pass_37 : lk LX6_pass 37 = some (xGf 40 6 0) := rfl
theorem kX6_pass_40 : lk LX6_pass 40 = some (xK 41 (nI 1)) := rfl
theorem kX6_pass_41 : lk LX6_pass 41 = some (xiaload 42) := rfl
theorem kX6_pass_42 : lk LX6_pass 42 = some (xRet) := rfl
def LX6_undo : List (Nat × XI) := [(0, xLdA 1 0),
  (1, xGf 4 6 1),
  (4, xZ_ne 10 7),
  (7, xK 9 ((-2))),
  (9, xRet),
  (10, xLdA 11 0),
  (11, xDup 12),
  (12, xGf 15 6 1),
  (15, xK 16 (nI 1)),
  (16, xBin 17 f_isub),
  (17, xPfI 20 6 1),
  (20, xLdA 21 0),
  (21, xK 23 (nI 16)),
  (23, xK 24 (nI 4)),
  (24, xLdA 25 0),
  (25, xGf 28 6 1),
  (28, xBin 29 f_imul),
  (29, xBin 30 f_iadd),
  (30, xK 31 (nI 0)),
  (31, xCallV MX6_copy 6 2 34),
  (34, xLdA 35 0),
  (35, xGf 38 6 1),
  (38, xRet)]
theorem sX6_undo_0 : Snd MX6_undo 0 (xLdA 1 0) := snd_aload_n (M := MX6_undo) (pc := 0) dX6_undo_0
theorem sX6_undo_1 : Snd MX6_undo 1 (xGf 4 6 1) := snd_gf (M := MX6_undo) (pc := 1) (C0 := RX6) (T0 := TX6) (N := 32) dX6_undo_1 rfl tbX6 (by decide) w484
theorem sX6_undo_4 : Snd MX6_undo 4 (xZ_ne 10 7) := snd_if_ne (M := MX6_undo) (pc := 4) dX6_undo_4 (by decide)
theorem sX6_undo_7 : Snd MX6_undo 7 (xK 9 ((-2))) := snd_bipush (M := MX6_undo) (pc := 7) dX6_undo_7 (by decide +kernel)
theorem sX6_undo_9 : Snd MX6_undo 9 (xRet) := snd_iret (M := MX6_undo) (pc := 9) dX6_undo_9 rfl
theorem sX6_undo_10 : Snd MX6_undo 10 (xLdA 11 0) := snd_aload_n (M := MX6_undo) (pc := 10) dX6_undo_10
theorem sX6_undo_11 : Snd MX6_undo 11 (xDup 12) := snd_dup (M := MX6_undo) (pc := 11) dX6_undo_11
theorem sX6_undo_12 : Snd MX6_undo 12 (xGf 15 6 1) := snd_gf (M := MX6_undo) (pc := 12) (C0 := RX6) (T0 := TX6) (N := 32) dX6_undo_12 rfl tbX6 (by decide) w484
theorem sX6_undo_15 : Snd MX6_undo 15 (xK 16 (nI 1)) := snd_iconst (M := MX6_undo) (pc := 15) dX6_undo_15 (by decide +kernel)
theorem sX6_undo_16 : Snd MX6_undo 16 (xBin 17 f_isub) := snd_isub (M := MX6_undo) (pc := 16) dX6_undo_16
theorem sX6_undo_17 : Snd MX6_undo 17 (xPfI 20 6 1) := snd_pfI (M := MX6_undo) (pc := 17) (C0 := RX6) (T0 := TX6) (N := 32) dX6_undo_17 rfl tbX6 tyX6 tyX6_ok nmX6 (by decide) w484 rfl (by decide +kernel)
theorem sX6_undo_20 : Snd MX6_undo 20 (xLdA 21 0) := snd_aload_n (M := MX6_undo) (pc := 20) dX6_undo_20
theorem sX6_undo_21 : Snd MX6_undo 21 (xK 23 (nI 16)) := snd_bipush (M := MX6_undo) (pc := 21) dX6_undo_21 (by decide +kernel)
theorem sX6_undo_23 : Snd MX6_undo 23 (xK 24 (nI 4)) := snd_iconst (M := MX6_undo) (pc := 23) dX6_undo_23 (by decide +kernel)
theorem sX6_undo_24 : Snd MX6_undo 24 (xLdA 25 0) := snd_aload_n (M := MX6_undo) (pc := 24) dX6_undo_24
theorem sX6_undo_25 : Snd MX6_undo 25 (xGf 28 6 1) := snd_gf (M := MX6_undo) (pc := 25) (C0 := RX6) (T0 := TX6) (N := 32) dX6_undo_25 rfl tbX6 (by decide) w484
theorem sX6_undo_28 : Snd MX6_undo 28 (xBin 29 f_imul) := snd_imul (M := MX6_undo) (pc := 28) dX6_undo_28
theorem sX6_undo_29 : Snd MX6_undo 29 (xBin 30 f_iadd) := snd_iadd (M := MX6_undo) (pc := 29) dX6_undo_29
theorem sX6_undo_30 : Snd MX6_undo 30 (xK 31 (nI 0)) := snd_iconst (M := MX6_undo) (pc := 30) dX6_undo_30 (by decide +kernel)
theorem sX6_undo_31 : Snd MX6_undo 31 (xCallV MX6_copy 6 2 34) := snd_callV (M := MX6_undo) (pc := 31) (n := 2) dX6_undo_31 rfl w584 w585 w586 ⟨w462, w583, ⟨by decide, by decide, by decide +kernel⟩, by decide⟩ ⟨rfl, rfl⟩
theorem sX6_undo_34 : Snd MX6_undo 34 (xLdA 35 0) := snd_aload_n (M := MX6_undo) (pc := 34) dX6_undo_34
theorem sX6_undo_35 : Snd MX6_undo 35 (xGf 38 6 1) := snd_gf (M := MX6_undo) (pc := 35) (C0 := RX6) (T0 := TX6) (N := 32) dX6_undo_35 rfl tbX6 (by decide) w484
theorem sX6_undo_38 : Snd MX6_undo 38 (xRet) := snd_iret (M := MX6_undo) (pc := 38) dX6_undo_38 rfl
theorem VX6_undo : Valid MX6_undo LX6_undo := va_lid sX6_undo_0 (va_lid sX6_undo_1 (va_lid sX6_undo_4 (va_lid sX6_undo_7 (va_lid sX6_undo_9 (va_lid sX6_undo_10 (va_lid sX6_undo_11 (va_lid sX6_undo_12 (va_lid sX6_undo_15 (va_lid sX6_undo_16 (va_lid sX6_undo_17 (va_lid sX6_undo_20 (va_lid sX6_undo_21 (va_lid sX6_undo_23 (va_lid sX6_undo_24 (va_lid sX6_undo_25 (va_lid sX6_undo_28 (va_lid sX6_undo_29 (va_lid sX6_undo_30 (va_lid sX6_undo_31 (va_lid sX6_undo_34 (va_lid sX6_undo_35 (va_lid sX6_undo_38 (va_lid0)))))))))))))))))))))))
theorem kX6_undo_0 : lk LX6_undo 0 = some (xLdA 1 0) := rfl
theorem kX6_undo_1 : lk LX6_undo 1 = some (xGf 4 6 1) := rfl
theorem kX6_undo_4 : lk LX6_undo 4 = some (xZ_ne 10 7) := rfl
theorem kX6_undo_7 : lk LX6_undo 7 = some (xK 9 ((-2))) := rfl
theorem kX6_undo_9 : lk LX6_undo 9 = some (xRet) := rfl
theorem kX6_undo_10 : lk LX6_undo 10 = some (xLdA 11 0) := rfl
theorem kX6_undo_11 : lk LX6_undo 11 = some (xDup 12) := rfl
theorem kX6_undo_12 : lk LX6_undo 12 = some (xGf 15 6 1) := rfl
theorem kX6_undo_15 : lk LX6_undo 15 = some (xK 16 (nI 1)) := rfl
theorem kX6_undo_16 : lk LX6_undo 16 = some (xBin 17 f_isub) := rfl
theorem kX6_undo_17 : lk LX6_undo 17 = some (xPfI 20 6 1) := rfl
theorem kX6_undo_20 : lk LX6_undo 20 = some (xLdA 21 0) := rfl
theorem kX6_undo_21 : lk LX6_undo 21 = some (xK 23 (nI 16)) := rfl
theorem kX6_undo_23 : lk LX6_undo 23 = some (xK 24 (nI 4)) := rfl
theorem kX6_undo_24 : lk LX6_undo 24 = some (xLdA 25 0) := rfl
theorem kX6_undo_25 : lk LX6_undo 25 = some (xGf 28 6 1) := rfl
theorem kX6_undo_28 : lk LX6_undo 28 = some (xBin 29 f_imul) := rfl
theorem kX6_undo_29 : lk LX6_undo 29 = some (xBin 30 f_iadd) := rfl
theorem kX6_undo_30 : lk LX6_undo 30 = some (xK 31 (nI 0)) := rfl
theorem kX6_undo_31 : lk LX6_undo 31 = some (xCallV MX6_copy 6 2 34) := rfl
theorem kX6_undo_34 : lk LX6_undo 34 = some (xLdA 35 0) := rfl
theorem kX6_undo_35 : lk LX6_undo 35 = some (xGf 38 6 1) := rfl
theorem kX6_undo_38 : lk LX6_undo 38 = some (xRet) := rfl
def LX6_costOf : List (Nat × XI) := [(0, xK 1 (nI 0)),
  (1, xStI 2 2),
  (2, xK 3 (nI 0)),
  (3, xStI 4 3),
  (4, xLdI 5 3),
  (5, xLdA 6 0),
  (6, xGf 9 6 5),
  (9, xC_ge 39 12),
  (12, xLdI 13 2),
  (13, xLdI 14 1),
  (14, xLdI 15 3),
  (15, xCallS MX6_has 2 18),
  (18, xZ_eq 30 21),
  (21, xLdA 22 0),
  (22, xGf 25 6 8),
  (25, xLdI 26 3),
  (26, xiaload 27),
  (27, xGo 31),
  (30, xK 31 (nI 0)),
  (31, xBin 32 f_iadd),
  (32, xStI 33 2),
  (33, xInc 36 3 (nI 1)),
  (36, xGo 4),
  (39, xLdI 40 2),
  (40, xRet)]
theorem sX6_costOf_0 : Snd MX6_costOf 0 (xK 1 (nI 0)) := snd_iconst (M := MX6_costOf) (pc := 0) dX6_costOf_0 (by decide +kernel)
theorem sX6_costOf_1 : Snd MX6_costOf 1 (xStI 2 2) := snd_istore_n (M := MX6_costOf) (pc := 1) dX6_costOf_1 (by decide)
theorem sX6_costOf_2 : Snd MX6_costOf 2 (xK 3 (nI 0)) := snd_iconst (M := MX6_costOf) (pc := 2) dX6_costOf_2 (by decide +kernel)
theorem sX6_costOf_3 : Snd MX6_costOf 3 (xStI 4 3) := snd_istore_n (M := MX6_costOf) (pc := 3) dX6_costOf_3 (by decide)
theorem sX6_costOf_4 : Snd MX6_costOf 4 (xLdI 5 3) := snd_iload_n (M := MX6_costOf) (pc := 4) dX6_costOf_4
theorem sX6_costOf_5 : Snd MX6_costOf 5 (xLdA 6 0) := snd_aload_n (M := MX6_costOf) (pc := 5) dX6_costOf_5
theorem sX6_costOf_6 : Snd MX6_costOf 6 (xGf 9 6 5) := snd_gf (M := MX6_costOf) (pc := 6) (C0 := RX6) (T0 := TX6) (N := 32) dX6_costOf_6 rfl tbX6 (by decide) w475
theorem sX6_costOf_9 : Snd MX6_costOf 9 (xC_ge 39 12) := snd_icmp_ge (M := MX6_costOf) (pc := 9) dX6_costOf_9 (by decide)
theorem sX6_costOf_12 : Snd MX6_costOf 12 (xLdI 13 2) := snd_iload_n (M := MX6_costOf) (pc := 12) dX6_costOf_12
theorem sX6_costOf_13 : Snd MX6_costOf 13 (xLdI 14 1) := snd_iload_n (M := MX6_costOf) (pc := 13) dX6_costOf_13
theorem sX6_costOf_14 : Snd MX6_costOf 14 (xLdI 15 3) := snd_iload_n (M := MX6_costOf) (pc := 14) dX6_costOf_14
theorem sX6_costOf_15 : Snd MX6_costOf 15 (xCallS MX6_has 2 18) := snd_callS (M := MX6_costOf) (pc := 15) (n := 2) dX6_costOf_15 w530 w531 ⟨w462, w529, ⟨by decide, by decide, by decide +kernel⟩, by decide⟩ ⟨rfl, rfl⟩
theorem sX6_costOf_18 : Snd MX6_costOf 18 (xZ_eq 30 21) := snd_if_eq (M := MX6_costOf) (pc := 18) dX6_costOf_18 (by decide)
theorem sX6_costOf_21 : Snd MX6_costOf 21 (xLdA 22 0) := snd_aload_n (M := MX6_costOf) (pc := 21) dX6_costOf_21
theorem sX6_costOf_22 : Snd MX6_costOf 22 (xGf 25 6 8) := snd_gf (M := MX6_costOf) (pc := 22) (C0 := RX6) (T0 := TX6) (N := 32) dX6_costOf_22 rfl tbX6 (by decide) w447
theorem sX6_costOf_25 : Snd MX6_costOf 25 (xLdI 26 3) := snd_iload_n (M := MX6_costOf) (pc := 25) dX6_costOf_25
theorem sX6_costOf_26 : Snd MX6_costOf 26 (xiaload 27) := snd_iaload (M := MX6_costOf) (pc := 26) dX6_costOf_26
theorem sX6_costOf_27 : Snd MX6_costOf 27 (xGo 31) := snd_goto (M := MX6_costOf) (pc := 27) dX6_costOf_27 (by decide)
theorem sX6_costOf_30 : Snd MX6_costOf 30 (xK 31 (nI 0)) := snd_iconst (M := MX6_costOf) (pc := 30) dX6_costOf_30 (by decide +kernel)
theorem sX6_costOf_31 : Snd MX6_costOf 31 (xBin 32 f_iadd) := snd_iadd (M := MX6_costOf) (pc := 31) dX6_costOf_31
theorem sX6_costOf_32 : Snd MX6_costOf 32 (xStI 33 2) := snd_istore_n (M := MX6_costOf) (pc := 32) dX6_costOf_32 (by decide)
theorem sX6_costOf_33 : Snd MX6_costOf 33 (xInc 36 3 (nI 1)) := snd_iinc (M := MX6_costOf) (pc := 33) dX6_costOf_33 (by decide +kernel) (by decide)
theorem sX6_costOf_36 : Snd MX6_costOf 36 (xGo 4) := snd_goto (M := MX6_costOf) (pc := 36) dX6_costOf_36 (by decide)
theorem sX6_costOf_39 : Snd MX6_costOf 39 (xLdI 40 2) := snd_iload_n (M := MX6_costOf) (pc := 39) dX6_costOf_39
theorem sX6_costOf_40 : Snd MX6_costOf 40 (xRet) := snd_iret (M := MX6_costOf) (pc := 40) dX6_costOf_40 rfl
theorem VX6_costOf : Valid MX6_costOf LX6_costOf := va_lid sX6_costOf_0 (va_lid sX6_costOf_1 (va_lid sX6_costOf_2 (va_lid sX6_costOf_3 (va_lid sX6_costOf_4 (va_lid sX6_costOf_5 (va_lid sX6_costOf_6 (va_lid sX6_costOf_9 (va_lid sX6_costOf_12 (va_lid sX6_costOf_13 (va_lid sX6_costOf_14 (va_lid sX6_costOf_15 (va_lid sX6_costOf_18 (va_lid sX6_costOf_21 (va_lid sX6_costOf_22 (va_lid sX6_costOf_25 (va_lid sX6_costOf_26 (va_lid sX6_costOf_27 (va_lid sX6_costOf_30 (va_lid sX6_costOf_31 (va_lid sX6_costOf_32 (va_lid sX6_costOf_33 (va_lid sX6_costOf_36 (va_lid sX6_costOf_39 (va_lid sX6_costOf_40 (va_lid0)))))))))))))))))))))))))
theorem kX6_costOf_0 : lk LX6_costOf 0 = some (xK 1 (nI 0)) := rfl
theorem kX6_costOf_1 : lk LX6_costOf 1 = some (xStI 2 2) := rfl
theorem kX6_costOf_2 : lk LX6_costOf 2 = some (xK 3 (nI 0)) := rfl
theorem kX6_costOf_3 : lk LX6_costOf 3 = some (xStI 4 3) := rfl
theorem kX6_costOf_4 : lk LX6_costOf 4 = some (xLdI 5 3) := rfl
theorem kX6_costOf_5 : lk LX6_costOf 5 = some (xLdA 6 0) := rfl
theorem kX6_costOf_6 : lk LX6_costOf 6 = some (xGf 9 6 5) := rfl
theorem kX6_costOf_9 : lk LX6_costOf 9 = some (xC_ge 39 12) := rfl
theorem kX6_costOf_12 : lk LX6_costOf 12 = some (xLdI 13 2) := rfl
theorem kX6_costOf_13 : lk LX6_costOf 13 = some (xLdI 14 1) := rfl
theorem kX6_costOf_14 : lk LX6_costOf 14 = some (xLdI 15 3) := rfl
theorem kX6_costOf_15 : lk LX6_costOf 15 = some (xCallS MX6_has 2 18) := rfl
theorem kX6_costOf_18 : lk LX6_costOf 18 = some (xZ_eq 30 21) := rfl
theorem kX6_costOf_21 : lk LX6_costOf 21 = some (xLdA 22 0) := rfl
theorem kX6_costOf_22 : lk LX6_costOf 22 = some (xGf 25 6 8) := rfl
theorem kX6_costOf_25 : lk LX6_costOf 25 = some (xLdI 26 3) := rfl
theorem kX6_costOf_26 : lk LX6_costOf 26 = some (xiaload 27) := rfl
theorem kX6_costOf_27 : lk LX6_costOf 27 = some (xGo 31) := rfl
theorem kX6_costOf_30 : lk LX6_costOf 30 = some (xK 31 (nI 0)) := rfl
theorem kX6_costOf_31 : lk LX6_costOf 31 = some (xBin 32 f_iadd) := rfl
theorem kX6_costOf_32 : lk LX6_costOf 32 = some (xStI 33 2) := rfl
theorem kX6_costOf_33 : lk LX6_costOf 33 = some (xInc 36 3 (nI 1)) := rfl
theorem kX6_costOf_36 : lk LX6_costOf 36 = some (xGo 4) := rfl
theorem kX6_costOf_39 : lk LX6_costOf 39 = some (xLdI 40 2) := rfl
theorem kX6_costOf_40 : lk LX6_costOf 40 = some (xRet) := rfl
def LX6_best : List (Nat × XI) := [(0, xLdI 1 1),
  (1, xI2l 2),
  (2, xKL 3 (lN 0)),
  (3, xKL 6 (lN 20)),
  (6, xCallS MX6_in 3 9),
  (9, xZ_eq 24 12),
  (12, xLdI 13 2),
  (13, xI2l 14),
  (14, xKL 15 (lN 0)),
  (15, xKL 18 (lN 2)),
  (18, xCallS MX6_in 3 21),
  (21, xZ_ne 26 24),
  (24, xK 25 ((-1))),
  (25, xRet),
  (26, xLdA 27 0),
  (27, xGf 30 6 0),
  (30, xK 31 (nI 1)),
  (31, xiaload 32),
  (32, xLdI 33 1),
  (33, xLdA 34 0),
  (34, xGf 37 6 4),
  (37, xBin 38 f_imul),
  (38, xBin 39 f_iadd),
  (39, xK 42 (nI 999)),
  (42, xC_le 51 45),
  (45, xK 48 (nI 999)),
  (48, xGo 64),
  (51, xLdA 52 0),
  (52, xGf 55 6 0),
  (55, xK 56 (nI 1)),
  (56, xiaload 57),
  (57, xLdI 58 1),
  (58, xLdA 59 0),
  (59, xGf 62 6 4),
  (62, xBin 63 f_imul),
  (63, xBin 64 f_iadd),
  (64, xStI 65 3),
  (65, xK 67 ((-4))),
  (67, xStI 69 4),
  (69, xK 70 (nI 0)),
  (70, xStI 72 5),
  (72, xLdI 74 5),
  (74, xK 75 (nI 1)),
  (75, xLdA 76 0),
  (76, xGf 79 6 5),
  (79, xBin 80 f_ishl),
  (80, xC_ge 204 83),
  (83, xLdA 84 0),
  (84, xLdI 86 5),
  (86, xCallV MX6_roomOf 6 1 89),
  (89, xLdA 90 0),
  (90, xGf 93 6 3),
  (93, xC_gt 119 96),
  (96, xLdA 97 0),
  (97, xLdI 99 5),
  (99, xLdA 100 0),
  (100, xGf 103 6 0),
  (103, xK 104 (nI 2)),
  (104, xiaload 105),
  (105, xK 106 ((-1))),
  (106, xBin 107 f_ixor),
  (107, xBin 108 f_iand),
  (108, xCallV MX6_costOf 6 1 111),
  (111, xLdI 112 3),
  (112, xC_gt 119 115),
  (115, xK 116 (nI 1)),
  (116, xGo 120),
  (119, xK 120 (nI 0)),
  (120, xStI 122 6),
  (122, xLdI 124 4),
  (124, xK 126 ((-4))),
  (126, xC_eq 172 129),
  (129, xLdA 130 0),
  (130, xLdI 132 5),
  (132, xCallV MX6_worthOf 6 1 135),
  (135, xLdA 136 0),
  (136, xLdI 138 4),
  (138, xCallV MX6_worthOf 6 1 141),
  (141, xC_gt 172 144),
  (144, xLdA 145 0),
  (145, xLdI 147 5),
  (147, xCallV MX6_worthOf 6 1 150),
  (150, xLdA 151 0),
  (151, xLdI 153 4),
  (153, xCallV MX6_worthOf 6 1 156),
  (156, xC_ne 176 159),
  (159, xLdI 161 5),
  (161, xCallS MX6_ones 1 164),
  (164, xLdI 166 4),
  (166, xCallS MX6_ones 1 169),
  (169, xC_ge 176 172),
  (172, xK 173 (nI 1)),
  (173, xGo 177),
  (176, xK 177 (nI 0)),
  (177, xStI 179 7),
  (179, xLdI 181 6),
  (181, xZ_eq 194 184),
  (184, xLdI 186 7),
  (186, xZ_eq 194 189),
  (189, xLdI 191 5),
  (191, xGo 196),
  (194, xLdI 196 4),
  (196, xStI 198 4),
  (198, xInc 201 5 (nI 1)),
  (201, xGo 72),
  (204, xLdI 205 2),
  (205, xZ_ne 213 208),
  (208, xLdI 210 4),
  (210, xGo 222),
  (213, xLdA 214 0),
  (214, xLdI 216 4),
  (216, xLdI 217 2),
  (217, xK 218 (nI 1)),
  (218, xBin 219 f_isub),
  (219, xCallV MX6_worthPart 6 2 222),
  (222, xRet)]
theorem sX6_best_0 : Snd MX6_best 0 (xLdI 1 1) := snd_iload_n (M := MX6_best) (pc := 0) dX6_best_0
theorem sX6_best_1 : Snd MX6_best 1 (xI2l 2) := snd_i2l (M := MX6_best) (pc := 1) dX6_best_1
theorem sX6_best_2 : Snd MX6_best 2 (xKL 3 (lN 0)) := snd_lconst (M := MX6_best) (pc := 2) dX6_best_2 rfl
theorem sX6_best_3 : Snd MX6_best 3 (xKL 6 (lN 20)) := snd_ldc2 (M := MX6_best) (pc := 3) dX6_best_3 w603
theorem sX6_best_6 : Snd MX6_best 6 (xCallS MX6_in 3 9) := snd_callS (M := MX6_best) (pc := 6) (n := 3) dX6_best_6 w477 w478 ⟨w462, w476, ⟨by decide, by decide, by decide +kernel⟩, by decide⟩ ⟨rfl, rfl⟩
theorem sX6_best_9 : Snd MX6_best 9 (xZ_eq 24 12) := snd_if_eq (M := MX6_best) (pc := 9) dX6_best_9 (by decide)
theorem sX6_best_12 : Snd MX6_best 12 (xLdI 13 2) := snd_iload_n (M := MX6_best) (pc := 12) dX6_best_12
theorem sX6_best_13 : Snd MX6_best 13 (xI2l 14) := snd_i2l (M := MX6_best) (pc := 13) dX6_best_13
theorem sX6_best_14 : Snd MX6_best 14 (xKL 15 (lN 0)) := snd_lconst (M := MX6_best) (pc := 14) dX6_best_14 rfl
theorem sX6_best_15 : Snd MX6_best 15 (xKL 18 (lN 2)) := snd_ldc2 (M := MX6_best) (pc := 15) dX6_best_15 w608
theorem sX6_best_18 : Snd MX6_best 18 (xCallS MX6_in 3 21) := snd_callS (M := MX6_best) (pc := 18) (n := 3) dX6_best_18 w477 w478 ⟨w462, w476, ⟨by decide, by decide, by decide +kernel⟩, by decide⟩ ⟨rfl, rfl⟩
theorem sX6_best_21 : Snd MX6_best 21 (xZ_ne 26 24) := snd_if_ne (M := MX6_best) (pc := 21) dX6_best_21 (by decide)
theorem sX6_best_24 : Snd MX6_best 24 (xK 25 ((-1))) := snd_iconst (M := MX6_best) (pc := 24) dX6_best_24 (by decide +kernel)
theorem sX6_best_25 : Snd MX6_best 25 (xRet) := snd_iret (M := MX6_best) (pc := 25) dX6_best_25 rfl
theorem sX6_best_26 : Snd MX6_best 26 (xLdA 27 0) := snd_aload_n (M := MX6_best) (pc := 26) dX6_best_26
theorem sX6_best_27 : Snd MX6_best 27 (xGf 30 6 0) := snd_gf (M := MX6_best) (pc := 27) (C0 := RX6) (T0 := TX6) (N := 32) dX6_best_27 rfl tbX6 (by decide) w444
theorem sX6_best_30 : Snd MX6_best 30 (xK 31 (nI 1)) := snd_iconst (M := MX6_best) (pc := 30) dX6_best_30 (by decide +kernel)
theorem sX6_best_31 : Snd MX6_best 31 (xiaload 32) := snd_iaload (M := MX6_best) (pc := 31) dX6_best_31
theorem sX6_best_32 : Snd MX6_best 32 (xLdI 33 1) := snd_iload_n (M := MX6_best) (pc := 32) dX6_best_32
theorem sX6_best_33 : Snd MX6_best 33 (xLdA 34 0) := snd_aload_n (M := MX6_best) (pc := 33) dX6_best_33
theorem sX6_best_34 : Snd MX6_best 34 (xGf 37 6 4) := snd_gf (M := MX6_best) (pc := 34) (C0 := RX6) (T0 := TX6) (N := 32) dX6_best_34 rfl tbX6 (by decide) w483
theorem sX6_best_37 : Snd MX6_best 37 (xBin 38 f_imul) := snd_imul (M := MX6_best) (pc := 37) dX6_best_37
theorem sX6_best_38 : Snd MX6_best 38 (xBin 39 f_iadd) := snd_iadd (M := MX6_best) (pc := 38) dX6_best_38
theorem sX6_best_39 : Snd MX6_best 39 (xK 42 (nI 999)) := snd_sipush (M := MX6_best) (pc := 39) dX6_best_39 (by decide +kernel)
theorem sX6_best_42 : Snd MX6_best 42 (xC_le 51 45) := snd_icmp_le (M := MX6_best) (pc := 42) dX6_best_42 (by decide)
theorem sX6_best_45 : Snd MX6_best 45 (xK 48 (nI 999)) := snd_sipush (M := MX6_best) (pc := 45) dX6_best_45 (by decide +kernel)
theorem sX6_best_48 : Snd MX6_best 48 (xGo 64) := snd_goto (M := MX6_best) (pc := 48) dX6_best_48 (by decide)
theorem sX6_best_51 : Snd MX6_best 51 (xLdA 52 0) := snd_aload_n (M := MX6_best) (pc := 51) dX6_best_51
theorem sX6_best_52 : Snd MX6_best 52 (xGf 55 6 0) := snd_gf (M := MX6_best) (pc := 52) (C0 := RX6) (T0 := TX6) (N := 32) dX6_best_52 rfl tbX6 (by decide) w444
theorem sX6_best_55 : Snd MX6_best 55 (xK 56 (nI 1)) := snd_iconst (M := MX6_best) (pc := 55) dX6_best_55 (by decide +kernel)
theorem sX6_best_56 : Snd MX6_best 56 (xiaload 57) := snd_iaload (M := MX6_best) (pc := 56) dX6_best_56
theorem sX6_best_57 : Snd MX6_best 57 (xLdI 58 1) := snd_iload_n (M := MX6_best) (pc := 57) dX6_best_57
theorem sX6_best_58 : Snd MX6_best 58 (xLdA 59 0) := snd_aload_n (M := MX6_best) (pc := 58) dX6_best_58
theorem sX6_best_59 : Snd MX6_best 59 (xGf 62 6 4) := snd_gf (M := MX6_best) (pc := 59) (C0 := RX6) (T0 := TX6) (N := 32) dX6_best_59 rfl tbX6 (by decide) w483
theorem sX6_best_62 : Snd MX6_best 62 (xBin 63 f_imul) := snd_imul (M := MX6_best) (pc := 62) dX6_best_62
theorem sX6_best_63 : Snd MX6_best 63 (xBin 64 f_iadd) := snd_iadd (M := MX6_best) (pc := 63) dX6_best_63
theorem sX6_best_64 : Snd MX6_best 64 (xStI 65 3) := snd_istore_n (M := MX6_best) (pc := 64) dX6_best_64 (by decide)
theorem sX6_best_65 : Snd MX6_best 65 (xK 67 ((-4))) := snd_bipush (M := MX6_best) (pc := 65) dX6_best_65 (by decide +kernel)
theorem sX6_best_67 : Snd MX6_best 67 (xStI 69 4) := snd_istore (M := MX6_best) (pc := 67) dX6_best_67 (by decide)
theorem sX6_best_69 : Snd MX6_best 69 (xK 70 (nI 0)) := snd_iconst (M := MX6_best) (pc := 69) dX6_best_69 (by decide +kernel)
theorem sX6_best_70 : Snd MX6_best 70 (xStI 72 5) := snd_istore (M := MX6_best) (pc := 70) dX6_best_70 (by decide)
theorem sX6_best_72 : Snd MX6_best 72 (xLdI 74 5) := snd_iload (M := MX6_best) (pc := 72) dX6_best_72
theorem sX6_best_74 : Snd MX6_best 74 (xK 75 (nI 1)) := snd_iconst (M := MX6_best) (pc := 74) dX6_best_74 (by decide +kernel)
theorem sX6_best_75 : Snd MX6_best 75 (xLdA 76 0) := snd_aload_n (M := MX6_best) (pc := 75) dX6_best_75
theorem sX6_best_76 : Snd MX6_best 76 (xGf 79 6 5) := snd_gf (M := MX6_best) (pc := 76) (C0 := RX6) (T0 := TX6) (N := 32) dX6_best_76 rfl tbX6 (by decide) w475
theorem sX6_best_79 : Snd MX6_best 79 (xBin 80 f_ishl) := snd_ishl (M := MX6_best) (pc := 79) dX6_best_79
theorem sX6_best_80 : Snd MX6_best 80 (xC_ge 204 83) := snd_icmp_ge (M := MX6_best) (pc := 80) dX6_best_80 (by decide)
theorem sX6_best_83 : Snd MX6_best 83 (xLdA 84 0) := snd_aload_n (M := MX6_best) (pc := 83) dX6_best_83
theorem sX6_best_84 : Snd MX6_best 84 (xLdI 86 5) := snd_iload (M := MX6_best) (pc := 84) dX6_best_84
theorem sX6_best_86 : Snd MX6_best 86 (xCallV MX6_roomOf 6 1 89) := snd_callV (M := MX6_best) (pc := 86) (n := 1) dX6_best_86 rfl w552 w553 w554 ⟨w462, w551, ⟨by decide, by decide, by decide +kernel⟩, by decide⟩ ⟨rfl, rfl⟩
theorem sX6_best_89 : Snd MX6_best 89 (xLdA 90 0) := snd_aload_n (M := MX6_best) (pc := 89) dX6_best_89
theorem sX6_best_90 : Snd MX6_best 90 (xGf 93 6 3) := snd_gf (M := MX6_best) (pc := 90) (C0 := RX6) (T0 := TX6) (N := 32) dX6_best_90 rfl tbX6 (by decide) w482
theorem sX6_best_93 : Snd MX6_best 93 (xC_gt 119 96) := snd_icmp_gt (M := MX6_best) (pc := 93) dX6_best_93 (by decide)
theorem sX6_best_96 : Snd MX6_best 96 (xLdA 97 0) := snd_aload_n (M := MX6_best) (pc := 96) dX6_best_96
theorem sX6_best_97 : Snd MX6_best 97 (xLdI 99 5) := snd_iload (M := MX6_best) (pc := 97) dX6_best_97
theorem sX6_best_99 : Snd MX6_best 99 (xLdA 100 0) := snd_aload_n (M := MX6_best) (pc := 99) dX6_best_99
theorem sX6_best_100 : Snd MX6_best 100 (xGf 103 6 0) := snd_gf (M := MX6_best) (pc := 100) (C0 := RX6) (T0 := TX6) (N := 32) dX6_best_100 rfl tbX6 (by decide) w444
theorem sX6_best_103 : Snd MX6_best 103 (xK 104 (nI 2)) := snd_iconst (M := MX6_best) (pc := 103) dX6_best_103 (by decide +kernel)
theorem sX6_best_104 : Snd MX6_best 104 (xiaload 105) := snd_iaload (M := MX6_best) (pc := 104) dX6_best_104
theorem sX6_best_105 : Snd MX6_best 105 (xK 106 ((-1))) := snd_iconst (M := MX6_best) (pc := 105) dX6_best_105 (by decide +kernel)
theorem sX6_best_106 : Snd MX6_best 106 (xBin 107 f_ixor) := snd_ixor (M := MX6_best) (pc := 106) dX6_best_106
theorem sX6_best_107 : Snd MX6_best 107 (xBin 108 f_iand) := snd_iand (M := MX6_best) (pc := 107) dX6_best_107
theorem sX6_best_108 : Snd MX6_best 108 (xCallV MX6_costOf 6 1 111) := snd_callV (M := MX6_best) (pc := 108) (n := 1) dX6_best_108 rfl w610 w611 w612 ⟨w462, w609, ⟨by decide, by decide, by decide +kernel⟩, by decide⟩ ⟨rfl, rfl⟩
theorem sX6_best_111 : Snd MX6_best 111 (xLdI 112 3) := snd_iload_n (M := MX6_best) (pc := 111) dX6_best_111
theorem sX6_best_112 : Snd MX6_best 112 (xC_gt 119 115) := snd_icmp_gt (M := MX6_best) (pc := 112) dX6_best_112 (by decide)
theorem sX6_best_115 : Snd MX6_best 115 (xK 116 (nI 1)) := snd_iconst (M := MX6_best) (pc := 115) dX6_best_115 (by decide +kernel)
theorem sX6_best_116 : Snd MX6_best 116 (xGo 120) := snd_goto (M := MX6_best) (pc := 116) dX6_best_116 (by decide)
theorem sX6_best_119 : Snd MX6_best 119 (xK 120 (nI 0)) := snd_iconst (M := MX6_best) (pc := 119) dX6_best_119 (by decide +kernel)
theorem sX6_best_120 : Snd MX6_best 120 (xStI 122 6) := snd_istore (M := MX6_best) (pc := 120) dX6_best_120 (by decide)
theorem sX6_best_122 : Snd MX6_best 122 (xLdI 124 4) := snd_iload (M := MX6_best) (pc := 122) dX6_best_122
theorem sX6_best_124 : Snd MX6_best 124 (xK 126 ((-4))) := snd_bipush (M := MX6_best) (pc := 124) dX6_best_124 (by decide +kernel)
theorem sX6_best_126 : Snd MX6_best 126 (xC_eq 172 129) := snd_icmp_eq (M := MX6_best) (pc := 126) dX6_best_126 (by decide)
theorem sX6_best_129 : Snd MX6_best 129 (xLdA 130 0) := snd_aload_n (M := MX6_best) (pc := 129) dX6_best_129
theorem sX6_best_130 : Snd MX6_best 130 (xLdI 132 5) := snd_iload (M := MX6_best) (pc := 130) dX6_best_130
theorem sX6_best_132 : Snd MX6_best 132 (xCallV MX6_worthOf 6 1 135) := snd_callV (M := MX6_best) (pc := 132) (n := 1) dX6_best_132 rfl w544 w545 w546 ⟨w462, w543, ⟨by decide, by decide, by decide +kernel⟩, by decide⟩ ⟨rfl, rfl⟩
theorem sX6_best_135 : Snd MX6_best 135 (xLdA 136 0) := snd_aload_n (M := MX6_best) (pc := 135) dX6_best_135
theorem sX6_best_136 : Snd MX6_best 136 (xLdI 138 4) := snd_iload (M := MX6_best) (pc := 136) dX6_best_136
theorem sX6_best_138 : Snd MX6_best 138 (xCallV MX6_worthOf 6 1 141) := snd_callV (M := MX6_best) (pc := 138) (n := 1) dX6_best_138 rfl w544 w545 w546 ⟨w462, w543, ⟨by decide, by decide, by decide +kernel⟩, by decide⟩ ⟨rfl, rfl⟩
theorem sX6_best_141 : Snd MX6_best 141 (xC_gt 172 144) := snd_icmp_gt (M := MX6_best) (pc := 141) dX6_best_141 (by decide)
theorem sX6_best_144 : Snd MX6_best 144 (xLdA 145 0) := snd_aload_n (M := MX6_best) (pc := 144) dX6_best_144
theorem sX6_best_145 : Snd MX6_best 145 (xLdI 147 5) := snd_iload (M := MX6_best) (pc := 145) dX6_best_145
theorem sX6_best_147 : Snd MX6_best 147 (xCallV MX6_worthOf 6 1 150) := snd_callV (M := MX6_best) (pc := 147) (n := 1) dX6_best_147 rfl w544 w545 w546 ⟨w462, w543, ⟨by decide, by decide, by decide +kernel⟩, by decide⟩ ⟨rfl, rfl⟩
theorem sX6_best_150 : Snd MX6_best 150 (xLdA 151 0) := snd_aload_n (M := MX6_best) (pc := 150) dX6_best_150
theorem sX6_best_151 : Snd MX6_best 151 (xLdI 153 4) := snd_iload (M := MX6_best) (pc := 151) dX6_best_151
theorem sX6_best_153 : Snd MX6_best 153 (xCallV MX6_worthOf 6 1 156) := snd_callV (M := MX6_best) (pc := 153) (n := 1) dX6_best_153 rfl w544 w545 w546 ⟨w462, w543, ⟨by decide, by decide, by decide +kernel⟩, by decide⟩ ⟨rfl, rfl⟩
theorem sX6_best_156 : Snd MX6_best 156 (xC_ne 176 159) := snd_icmp_ne (M := MX6_best) (pc := 156) dX6_best_156 (by decide)
theorem sX6_best_159 : Snd MX6_best 159 (xLdI 161 5) := snd_iload (M := MX6_best) (pc := 159) dX6_best_159
theorem sX6_best_161 : Snd MX6_best 161 (xCallS MX6_ones 1 164) := snd_callS (M := MX6_best) (pc := 161) (n := 1) dX6_best_161 w533 w534 ⟨w462, w532, ⟨by decide, by decide, by decide +kernel⟩, by decide⟩ ⟨rfl, rfl⟩
theorem sX6_best_164 : Snd MX6_best 164 (xLdI 166 4) := snd_iload (M := MX6_best) (pc := 164) dX6_best_164
theorem sX6_best_166 : Snd MX6_best 166 (xCallS MX6_ones 1 169) := snd_callS (M := MX6_best) (pc := 166) (n := 1) dX6_best_166 w533 w534 ⟨w462, w532, ⟨by decide, by decide, by decide +kernel⟩, by decide⟩ ⟨rfl, rfl⟩
theorem sX6_best_169 : Snd MX6_best 169 (xC_ge 176 172) := snd_icmp_ge (M := MX6_best) (pc := 169) dX6_best_169 (by decide)
theorem sX6_best_172 : Snd MX6_best 172 (xK 173 (nI 1)) := snd_iconst (M := MX6_best) (pc := 172) dX6_best_172 (by decide +kernel)
theorem sX6_best_173 : Snd MX6_best 173 (xGo 177) := snd_goto (M := MX6_best) (pc := 173) dX6_best_173 (by decide)
theorem sX6_best_176 : Snd MX6_best 176 (xK 177 (nI 0)) := snd_iconst (M := MX6_best) (pc := 176) dX6_best_176 (by decide +kernel)
theorem sX6_best_177 : Snd MX6_best 177 (xStI 179 7) := snd_istore (M := MX6_best) (pc := 177) dX6_best_177 (by decide)
theorem sX6_best_179 : Snd MX6_best 179 (xLdI 181 6) := snd_iload (M := MX6_best) (pc := 179) dX6_best_179
theorem sX6_best_181 : Snd MX6_best 181 (xZ_eq 194 184) := snd_if_eq (M := MX6_best) (pc := 181) dX6_best_181 (by decide)
theorem sX6_best_184 : Snd MX6_best 184 (xLdI 186 7) := snd_iload (M := MX6_best) (pc := 184) dX6_best_184
theorem sX6_best_186 : Snd MX6_best 186 (xZ_eq 194 189) := snd_if_eq (M := MX6_best) (pc := 186) dX6_best_186 (by decide)
theorem sX6_best_189 : Snd MX6_best 189 (xLdI 191 5) := snd_iload (M := MX6_best) (pc := 189) dX6_best_189
theorem sX6_best_191 : Snd MX6_best 191 (xGo 196) := snd_goto (M := MX6_best) (pc := 191) dX6_best_191 (by decide)
theorem sX6_best_194 : Snd MX6_best 194 (xLdI 196 4) := snd_iload (M := MX6_best) (pc := 194) dX6_best_194
theorem sX6_best_196 : Snd MX6_best 196 (xStI 198 4) := snd_istore (M := MX6_best) (pc := 196) dX6_best_196 (by decide)
theorem sX6_best_198 : Snd MX6_best 198 (xInc 201 5 (nI 1)) := snd_iinc (M := MX6_best) (pc := 198) dX6_best_198 (by decide +kernel) (by decide)
theorem sX6_best_201 : Snd MX6_best 201 (xGo 72) := snd_goto (M := MX6_best) (pc := 201) dX6_best_201 (by decide)
theorem sX6_best_204 : Snd MX6_best 204 (xLdI 205 2) := snd_iload_n (M := MX6_best) (pc := 204) dX6_best_204
theorem sX6_best_205 : Snd MX6_best 205 (xZ_ne 213 208) := snd_if_ne (M := MX6_best) (pc := 205) dX6_best_205 (by decide)
theorem sX6_best_208 : Snd MX6_best 208 (xLdI 210 4) := snd_iload (M := MX6_best) (pc := 208) dX6_best_208
theorem sX6_best_210 : Snd MX6_best 210 (xGo 222) := snd_goto (M := MX6_best) (pc := 210) dX6_best_210 (by decide)
theorem sX6_best_213 : Snd MX6_best 213 (xLdA 214 0) := snd_aload_n (M := MX6_best) (pc := 213) dX6_best_213
theorem sX6_best_214 : Snd MX6_best 214 (xLdI 216 4) := snd_iload (M := MX6_best) (pc := 214) dX6_best_214
theorem sX6_best_216 : Snd MX6_best 216 (xLdI 217 2) := snd_iload_n (M := MX6_best) (pc := 216) dX6_best_216
theorem sX6_best_217 : Snd MX6_best 217 (xK 218 (nI 1)) := snd_iconst (M := MX6_best) (pc := 217) dX6_best_217 (by decide +kernel)
theorem sX6_best_218 : Snd MX6_best 218 (xBin 219 f_isub) := snd_isub (M := MX6_best) (pc := 218) dX6_best_218
theorem sX6_best_219 : Snd MX6_best 219 (xCallV MX6_worthPart 6 2 222) := snd_callV (M := MX6_best) (pc := 219) (n := 2) dX6_best_219 rfl w580 w581 w582 ⟨w462, w579, ⟨by decide, by decide, by decide +kernel⟩, by decide⟩ ⟨rfl, rfl⟩
theorem sX6_best_222 : Snd MX6_best 222 (xRet) := snd_iret (M := MX6_best) (pc := 222) dX6_best_222 rfl
theorem VX6_best : Valid MX6_best LX6_best := va_lid sX6_best_0 (va_lid sX6_best_1 (va_lid sX6_best_2 (va_lid sX6_best_3 (va_lid sX6_best_6 (va_lid sX6_best_9 (va_lid sX6_best_12 (va_lid sX6_best_13 (va_lid sX6_best_14 (va_lid sX6_best_15 (va_lid sX6_best_18 (va_lid sX6_best_21 (va_lid sX6_best_24 (va_lid sX6_best_25 (va_lid sX6_best_26 (va_lid sX6_best_27 (va_lid sX6_best_30 (va_lid sX6_best_31 (va_lid sX6_best_32 (va_lid sX6_best_33 (va_lid sX6_best_34 (va_lid sX6_best_37 (va_lid sX6_best_38 (va_lid sX6_best_39 (va_lid sX6_best_42 (va_lid sX6_best_45 (va_lid sX6_best_48 (va_lid sX6_best_51 (va_lid sX6_best_52 (va_lid sX6_best_55 (va_lid sX6_best_56 (va_lid sX6_best_57 (va_lid sX6_best_58 (va_lid sX6_best_59 (va_lid sX6_best_62 (va_lid sX6_best_63 (va_lid sX6_best_64 (va_lid sX6_best_65 (va_lid sX6_best_67 (va_lid sX6_best_69 (va_lid sX6_best_70 (va_lid sX6_best_72 (va_lid sX6_best_74 (va_lid sX6_best_75 (va_lid sX6_best_76 (va_lid sX6_best_79 (va_lid sX6_best_80 (va_lid sX6_best_83 (va_lid sX6_best_84 (va_lid sX6_best_86 (va_lid sX6_best_89 (va_lid sX6_best_90 (va_lid sX6_best_93 (va_lid sX6_best_96 (va_lid sX6_best_97 (va_lid sX6_best_99 (va_lid sX6_best_100 (va_lid sX6_best_103 (va_lid sX6_best_104 (va_lid sX6_best_105 (va_lid sX6_best_106 (va_lid sX6_best_107 (va_lid sX6_best_108 (va_lid sX6_best_111 (va_lid sX6_best_112 (va_lid sX6_best_115 (va_lid sX6_best_116 (va_lid sX6_best_119 (va_lid sX6_best_120 (va_lid sX6_best_122 (va_lid sX6_best_124 (va_lid sX6_best_126 (va_lid sX6_best_129 (va_lid sX6_best_130 (va_lid sX6_best_132 (va_lid sX6_best_135 (va_lid sX6_best_136 (va_lid sX6_best_138 (va_lid sX6_best_141 (va_lid sX6_best_144 (va_lid sX6_best_145 (va_lid sX6_best_147 (va_lid sX6_best_150 (va_lid sX6_best_151 (va_lid sX6_best_153 (va_lid sX6_best_156 (va_lid sX6_best_159 (va_lid sX6_best_161 (va_lid sX6_best_164 (va_lid sX6_best_166 (va_lid sX6_best_169 (va_lid sX6_best_172 (va_lid sX6_best_173 (va_lid sX6_best_176 (va_lid sX6_best_177 (va_lid sX6_best_179 (va_lid sX6_best_181 (va_lid sX6_best_184 (va_lid sX6_best_186 (va_lid sX6_best_189 (va_lid sX6_best_191 (va_lid sX6_best_194 (va_lid sX6_best_196 (va_lid sX6_best_198 (va_lid sX6_best_201 (va_lid sX6_best_204 (va_lid sX6_best_205 (va_lid sX6_best_208 (va_lid sX6_best_210 (va_lid sX6_best_213 (va_lid sX6_best_214 (va_lid sX6_best_216 (va_lid sX6_best_217 (va_lid sX6_best_218 (va_lid sX6_best_219 (va_lid sX6_best_222 (va_lid0))))))))))))))))))))))))))))))))))))))))))))))))))))))))))))))))))))))))))))))))))))))))))))))))))))))))))))))))))))
theorem kX6_best_0 : lk LX6_best 0 = some (xLdI 1 1) := rfl
theorem kX6_best_1 : lk LX6_best 1 = some (xI2l 2) := rfl
theorem kX6_best_2 : lk LX6_best 2 = some (xKL 3 (lN 0)) := rfl
theorem kX6_best_3 : lk LX6_best 3 = some (xKL 6 (lN 20)) := rfl
theorem kX6_best_6 : lk LX6_best 6 = some (xCallS MX6_in 3 9) := rfl
theorem kX6_best_9 : lk LX6_best 9 = some (xZ_eq 24 12) := rfl
theorem kX6_best_12 : lk LX6_best 12 = some (xLdI 13 2) := rfl
theorem kX6_best_13 : lk LX6_best 13 = some (xI2l 14) := rfl
theorem kX6_best_14 : lk LX6_best 14 = some (xKL 15 (lN 0)) := rfl
theorem kX6_best_15 : lk LX6_best 15 = some (xKL 18 (lN 2)) := rfl
theorem kX6_best_18 : lk LX6_best 18 = some (xCallS MX6_in 3 21) := rfl
theorem kX6_best_21 : lk LX6_best 21 = some (xZ_ne 26 24) := rfl
theorem kX6_best_24 : lk LX6_best 24 = some (xK 25 ((-1))) := rfl
theorem kX6_best_25 : lk LX6_best 25 = some (xRet) := rfl
theorem kX6_best_26 : lk LX6_best 26 = some (xLdA 27 0) := rfl
theorem kX6_best_27 : lk LX6_best 27 = some (xGf 30 6 0) := rfl
theorem kX6_best_30 : lk LX6_best 30 = some (xK 31 (nI 1)) := rfl
theorem kX6_best_31 : lk LX6_best 31 = some (xiaload 32) := rfl
theorem kX6_best_32 : lk LX6_best 32 = some (xLdI 33 1) := rfl
theorem kX6_best_33 : lk LX6_best 33 = some (xLdA 34 0) := rfl
theorem kX6_best_34 : lk LX6_best 34 = some (xGf 37 6 4) := rfl
theorem kX6_best_37 : lk LX6_best 37 = some (xBin 38 f_imul) := rfl
theorem kX6_best_38 : lk LX6_best 38 = some (xBin 39 f_iadd) := rfl
theorem kX6_best_39 : lk LX6_best 39 = some (xK 42 (nI 999)) := rfl
theorem kX6_best_42 : lk LX6_best 42 = some (xC_le 51 45) := rfl
theorem kX6_best_45 : lk LX6_best 45 = some (xK 48 (nI 999)) := rfl
theorem kX6_best_48 : lk LX6_best 48 = some (xGo 64) := rfl
theorem kX6_best_51 : lk LX6_best 51 = some (xLdA 52 0) := rfl
theorem kX6_best_52 : lk LX6_best 52 = some (xGf 55 6 0) := rfl
theorem kX6_best_55 : lk LX6_best 55 = some (xK 56 (nI 1)) := rfl
theorem kX6_best_56 : lk LX6_best 56 = some (xiaload 57) := rfl
theorem kX6_best_57 : lk LX6_best 57 = some (xLdI 58 1) := rfl
theorem kX6_best_58 : lk LX6_best 58 = some (xLdA 59 0) := rfl
theorem kX6_best_59 : lk LX6_best 59 = some (xGf 62 6 4) := rfl
theorem kX6_best_62 : lk LX6_best 62 = some (xBin 63 f_imul) := rfl
theorem kX6_best_63 : lk LX6_best 63 = some (xBin 64 f_iadd) := rfl
theorem kX6_best_64 : lk LX6_best 64 = some (xStI 65 3) := rfl
theorem kX6_best_65 : lk LX6_best 65 = some (xK 67 ((-4))) := rfl
theorem kX6_best_67 : lk LX6_best 67 = some (xStI 69 4) := rfl
theorem kX6_best_69 : lk LX6_best 69 = some (xK 70 (nI 0)) := rfl
theorem kX6_best_70 : lk LX6_best 70 = some (xStI 72 5) := rfl
theorem kX6_best_72 : lk LX6_best 72 = some (xLdI 74 5) := rfl
theorem kX6_best_74 : lk LX6_best 74 = some (xK 75 (nI 1)) := rfl
theorem kX6_best_75 : lk LX6_best 75 = some (xLdA 76 0) := rfl
theorem kX6_best_76 : lk LX6_best 76 = some (xGf 79 6 5) := rfl
theorem kX6_best_79 : lk LX6_best 79 = some (xBin 80 f_ishl) := rfl
theorem kX6_best_80 : lk LX6_best 80 = some (xC_ge 204 83) := rfl
theorem kX6_best_83 : lk LX6_best 83 = some (xLdA 84 0) := rfl
theorem kX6_best_84 : lk LX6_best 84 = some (xLdI 86 5) := rfl
theorem kX6_best_86 : lk LX6_best 86 = some (xCallV MX6_roomOf 6 1 89) := rfl
theorem kX6_best_89 : lk LX6_best 89 = some (xLdA 90 0) := rfl
theorem kX6_best_90 : lk LX6_best 90 = some (xGf 93 6 3) := rfl
theorem kX6_best_93 : lk LX6_best 93 = some (xC_gt 119 96) := rfl
theorem kX6_best_96 : lk LX6_best 96 = some (xLdA 97 0) := rfl
theorem kX6_best_97 : lk LX6_best 97 = some (xLdI 99 5) := rfl
theorem kX6_best_99 : lk LX6_best 99 = some (xLdA 100 0) := rfl
theorem kX6_best_100 : lk LX6_best 100 = some (xGf 103 6 0) := rfl
theorem kX6_best_103 : lk LX6_best 103 = some (xK 104 (nI 2)) := rfl
theorem kX6_best_104 : lk LX6_best 104 = some (xiaload 105) := rfl
theorem kX6_best_105 : lk LX6_best 105 = some (xK 106 ((-1))) := rfl
theorem kX6_best_106 : lk LX6_best 106 = some (xBin 107 f_ixor) := rfl
theorem kX6_best_107 : lk LX6_best 107 = some (xBin 108 f_iand) := rfl
theorem kX6_best_108 : lk LX6_best 108 = some (xCallV MX6_costOf 6 1 111) := rfl
theorem kX6_best_111 : lk LX6_best 111 = some (xLdI 112 3) := rfl
theorem kX6_best_112 : lk LX6_best 112 = some (xC_gt 119 115) := rfl
theorem kX6_best_115 : lk LX6_best 115 = some (xK 116 (nI 1)) := rfl
theorem kX6_best_116 : lk LX6_best 116 = some (xGo 120) := rfl
theorem kX6_best_119 : lk LX6_best 119 = some (xK 120 (nI 0)) := rfl
theorem kX6_best_120 : lk LX6_best 120 = some (xStI 122 6) := rfl
theorem kX6_best_122 : lk LX6_best 122 = some (xLdI 124 4) := rfl
theorem kX6_best_124 : lk LX6_best 124 = some (xK 126 ((-4))) := rfl
theorem kX6_best_126 : lk LX6_best 126 = some (xC_eq 172 129) := rfl
theorem kX6_best_129 : lk LX6_best 129 = some (xLdA 130 0) := rfl
theorem kX6_best_130 : lk LX6_best 130 = some (xLdI 132 5) := rfl
theorem kX6_best_132 : lk LX6_best 132 = some (xCallV MX6_worthOf 6 1 135) := rfl
theorem kX6_best_135 : lk LX6_best 135 = some (xLdA 136 0) := rfl
theorem kX6_best_136 : lk LX6_best 136 = some (xLdI 138 4) := rfl
theorem kX6_best_138 : lk LX6_best 138 = some (xCallV MX6_worthOf 6 1 141) := rfl
theorem kX6_best_141 : lk LX6_best 141 = some (xC_gt 172 144) := rfl
theorem kX6_best_144 : lk LX6_best 144 = some (xLdA 145 0) := rfl
set_option maxRecDepth 20000 in
theorem kX6_best_145 : lk LX6_best 145 = some (xLdI 147 5) := rfl
set_option maxRecDepth 20000 in
theorem kX6_best_147 : lk LX6_best 147 = some (xCallV MX6_worthOf 6 1 150) := rfl
set_option maxRecDepth 20000 in
theorem kX6_best_150 : lk LX6_best 150 = some (xLdA 151 0) := rfl
set_option maxRecDepth 20000 in
theorem kX6_best_151 : lk LX6_best 151 = some (xLdI 153 4) := rfl
set_option maxRecDepth 20000 in
theorem kX6_best_153 : lk LX6_best 153 = some (xCallV MX6_worthOf 6 1 156) := rfl
set_option maxRecDepth 20000 in
theorem kX6_best_156 : lk LX6_best 156 = some (xC_ne 176 159) := rfl
set_option maxRecDepth 20000 in
theorem kX6_best_159 : lk LX6_best 159 = some (xLdI 161 5) := rfl
set_option maxRecDepth 20000 in
theorem kX6_best_161 : lk LX6_best 161 = some (xCallS MX6_ones 1 164) := rfl
set_option maxRecDepth 20000 in
theorem kX6_best_164 : lk LX6_best 164 = some (xLdI 166 4) := rfl
set_option maxRecDepth 20000 in
theorem kX6_best_166 : lk LX6_best 166 = some (xCallS MX6_ones 1 169) := rfl
set_option maxRecDepth 20000 in
theorem kX6_best_169 : lk LX6_best 169 = some (xC_ge 176 172) := rfl
set_option maxRecDepth 20000 in
theorem kX6_best_172 : lk LX6_best 172 = some (xK 173 (nI 1)) := rfl
set_option maxRecDepth 20000 in
theorem kX6_best_173 : lk LX6_best 173 = some (xGo 177) := rfl
set_option maxRecDepth 20000 in
theorem kX6_best_176 : lk LX6_best 176 = some (xK 177 (nI 0)) := rfl
set_option maxRecDepth 20000 in
theorem kX6_best_177 : lk LX6_best 177 = some (xStI 179 7) := rfl
set_option maxRecDepth 20000 in
theorem kX6_best_179 : lk LX6_best 179 = some (xLdI 181 6) := rfl
set_option maxRecDepth 20000 in
theorem kX6_best_181 : lk LX6_best 181 = some (xZ_eq 194 184) := rfl
set_option maxRecDepth 20000 in
theorem kX6_best_184 : lk LX6_best 184 = some (xLdI 186 7) := rfl
set_option maxRecDepth 20000 in
theorem kX6_best_186 : lk LX6_best 186 = some (xZ_eq 194 189) := rfl
set_option maxRecDepth 20000 in
theorem kX6_best_189 : lk LX6_best 189 = some (xLdI 191 5) := rfl
set_option maxRecDepth 20000 in
theorem kX6_best_191 : lk LX6_best 191 = some (xGo 196) := rfl
set_option maxRecDepth 20000 in
theorem kX6_best_194 : lk LX6_best 194 = some (xLdI 196 4) := rfl
set_option maxRecDepth 20000 in
theorem kX6_best_196 : lk LX6_best 196 = some (xStI 198 4) := rfl
set_option maxRecDepth 20000 in
theorem kX6_best_198 : lk LX6_best 198 = some (xInc 201 5 (nI 1)) := rfl
set_option maxRecDepth 20000 in
theorem kX6_best_201 : lk LX6_best 201 = some (xGo 72) := rfl
set_option maxRecDepth 20000 in
theorem kX6_best_204 : lk LX6_best 204 = some (xLdI 205 2) := rfl
set_option maxRecDepth 20000 in
theorem kX6_best_205 : lk LX6_best 205 = some (xZ_ne 213 208) := rfl
set_option maxRecDepth 20000 in
theorem kX6_best_208 : lk LX6_best 208 = some (xLdI 210 4) := rfl
set_option maxRecDepth 20000 in
theorem kX6_best_210 : lk LX6_best 210 = some (xGo 222) := rfl
set_option maxRecDepth 20000 in
theorem kX6_best_213 : lk LX6_best 213 = some (xLdA 214 0) := rfl
set_option maxRecDepth 20000 in
theorem kX6_best_214 : lk LX6_best 214 = some (xLdI 216 4) := rfl
set_option maxRecDepth 20000 in
theorem kX6_best_216 : lk LX6_best 216 = some (xLdI 217 2) := rfl
set_option maxRecDepth 20000 in
theorem kX6_best_217 : lk LX6_best 217 = some (xK 218 (nI 1)) := rfl
set_option maxRecDepth 20000 in
theorem kX6_best_218 : lk LX6_best 218 = some (xBin 219 f_isub) := rfl
set_option maxRecDepth 20000 in
theorem kX6_best_219 : lk LX6_best 219 = some (xCallV MX6_worthPart 6 2 222) := rfl
set_option maxRecDepth 20000 in
theorem kX6_best_222 : lk LX6_best 222 = some (xRet) := rfl
def LX6_cover : List (Nat × XI) := [(0, xLdI 1 1),
  (1, xI2l 2),
  (2, xKL 3 (lN 0)),
  (3, xK 4 (nI 1)),
  (4, xLdA 5 0),
  (5, xGf 8 6 9),
  (8, xBin 9 f_ishl),
  (9, xK 10 (nI 1)),
  (10, xBin 11 f_isub),
  (11, xI2l 12),
  (12, xCallS MX6_in 3 15),
  (15, xZ_eq 30 18),
  (18, xLdI 19 2),
  (19, xI2l 20),
  (20, xKL 21 (lN 0)),
  (21, xKL 24 (lN 2)),
  (24, xCallS MX6_in 3 27),
  (27, xZ_ne 32 30),
  (30, xK 31 ((-1))),
  (31, xRet),
  (32, xK 34 ((-4))),
  (34, xStI 35 3),
  (35, xK 36 (nI 0)),
  (36, xStI 38 4),
  (38, xLdI 40 4),
  (40, xK 41 (nI 1)),
  (41, xLdA 42 0),
  (42, xGf 45 6 5),
  (45, xBin 46 f_ishl),
  (46, xC_ge 105 49),
  (49, xLdI 50 1),
  (50, xLdA 51 0),
  (51, xLdI 53 4),
  (53, xCallV MX6_livesBy 6 1 56),
  (56, xK 57 ((-1))),
  (57, xBin 58 f_ixor),
  (58, xBin 59 f_iand),
  (59, xZ_ne 66 62),
  (62, xK 63 (nI 1)),
  (63, xGo 67),
  (66, xK 67 (nI 0)),
  (67, xStI 69 5),
  (69, xLdI 71 5),
  (71, xZ_eq 97 74),
  (74, xLdI 75 3),
  (75, xK 77 ((-4))),
  (77, xC_eq 92 80),
  (80, xLdI 82 4),
  (82, xCallS MX6_ones 1 85),
  (85, xLdI 86 3),
  (86, xCallS MX6_ones 1 89),
  (89, xC_ge 97 92),
  (92, xLdI 94 4),
  (94, xGo 98),
  (97, xLdI 98 3),
  (98, xStI 99 3),
  (99, xInc 102 4 (nI 1)),
  (102, xGo 38),
  (105, xLdI 106 2),
  (106, xZ_ne 113 109),
  (109, xLdI 110 3),
  (110, xGo 130),
  (113, xLdI 114 2),
  (114, xK 115 (nI 1)),
  (115, xC_ne 125 118),
  (118, xLdI 119 3),
  (119, xCallS MX6_ones 1 122),
  (122, xGo 130),
  (125, xLdA 126 0),
  (126, xLdI 127 3),
  (127, xCallV MX6_roomOf 6 1 130),
  (130, xRet)]
theorem sX6_cover_0 : Snd MX6_cover 0 (xLdI 1 1) := snd_iload_n (M := MX6_cover) (pc := 0) dX6_cover_0
theorem sX6_cover_1 : Snd MX6_cover 1 (xI2l 2) := snd_i2l (M := MX6_cover) (pc := 1) dX6_cover_1
theorem sX6_cover_2 : Snd MX6_cover 2 (xKL 3 (lN 0)) := snd_lconst (M := MX6_cover) (pc := 2) dX6_cover_2 rfl
theorem sX6_cover_3 : Snd MX6_cover 3 (xK 4 (nI 1)) := snd_iconst (M := MX6_cover) (pc := 3) dX6_cover_3 (by decide +kernel)
theorem sX6_cover_4 : Snd MX6_cover 4 (xLdA 5 0) := snd_aload_n (M := MX6_cover) (pc := 4) dX6_cover_4
theorem sX6_cover_5 : Snd MX6_cover 5 (xGf 8 6 9) := snd_gf (M := MX6_cover) (pc := 5) (C0 := RX6) (T0 := TX6) (N := 32) dX6_cover_5 rfl tbX6 (by decide) w479
theorem sX6_cover_8 : Snd MX6_cover 8 (xBin 9 f_ishl) := snd_ishl (M := MX6_cover) (pc := 8) dX6_cover_8
theorem sX6_cover_9 : Snd MX6_cover 9 (xK 10 (nI 1)) := snd_iconst (M := MX6_cover) (pc := 9) dX6_cover_9 (by decide +kernel)
theorem sX6_cover_10 : Snd MX6_cover 10 (xBin 11 f_isub) := snd_isub (M := MX6_cover) (pc := 10) dX6_cover_10
theorem sX6_cover_11 : Snd MX6_cover 11 (xI2l 12) := snd_i2l (M := MX6_cover) (pc := 11) dX6_cover_11
theorem sX6_cover_12 : Snd MX6_cover 12 (xCallS MX6_in 3 15) := snd_callS (M := MX6_cover) (pc := 12) (n := 3) dX6_cover_12 w477 w478 ⟨w462, w476, ⟨by decide, by decide, by decide +kernel⟩, by decide⟩ ⟨rfl, rfl⟩
theorem sX6_cover_15 : Snd MX6_cover 15 (xZ_eq 30 18) := snd_if_eq (M := MX6_cover) (pc := 15) dX6_cover_15 (by decide)
theorem sX6_cover_18 : Snd MX6_cover 18 (xLdI 19 2) := snd_iload_n (M := MX6_cover) (pc := 18) dX6_cover_18
theorem sX6_cover_19 : Snd MX6_cover 19 (xI2l 20) := snd_i2l (M := MX6_cover) (pc := 19) dX6_cover_19
theorem sX6_cover_20 : Snd MX6_cover 20 (xKL 21 (lN 0)) := snd_lconst (M := MX6_cover) (pc := 20) dX6_cover_20 rfl
theorem sX6_cover_21 : Snd MX6_cover 21 (xKL 24 (lN 2)) := snd_ldc2 (M := MX6_cover) (pc := 21) dX6_cover_21 w608
theorem sX6_cover_24 : Snd MX6_cover 24 (xCallS MX6_in 3 27) := snd_callS (M := MX6_cover) (pc := 24) (n := 3) dX6_cover_24 w477 w478 ⟨w462, w476, ⟨by decide, by decide, by decide +kernel⟩, by decide⟩ ⟨rfl, rfl⟩
theorem sX6_cover_27 : Snd MX6_cover 27 (xZ_ne 32 30) := snd_if_ne (M := MX6_cover) (pc := 27) dX6_cover_27 (by decide)
theorem sX6_cover_30 : Snd MX6_cover 30 (xK 31 ((-1))) := snd_iconst (M := MX6_cover) (pc := 30) dX6_cover_30 (by decide +kernel)
theorem sX6_cover_31 : Snd MX6_cover 31 (xRet) := snd_iret (M := MX6_cover) (pc := 31) dX6_cover_31 rfl
theorem sX6_cover_32 : Snd MX6_cover 32 (xK 34 ((-4))) := snd_bipush (M := MX6_cover) (pc := 32) dX6_cover_32 (by decide +kernel)
theorem sX6_cover_34 : Snd MX6_cover 34 (xStI 35 3) := snd_istore_n (M := MX6_cover) (pc := 34) dX6_cover_34 (by decide)
theorem sX6_cover_35 : Snd MX6_cover 35 (xK 36 (nI 0)) := snd_iconst (M := MX6_cover) (pc := 35) dX6_cover_35 (by decide +kernel)
theorem sX6_cover_36 : Snd MX6_cover 36 (xStI 38 4) := snd_istore (M := MX6_cover) (pc := 36) dX6_cover_36 (by decide)
theorem sX6_cover_38 : Snd MX6_cover 38 (xLdI 40 4) := snd_iload (M := MX6_cover) (pc := 38) dX6_cover_38
theorem sX6_cover_40 : Snd MX6_cover 40 (xK 41 (nI 1)) := snd_iconst (M := MX6_cover) (pc := 40) dX6_cover_40 (by decide +kernel)
theorem sX6_cover_41 : Snd MX6_cover 41 (xLdA 42 0) := snd_aload_n (M := MX6_cover) (pc := 41) dX6_cover_41
theorem sX6_cover_42 : Snd MX6_cover 42 (xGf 45 6 5) := snd_gf (M := MX6_cover) (pc := 42) (C0 := RX6) (T0 := TX6) (N := 32) dX6_cover_42 rfl tbX6 (by decide) w475
theorem sX6_cover_45 : Snd MX6_cover 45 (xBin 46 f_ishl) := snd_ishl (M := MX6_cover) (pc := 45) dX6_cover_45
theorem sX6_cover_46 : Snd MX6_cover 46 (xC_ge 105 49) := snd_icmp_ge (M := MX6_cover) (pc := 46) dX6_cover_46 (by decide)
theorem sX6_cover_49 : Snd MX6_cover 49 (xLdI 50 1) := snd_iload_n (M := MX6_cover) (pc := 49) dX6_cover_49
theorem sX6_cover_50 : Snd MX6_cover 50 (xLdA 51 0) := snd_aload_n (M := MX6_cover) (pc := 50) dX6_cover_50
theorem sX6_cover_51 : Snd MX6_cover 51 (xLdI 53 4) := snd_iload (M := MX6_cover) (pc := 51) dX6_cover_51
theorem sX6_cover_53 : Snd MX6_cover 53 (xCallV MX6_livesBy 6 1 56) := snd_callV (M := MX6_cover) (pc := 53) (n := 1) dX6_cover_53 rfl w614 w615 w616 ⟨w462, w613, ⟨by decide, by decide, by decide +kernel⟩, by decide⟩ ⟨rfl, rfl⟩
theorem sX6_cover_56 : Snd MX6_cover 56 (xK 57 ((-1))) := snd_iconst (M := MX6_cover) (pc := 56) dX6_cover_56 (by decide +kernel)
theorem sX6_cover_57 : Snd MX6_cover 57 (xBin 58 f_ixor) := snd_ixor (M := MX6_cover) (pc := 57) dX6_cover_57
theorem sX6_cover_58 : Snd MX6_cover 58 (xBin 59 f_iand) := snd_iand (M := MX6_cover) (pc := 58) dX6_cover_58
theorem sX6_cover_59 : Snd MX6_cover 59 (xZ_ne 66 62) := snd_if_ne (M := MX6_cover) (pc := 59) dX6_cover_59 (by decide)
theorem sX6_cover_62 : Snd MX6_cover 62 (xK 63 (nI 1)) := snd_iconst (M := MX6_cover) (pc := 62) dX6_cover_62 (by decide +kernel)
theorem sX6_cover_63 : Snd MX6_cover 63 (xGo 67) := snd_goto (M := MX6_cover) (pc := 63) dX6_cover_63 (by decide)
theorem sX6_cover_66 : Snd MX6_cover 66 (xK 67 (nI 0)) := snd_iconst (M := MX6_cover) (pc := 66) dX6_cover_66 (by decide +kernel)
theorem sX6_cover_67 : Snd MX6_cover 67 (xStI 69 5) := snd_istore (M := MX6_cover) (pc := 67) dX6_cover_67 (by decide)
theorem sX6_cover_69 : Snd MX6_cover 69 (xLdI 71 5) := snd_iload (M := MX6_cover) (pc := 69) dX6_cover_69
theorem sX6_cover_71 : Snd MX6_cover 71 (xZ_eq 97 74) := snd_if_eq (M := MX6_cover) (pc := 71) dX6_cover_71 (by decide)
theorem sX6_cover_74 : Snd MX6_cover 74 (xLdI 75 3) := snd_iload_n (M := MX6_cover) (pc := 74) dX6_cover_74
theorem sX6_cover_75 : Snd MX6_cover 75 (xK 77 ((-4))) := snd_bipush (M := MX6_cover) (pc := 75) dX6_cover_75 (by decide +kernel)
theorem sX6_cover_77 : Snd MX6_cover 77 (xC_eq 92 80) := snd_icmp_eq (M := MX6_cover) (pc := 77) dX6_cover_77 (by decide)
theorem sX6_cover_80 : Snd MX6_cover 80 (xLdI 82 4) := snd_iload (M := MX6_cover) (pc := 80) dX6_cover_80
theorem sX6_cover_82 : Snd MX6_cover 82 (xCallS MX6_ones 1 85) := snd_callS (M := MX6_cover) (pc := 82) (n := 1) dX6_cover_82 w533 w534 ⟨w462, w532, ⟨by decide, by decide, by decide +kernel⟩, by decide⟩ ⟨rfl, rfl⟩
theorem sX6_cover_85 : Snd MX6_cover 85 (xLdI 86 3) := snd_iload_n (M := MX6_cover) (pc := 85) dX6_cover_85
theorem sX6_cover_86 : Snd MX6_cover 86 (xCallS MX6_ones 1 89) := snd_callS (M := MX6_cover) (pc := 86) (n := 1) dX6_cover_86 w533 w534 ⟨w462, w532, ⟨by decide, by decide, by decide +kernel⟩, by decide⟩ ⟨rfl, rfl⟩
theorem sX6_cover_89 : Snd MX6_cover 89 (xC_ge 97 92) := snd_icmp_ge (M := MX6_cover) (pc := 89) dX6_cover_89 (by decide)
theorem sX6_cover_92 : Snd MX6_cover 92 (xLdI 94 4) := snd_iload (M := MX6_cover) (pc := 92) dX6_cover_92
theorem sX6_cover_94 : Snd MX6_cover 94 (xGo 98) := snd_goto (M := MX6_cover) (pc := 94) dX6_cover_94 (by decide)
theorem sX6_cover_97 : Snd MX6_cover 97 (xLdI 98 3) := snd_iload_n (M := MX6_cover) (pc := 97) dX6_cover_97
theorem sX6_cover_98 : Snd MX6_cover 98 (xStI 99 3) := snd_istore_n (M := MX6_cover) (pc := 98) dX6_cover_98 (by decide)
theorem sX6_cover_99 : Snd MX6_cover 99 (xInc 102 4 (nI 1)) := snd_iinc (M := MX6_cover) (pc := 99) dX6_cover_99 (by decide +kernel) (by decide)
theorem sX6_cover_102 : Snd MX6_cover 102 (xGo 38) := snd_goto (M := MX6_cover) (pc := 102) dX6_cover_102 (by decide)
theorem sX6_cover_105 : Snd MX6_cover 105 (xLdI 106 2) := snd_iload_n (M := MX6_cover) (pc := 105) dX6_cover_105
theorem sX6_cover_106 : Snd MX6_cover 106 (xZ_ne 113 109) := snd_if_ne (M := MX6_cover) (pc := 106) dX6_cover_106 (by decide)
theorem sX6_cover_109 : Snd MX6_cover 109 (xLdI 110 3) := snd_iload_n (M := MX6_cover) (pc := 109) dX6_cover_109
theorem sX6_cover_110 : Snd MX6_cover 110 (xGo 130) := snd_goto (M := MX6_cover) (pc := 110) dX6_cover_110 (by decide)
theorem sX6_cover_113 : Snd MX6_cover 113 (xLdI 114 2) := snd_iload_n (M := MX6_cover) (pc := 113) dX6_cover_113
theorem sX6_cover_114 : Snd MX6_cover 114 (xK 115 (nI 1)) := snd_iconst (M := MX6_cover) (pc := 114) dX6_cover_114 (by decide +kernel)
theorem sX6_cover_115 : Snd MX6_cover 115 (xC_ne 125 118) := snd_icmp_ne (M := MX6_cover) (pc := 115) dX6_cover_115 (by decide)
theorem sX6_cover_118 : Snd MX6_cover 118 (xLdI 119 3) := snd_iload_n (M := MX6_cover) (pc := 118) dX6_cover_118
theorem sX6_cover_119 : Snd MX6_cover 119 (xCallS MX6_ones 1 122) := snd_callS (M := MX6_cover) (pc := 119) (n := 1) dX6_cover_119 w533 w534 ⟨w462, w532, ⟨by decide, by decide, by decide +kernel⟩, by decide⟩ ⟨rfl, rfl⟩
theorem sX6_cover_122 : Snd MX6_cover 122 (xGo 130) := snd_goto (M := MX6_cover) (pc := 122) dX6_cover_122 (by decide)
theorem sX6_cover_125 : Snd MX6_cover 125 (xLdA 126 0) := snd_aload_n (M := MX6_cover) (pc := 125) dX6_cover_125
theorem sX6_cover_126 : Snd MX6_cover 126 (xLdI 127 3) := snd_iload_n (M := MX6_cover) (pc := 126) dX6_cover_126
theorem sX6_cover_127 : Snd MX6_cover 127 (xCallV MX6_roomOf 6 1 130) := snd_callV (M := MX6_cover) (pc := 127) (n := 1) dX6_cover_127 rfl w552 w553 w554 ⟨w462, w551, ⟨by decide, by decide, by decide +kernel⟩, by decide⟩ ⟨rfl, rfl⟩
theorem sX6_cover_130 : Snd MX6_cover 130 (xRet) := snd_iret (M := MX6_cover) (pc := 130) dX6_cover_130 rfl
theorem VX6_cover : Valid MX6_cover LX6_cover := va_lid sX6_cover_0 (va_lid sX6_cover_1 (va_lid sX6_cover_2 (va_lid sX6_cover_3 (va_lid sX6_cover_4 (va_lid sX6_cover_5 (va_lid sX6_cover_8 (va_lid sX6_cover_9 (va_lid sX6_cover_10 (va_lid sX6_cover_11 (va_lid sX6_cover_12 (va_lid sX6_cover_15 (va_lid sX6_cover_18 (va_lid sX6_cover_19 (va_lid sX6_cover_20 (va_lid sX6_cover_21 (va_lid sX6_cover_24 (va_lid sX6_cover_27 (va_lid sX6_cover_30 (va_lid sX6_cover_31 (va_lid sX6_cover_32 (va_lid sX6_cover_34 (va_lid sX6_cover_35 (va_lid sX6_cover_36 (va_lid sX6_cover_38 (va_lid sX6_cover_40 (va_lid sX6_cover_41 (va_lid sX6_cover_42 (va_lid sX6_cover_45 (va_lid sX6_cover_46 (va_lid sX6_cover_49 (va_lid sX6_cover_50 (va_lid sX6_cover_51 (va_lid sX6_cover_53 (va_lid sX6_cover_56 (va_lid sX6_cover_57 (va_lid sX6_cover_58 (va_lid sX6_cover_59 (va_lid sX6_cover_62 (va_lid sX6_cover_63 (va_lid sX6_cover_66 (va_lid sX6_cover_67 (va_lid sX6_cover_69 (va_lid sX6_cover_71 (va_lid sX6_cover_74 (va_lid sX6_cover_75 (va_lid sX6_cover_77 (va_lid sX6_cover_80 (va_lid sX6_cover_82 (va_lid sX6_cover_85 (va_lid sX6_cover_86 (va_lid sX6_cover_89 (va_lid sX6_cover_92 (va_lid sX6_cover_94 (va_lid sX6_cover_97 (va_lid sX6_cover_98 (va_lid sX6_cover_99 (va_lid sX6_cover_102 (va_lid sX6_cover_105 (va_lid sX6_cover_106 (va_lid sX6_cover_109 (va_lid sX6_cover_110 (va_lid sX6_cover_113 (va_lid sX6_cover_114 (va_lid sX6_cover_115 (va_lid sX6_cover_118 (va_lid sX6_cover_119 (va_lid sX6_cover_122 (va_lid sX6_cover_125 (va_lid sX6_cover_126 (va_lid sX6_cover_127 (va_lid sX6_cover_130 (va_lid0))))))))))))))))))))))))))))))))))))))))))))))))))))))))))))))))))))))))
theorem kX6_cover_0 : lk LX6_cover 0 = some (xLdI 1 1) := rfl
theorem kX6_cover_1 : lk LX6_cover 1 = some (xI2l 2) := rfl
theorem kX6_cover_2 : lk LX6_cover 2 = some (xKL 3 (lN 0)) := rfl
theorem kX6_cover_3 : lk LX6_cover 3 = some (xK 4 (nI 1)) := rfl
theorem kX6_cover_4 : lk LX6_cover 4 = some (xLdA 5 0) := rfl
theorem kX6_cover_5 : lk LX6_cover 5 = some (xGf 8 6 9) := rfl
theorem kX6_cover_8 : lk LX6_cover 8 = some (xBin 9 f_ishl) := rfl
theorem kX6_cover_9 : lk LX6_cover 9 = some (xK 10 (nI 1)) := rfl
theorem kX6_cover_10 : lk LX6_cover 10 = some (xBin 11 f_isub) := rfl
theorem kX6_cover_11 : lk LX6_cover 11 = some (xI2l 12) := rfl
theorem kX6_cover_12 : lk LX6_cover 12 = some (xCallS MX6_in 3 15) := rfl
theorem kX6_cover_15 : lk LX6_cover 15 = some (xZ_eq 30 18) := rfl
theorem kX6_cover_18 : lk LX6_cover 18 = some (xLdI 19 2) := rfl
theorem kX6_cover_19 : lk LX6_cover 19 = some (xI2l 20) := rfl
theorem kX6_cover_20 : lk LX6_cover 20 = some (xKL 21 (lN 0)) := rfl
theorem kX6_cover_21 : lk LX6_cover 21 = some (xKL 24 (lN 2)) := rfl
theorem kX6_cover_24 : lk LX6_cover 24 = some (xCallS MX6_in 3 27) := rfl
theorem kX6_cover_27 : lk LX6_cover 27 = some (xZ_ne 32 30) := rfl
theorem kX6_cover_30 : lk LX6_cover 30 = some (xK 31 ((-1))) := rfl
theorem kX6_cover_31 : lk LX6_cover 31 = some (xRet) := rfl
theorem kX6_cover_32 : lk LX6_cover 32 = some (xK 34 ((-4))) := rfl
theorem kX6_cover_34 : lk LX6_cover 34 = some (xStI 35 3) := rfl
theorem kX6_cover_35 : lk LX6_cover 35 = some (xK 36 (nI 0)) := rfl
theorem kX6_cover_36 : lk LX6_cover 36 = some (xStI 38 4) := rfl
theorem kX6_cover_38 : lk LX6_cover 38 = some (xLdI 40 4) := rfl
theorem kX6_cover_40 : lk LX6_cover 40 = some (xK 41 (nI 1)) := rfl
theorem kX6_cover_41 : lk LX6_cover 41 = some (xLdA 42 0) := rfl
theorem kX6_cover_42 : lk LX6_cover 42 = some (xGf 45 6 5) := rfl
theorem kX6_cover_45 : lk LX6_cover 45 = some (xBin 46 f_ishl) := rfl
theorem kX6_cover_46 : lk LX6_cover 46 = some (xC_ge 105 49) := rfl
theorem kX6_cover_49 : lk LX6_cover 49 = some (xLdI 50 1) := rfl
theorem kX6_cover_50 : lk LX6_cover 50 = some (xLdA 51 0) := rfl
theorem kX6_cover_51 : lk LX6_cover 51 = some (xLdI 53 4) := rfl
theorem kX6_cover_53 : lk LX6_cover 53 = some (xCallV MX6_livesBy 6 1 56) := rfl
theorem kX6_cover_56 : lk LX6_cover 56 = some (xK 57 ((-1))) := rfl
theorem kX6_cover_57 : lk LX6_cover 57 = some (xBin 58 f_ixor) := rfl
theorem kX6_cover_58 : lk LX6_cover 58 = some (xBin 59 f_iand) := rfl
theorem kX6_cover_59 : lk LX6_cover 59 = some (xZ_ne 66 62) := rfl
theorem kX6_cover_62 : lk LX6_cover 62 = some (xK 63 (nI 1)) := rfl
theorem kX6_cover_63 : lk LX6_cover 63 = some (xGo 67) := rfl
theorem kX6_cover_66 : lk LX6_cover 66 = some (xK 67 (nI 0)) := rfl
theorem kX6_cover_67 : lk LX6_cover 67 = some (xStI 69 5) := rfl
theorem kX6_cover_69 : lk LX6_cover 69 = some (xLdI 71 5) := rfl
theorem kX6_cover_71 : lk LX6_cover 71 = some (xZ_eq 97 74) := rfl
theorem kX6_cover_74 : lk LX6_cover 74 = some (xLdI 75 3) := rfl
theorem kX6_cover_75 : lk LX6_cover 75 = some (xK 77 ((-4))) := rfl
theorem kX6_cover_77 : lk LX6_cover 77 = some (xC_eq 92 80) := rfl
theorem kX6_cover_80 : lk LX6_cover 80 = some (xLdI 82 4) := rfl
theorem kX6_cover_82 : lk LX6_cover 82 = some (xCallS MX6_ones 1 85) := rfl
theorem kX6_cover_85 : lk LX6_cover 85 = some (xLdI 86 3) := rfl
theorem kX6_cover_86 : lk LX6_cover 86 = some (xCallS MX6_ones 1 89) := rfl
theorem kX6_cover_89 : lk LX6_cover 89 = some (xC_ge 97 92) := rfl
theorem kX6_cover_92 : lk LX6_cover 92 = some (xLdI 94 4) := rfl
theorem kX6_cover_94 : lk LX6_cover 94 = some (xGo 98) := rfl
theorem kX6_cover_97 : lk LX6_cover 97 = some (xLdI 98 3) := rfl
theorem kX6_cover_98 : lk LX6_cover 98 = some (xStI 99 3) := rfl
theorem kX6_cover_99 : lk LX6_cover 99 = some (xInc 102 4 (nI 1)) := rfl
theorem kX6_cover_102 : lk LX6_cover 102 = some (xGo 38) := rfl
theorem kX6_cover_105 : lk LX6_cover 105 = some (xLdI 106 2) := rfl
theorem kX6_cover_106 : lk LX6_cover 106 = some (xZ_ne 113 109) := rfl
theorem kX6_cover_109 : lk LX6_cover 109 = some (xLdI 110 3) := rfl
theorem kX6_cover_110 : lk LX6_cover 110 = some (xGo 130) := rfl
theorem kX6_cover_113 : lk LX6_cover 113 = some (xLdI 114 2) := rfl
theorem kX6_cover_114 : lk LX6_cover 114 = some (xK 115 (nI 1)) := rfl
theorem kX6_cover_115 : lk LX6_cover 115 = some (xC_ne 125 118) := rfl
theorem kX6_cover_118 : lk LX6_cover 118 = some (xLdI 119 3) := rfl
theorem kX6_cover_119 : lk LX6_cover 119 = some (xCallS MX6_ones 1 122) := rfl
theorem kX6_cover_122 : lk LX6_cover 122 = some (xGo 130) := rfl
theorem kX6_cover_125 : lk LX6_cover 125 = some (xLdA 126 0) := rfl
theorem kX6_cover_126 : lk LX6_cover 126 = some (xLdI 127 3) := rfl
theorem kX6_cover_127 : lk LX6_cover 127 = some (xCallV MX6_roomOf 6 1 130) := rfl
theorem kX6_cover_130 : lk LX6_cover 130 = some (xRet) := rfl
def LX6_serves : List (Nat × XI) := [(0, xK 2 ((-4))),
  (2, xStI 3 1),
  (3, xK 5 (nI 1000000)),
  (5, xStI 6 2),
  (6, xK 7 (nI 0)),
  (7, xStI 8 3),
  (8, xLdI 9 3),
  (9, xLdA 10 0),
  (10, xGf 13 6 5),
  (13, xC_ge 74 16),
  (16, xLdA 17 0),
  (17, xGf 20 6 0),
  (20, xK 21 (nI 2)),
  (21, xiaload 22),
  (22, xLdI 23 3),
  (23, xCallS MX6_has 2 26),
  (26, xZ_eq 68 29),
  (29, xLdA 30 0),
  (30, xLdA 31 0),
  (31, xGf 34 6 0),
  (34, xK 35 (nI 2)),
  (35, xiaload 36),
  (36, xK 37 (nI 1)),
  (37, xLdI 38 3),
  (38, xBin 39 f_ishl),
  (39, xK 40 ((-1))),
  (40, xBin 41 f_ixor),
  (41, xBin 42 f_iand),
  (42, xCallV MX6_worthOf 6 1 45),
  (45, xLdI 46 2),
  (46, xC_ge 68 49),
  (49, xLdI 50 3),
  (50, xStI 51 1),
  (51, xLdA 52 0),
  (52, xLdA 53 0),
  (53, xGf 56 6 0),
  (56, xK 57 (nI 2)),
  (57, xiaload 58),
  (58, xK 59 (nI 1)),
  (59, xLdI 60 3),
  (60, xBin 61 f_ishl),
  (61, xK 62 ((-1))),
  (62, xBin 63 f_ixor),
  (63, xBin 64 f_iand),
  (64, xCallV MX6_worthOf 6 1 67),
  (67, xStI 68 2),
  (68, xInc 71 3 (nI 1)),
  (71, xGo 8),
  (74, xLdI 75 1),
  (75, xRet)]
theorem sX6_serves_0 : Snd MX6_serves 0 (xK 2 ((-4))) := snd_bipush (M := MX6_serves) (pc := 0) dX6_serves_0 (by decide +kernel)
theorem sX6_serves_2 : Snd MX6_serves 2 (xStI 3 1) := snd_istore_n (M := MX6_serves) (pc := 2) dX6_serves_2 (by decide)
theorem sX6_serves_3 : Snd MX6_serves 3 (xK 5 (nI 1000000)) := snd_ldc (M := MX6_serves) (pc := 3) dX6_serves_3 w617
theorem sX6_serves_5 : Snd MX6_serves 5 (xStI 6 2) := snd_istore_n (M := MX6_serves) (pc := 5) dX6_serves_5 (by decide)
theorem sX6_serves_6 : Snd MX6_serves 6 (xK 7 (nI 0)) := snd_iconst (M := MX6_serves) (pc := 6) dX6_serves_6 (by decide +kernel)
theorem sX6_serves_7 : Snd MX6_serves 7 (xStI 8 3) := snd_istore_n (M := MX6_serves) (pc := 7) dX6_serves_7 (by decide)
theorem sX6_serves_8 : Snd MX6_serves 8 (xLdI 9 3) := snd_iload_n (M := MX6_serves) (pc := 8) dX6_serves_8
theorem sX6_serves_9 : Snd MX6_serves 9 (xLdA 10 0) := snd_aload_n (M := MX6_serves) (pc := 9) dX6_serves_9
theorem sX6_serves_10 : Snd MX6_serves 10 (xGf 13 6 5) := snd_gf (M := MX6_serves) (pc := 10) (C0 := RX6) (T0 := TX6) (N := 32) dX6_serves_10 rfl tbX6 (by decide) w475
theorem sX6_serves_13 : Snd MX6_serves 13 (xC_ge 74 16) := snd_icmp_ge (M := MX6_serves) (pc := 13) dX6_serves_13 (by decide)
theorem sX6_serves_16 : Snd MX6_serves 16 (xLdA 17 0) := snd_aload_n (M := MX6_serves) (pc := 16) dX6_serves_16
theorem sX6_serves_17 : Snd MX6_serves 17 (xGf 20 6 0) := snd_gf (M := MX6_serves) (pc := 17) (C0 := RX6) (T0 := TX6) (N := 32) dX6_serves_17 rfl tbX6 (by decide) w444
theorem sX6_serves_20 : Snd MX6_serves 20 (xK 21 (nI 2)) := snd_iconst (M := MX6_serves) (pc := 20) dX6_serves_20 (by decide +kernel)
theorem sX6_serves_21 : Snd MX6_serves 21 (xiaload 22) := snd_iaload (M := MX6_serves) (pc := 21) dX6_serves_21
theorem sX6_serves_22 : Snd MX6_serves 22 (xLdI 23 3) := snd_iload_n (M := MX6_serves) (pc := 22) dX6_serves_22
theorem sX6_serves_23 : Snd MX6_serves 23 (xCallS MX6_has 2 26) := snd_callS (M := MX6_serves) (pc := 23) (n := 2) dX6_serves_23 w530 w531 ⟨w462, w529, ⟨by decide, by decide, by decide +kernel⟩, by decide⟩ ⟨rfl, rfl⟩
theorem sX6_serves_26 : Snd MX6_serves 26 (xZ_eq 68 29) := snd_if_eq (M := MX6_serves) (pc := 26) dX6_serves_26 (by decide)
theorem sX6_serves_29 : Snd MX6_serves 29 (xLdA 30 0) := snd_aload_n (M := MX6_serves) (pc := 29) dX6_serves_29
theorem sX6_serves_30 : Snd MX6_serves 30 (xLdA 31 0) := snd_aload_n (M := MX6_serves) (pc := 30) dX6_serves_30
theorem sX6_serves_31 : Snd MX6_serves 31 (xGf 34 6 0) := snd_gf (M := MX6_serves) (pc := 31) (C0 := RX6) (T0 := TX6) (N := 32) dX6_serves_31 rfl tbX6 (by decide) w444
theorem sX6_serves_34 : Snd MX6_serves 34 (xK 35 (nI 2)) := snd_iconst (M := MX6_serves) (pc := 34) dX6_serves_34 (by decide +kernel)
theorem sX6_serves_35 : Snd MX6_serves 35 (xiaload 36) := snd_iaload (M := MX6_serves) (pc := 35) dX6_serves_35
theorem sX6_serves_36 : Snd MX6_serves 36 (xK 37 (nI 1)) := snd_iconst (M := MX6_serves) (pc := 36) dX6_serves_36 (by decide +kernel)
theorem sX6_serves_37 : Snd MX6_serves 37 (xLdI 38 3) := snd_iload_n (M := MX6_serves) (pc := 37) dX6_serves_37
theorem sX6_serves_38 : Snd MX6_serves 38 (xBin 39 f_ishl) := snd_ishl (M := MX6_serves) (pc := 38) dX6_serves_38
theorem sX6_serves_39 : Snd MX6_serves 39 (xK 40 ((-1))) := snd_iconst (M := MX6_serves) (pc := 39) dX6_serves_39 (by decide +kernel)
theorem sX6_serves_40 : Snd MX6_serves 40 (xBin 41 f_ixor) := snd_ixor (M := MX6_serves) (pc := 40) dX6_serves_40
theorem sX6_serves_41 : Snd MX6_serves 41 (xBin 42 f_iand) := snd_iand (M := MX6_serves) (pc := 41) dX6_serves_41
theorem sX6_serves_42 : Snd MX6_serves 42 (xCallV MX6_worthOf 6 1 45) := snd_callV (M := MX6_serves) (pc := 42) (n := 1) dX6_serves_42 rfl w544 w545 w546 ⟨w462, w543, ⟨by decide, by decide, by decide +kernel⟩, by decide⟩ ⟨rfl, rfl⟩
theorem sX6_serves_45 : Snd MX6_serves 45 (xLdI 46 2) := snd_iload_n (M := MX6_serves) (pc := 45) dX6_serves_45
theorem sX6_serves_46 : Snd MX6_serves 46 (xC_ge 68 49) := snd_icmp_ge (M := MX6_serves) (pc := 46) dX6_serves_46 (by decide)
theorem sX6_serves_49 : Snd MX6_serves 49 (xLdI 50 3) := snd_iload_n (M := MX6_serves) (pc := 49) dX6_serves_49
theorem sX6_serves_50 : Snd MX6_serves 50 (xStI 51 1) := snd_istore_n (M := MX6_serves) (pc := 50) dX6_serves_50 (by decide)
theorem sX6_serves_51 : Snd MX6_serves 51 (xLdA 52 0) := snd_aload_n (M := MX6_serves) (pc := 51) dX6_serves_51
theorem sX6_serves_52 : Snd MX6_serves 52 (xLdA 53 0) := snd_aload_n (M := MX6_serves) (pc := 52) dX6_serves_52
theorem sX6_serves_53 : Snd MX6_serves 53 (xGf 56 6 0) := snd_gf (M := MX6_serves) (pc := 53) (C0 := RX6) (T0 := TX6) (N := 32) dX6_serves_53 rfl tbX6 (by decide) w444
theorem sX6_serves_56 : Snd MX6_serves 56 (xK 57 (nI 2)) := snd_iconst (M := MX6_serves) (pc := 56) dX6_serves_56 (by decide +kernel)
theorem sX6_serves_57 : Snd MX6_serves 57 (xiaload 58) := snd_iaload (M := MX6_serves) (pc := 57) dX6_serves_57
theorem sX6_serves_58 : Snd MX6_serves 58 (xK 59 (nI 1)) := snd_iconst (M := MX6_serves) (pc := 58) dX6_serves_58 (by decide +kernel)
theorem sX6_serves_59 : Snd MX6_serves 59 (xLdI 60 3) := snd_iload_n (M := MX6_serves) (pc := 59) dX6_serves_59
theorem sX6_serves_60 : Snd MX6_serves 60 (xBin 61 f_ishl) := snd_ishl (M := MX6_serves) (pc := 60) dX6_serves_60
theorem sX6_serves_61 : Snd MX6_serves 61 (xK 62 ((-1))) := snd_iconst (M := MX6_serves) (pc := 61) dX6_serves_61 (by decide +kernel)
theorem sX6_serves_62 : Snd MX6_serves 62 (xBin 63 f_ixor) := snd_ixor (M := MX6_serves) (pc := 62) dX6_serves_62
theorem sX6_serves_63 : Snd MX6_serves 63 (xBin 64 f_iand) := snd_iand (M := MX6_serves) (pc := 63) dX6_serves_63
theorem sX6_serves_64 : Snd MX6_serves 64 (xCallV MX6_worthOf 6 1 67) := snd_callV (M := MX6_serves) (pc := 64) (n := 1) dX6_serves_64 rfl w544 w545 w546 ⟨w462, w543, ⟨by decide, by decide, by decide +kernel⟩, by decide⟩ ⟨rfl, rfl⟩
theorem sX6_serves_67 : Snd MX6_serves 67 (xStI 68 2) := snd_istore_n (M := MX6_serves) (pc := 67) dX6_serves_67 (by decide)
theorem sX6_serves_68 : Snd MX6_serves 68 (xInc 71 3 (nI 1)) := snd_iinc (M := MX6_serves) (pc := 68) dX6_serves_68 (by decide +kernel) (by decide)
theorem sX6_serves_71 : Snd MX6_serves 71 (xGo 8) := snd_goto (M := MX6_serves) (pc := 71) dX6_serves_71 (by decide)
theorem sX6_serves_74 : Snd MX6_serves 74 (xLdI 75 1) := snd_iload_n (M := MX6_serves) (pc := 74) dX6_serves_74
theorem sX6_serves_75 : Snd MX6_serves 75 (xRet) := snd_iret (M := MX6_serves) (pc := 75) dX6_serves_75 rfl
theorem VX6_serves : Valid MX6_serves LX6_serves := va_lid sX6_serves_0 (va_lid sX6_serves_2 (va_lid sX6_serves_3 (va_lid sX6_serves_5 (va_lid sX6_serves_6 (va_lid sX6_serves_7 (va_lid sX6_serves_8 (va_lid sX6_serves_9 (va_lid sX6_serves_10 (va_lid sX6_serves_13 (va_lid sX6_serves_16 (va_lid sX6_serves_17 (va_lid sX6_serves_20 (va_lid sX6_serves_21 (va_lid sX6_serves_22 (va_lid sX6_serves_23 (va_lid sX6_serves_26 (va_lid sX6_serves_29 (va_lid sX6_serves_30 (va_lid sX6_serves_31 (va_lid sX6_serves_34 (va_lid sX6_serves_35 (va_lid sX6_serves_36 (va_lid sX6_serves_37 (va_lid sX6_serves_38 (va_lid sX6_serves_39 (va_lid sX6_serves_40 (va_lid sX6_serves_41 (va_lid sX6_serves_42 (va_lid sX6_serves_45 (va_lid sX6_serves_46 (va_lid sX6_serves_49 (va_lid sX6_serves_50 (va_lid sX6_serves_51 (va_lid sX6_serves_52 (va_lid sX6_serves_53 (va_lid sX6_serves_56 (va_lid sX6_serves_57 (va_lid sX6_serves_58 (va_lid sX6_serves_59 (va_lid sX6_serves_60 (va_lid sX6_serves_61 (va_lid sX6_serves_62 (va_lid sX6_serves_63 (va_lid sX6_serves_64 (va_lid sX6_serves_67 (va_lid sX6_serves_68 (va_lid sX6_serves_71 (va_lid sX6_serves_74 (va_lid sX6_serves_75 (va_lid0))))))))))))))))))))))))))))))))))))))))))))))))))
theorem kX6_serves_0 : lk LX6_serves 0 = some (xK 2 ((-4))) := rfl
theorem kX6_serves_2 : lk LX6_serves 2 = some (xStI 3 1) := rfl
theorem kX6_serves_3 : lk LX6_serves 3 = some (xK 5 (nI 1000000)) := rfl
theorem kX6_serves_5 : lk LX6_serves 5 = some (xStI 6 2) := rfl
theorem kX6_serves_6 : lk LX6_serves 6 = some (xK 7 (nI 0)) := rfl
theorem kX6_serves_7 : lk LX6_serves 7 = some (xStI 8 3) := rfl
theorem kX6_serves_8 : lk LX6_serves 8 = some (xLdI 9 3) := rfl
theorem kX6_serves_9 : lk LX6_serves 9 = some (xLdA 10 0) := rfl
theorem kX6_serves_10 : lk LX6_serves 10 = some (xGf 13 6 5) := rfl
theorem kX6_serves_13 : lk LX6_serves 13 = some (xC_ge 74 16) := rfl
theorem kX6_serves_16 : lk LX6_serves 16 = some (xLdA 17 0) := rfl
theorem kX6_serves_17 : lk LX6_serves 17 = some (xGf 20 6 0) := rfl
theorem kX6_serves_20 : lk LX6_serves 20 = some (xK 21 (nI 2)) := rfl
theorem kX6_serves_21 : lk LX6_serves 21 = some (xiaload 22) := rfl
theorem kX6_serves_22 : lk LX6_serves 22 = some (xLdI 23 3) := rfl
theorem kX6_serves_23 : lk LX6_serves 23 = some (xCallS MX6_has 2 26) := rfl
theorem kX6_serves_26 : lk LX6_serves 26 = some (xZ_eq 68 29) := rfl
theorem kX6_serves_29 : lk LX6_serves 29 = some (xLdA 30 0) := rfl
theorem kX6_serves_30 : lk LX6_serves 30 = some (xLdA 31 0) := rfl
theorem kX6_serves_31 : lk LX6_serves 31 = some (xGf 34 6 0) := rfl
theorem kX6_serves_34 : lk LX6_serves 34 = some (xK 35 (nI 2)) := rfl
theorem kX6_serves_35 : lk LX6_serves 35 = some (xiaload 36) := rfl
theorem kX6_serves_36 : lk LX6_serves 36 = some (xK 37 (nI 1)) := rfl
theorem kX6_serves_37 : lk LX6_serves 37 = some (xLdI 38 3) := rfl
theorem kX6_serves_38 : lk LX6_serves 38 = some (xBin 39 f_ishl) := rfl
theorem kX6_serves_39 : lk LX6_serves 39 = some (xK 40 ((-1))) := rfl
theorem kX6_serves_40 : lk LX6_serves 40 = some (xBin 41 f_ixor) := rfl
theorem kX6_serves_41 : lk LX6_serves 41 = some (xBin 42 f_iand) := rfl
theorem kX6_serves_42 : lk LX6_serves 42 = some (xCallV MX6_worthOf 6 1 45) := rfl
theorem kX6_serves_45 : lk LX6_serves 45 = some (xLdI 46 2) := rfl
theorem kX6_serves_46 : lk LX6_serves 46 = some (xC_ge 68 49) := rfl
theorem kX6_serves_49 : lk LX6_serves 49 = some (xLdI 50 3) := rfl
theorem kX6_serves_50 : lk LX6_serves 50 = some (xStI 51 1) := rfl
theorem kX6_serves_51 : lk LX6_serves 51 = some (xLdA 52 0) := rfl
theorem kX6_serves_52 : lk LX6_serves 52 = some (xLdA 53 0) := rfl
theorem kX6_serves_53 : lk LX6_serves 53 = some (xGf 56 6 0) := rfl
theorem kX6_serves_56 : lk LX6_serves 56 = some (xK 57 (nI 2)) := rfl
theorem kX6_serves_57 : lk LX6_serves 57 = some (xiaload 58) := rfl
theorem kX6_serves_58 : lk LX6_serves 58 = some (xK 59 (nI 1)) := rfl
theorem kX6_serves_59 : lk LX6_serves 59 = some (xLdI 60 3) := rfl
theorem kX6_serves_60 : lk LX6_serves 60 = some (xBin 61 f_ishl) := rfl
theorem kX6_serves_61 : lk LX6_serves 61 = some (xK 62 ((-1))) := rfl
theorem kX6_serves_62 : lk LX6_serves 62 = some (xBin 63 f_ixor) := rfl
theorem kX6_serves_63 : lk LX6_serves 63 = some (xBin 64 f_iand) := rfl
theorem kX6_serves_64 : lk LX6_serves 64 = some (xCallV MX6_worthOf 6 1 67) := rfl
theorem kX6_serves_67 : lk LX6_serves 67 = some (xStI 68 2) := rfl
theorem kX6_serves_68 : lk LX6_serves 68 = some (xInc 71 3 (nI 1)) := rfl
theorem kX6_serves_71 : lk LX6_serves 71 = some (xGo 8) := rfl
theorem kX6_serves_74 : lk LX6_serves 74 = some (xLdI 75 1) := rfl
theorem kX6_serves_75 : lk LX6_serves 75 = some (xRet) := rfl
def LX6_longestRow : List (Nat × XI) := [(0, xK 1 (nI 0)),
  (1, xStI 2 1),
  (2, xK 3 (nI 0)),
  (3, xStI 4 2),
  (4, xLdA 5 0),
  (5, xK 6 (nI 0)),
  (6, xK 8 (nI 48)),
  (8, xCallV MX6_copy 6 2 11),
  (11, xLdA 12 0),
  (12, xGf 15 6 28),
  (15, xK 16 (nI 0)),
  (16, xK 17 ((-1))),
  (17, xiastore 18),
  (18, xLdI 19 2),
  (19, xZ_lt 154 22),
  (22, xK 24 (nI 48)),
  (24, xK 25 (nI 4)),
  (25, xLdI 26 2),
  (26, xBin 27 f_imul),
  (27, xBin 28 f_iadd),
  (28, xStI 29 3),
  (29, xLdA 30 0),
  (30, xGf 33 6 28),
  (33, xLdI 34 2),
  (34, xiaload 35),
  (35, xK 36 (nI 1)),
  (36, xBin 37 f_iadd),
  (37, xStI 39 4),
  (39, xLdI 41 4),
  (41, xLdA 42 0),
  (42, xGf 45 6 9),
  (45, xC_ge 64 48),
  (48, xLdA 49 0),
  (49, xLdI 50 3),
  (50, xLdI 52 4),
  (52, xCallV MX6_canLive 6 2 55),
  (55, xZ_ne 64 58),
  (58, xInc 61 4 (nI 1)),
  (61, xGo 39),
  (64, xLdI 66 4),
  (66, xLdA 67 0),
  (67, xGf 70 6 9),
  (70, xC_ne 79 73),
  (73, xInc 76 2 ((-1))),
  (76, xGo 151),
  (79, xLdA 80 0),
  (80, xGf 83 6 28),
  (83, xLdI 84 2),
  (84, xLdI 86 4),
  (86, xiastore 87),
  (87, xLdA 88 0),
  (88, xLdI 89 3),
  (89, xLdI 90 3),
  (90, xK 91 (nI 4)),
  (91, xBin 92 f_iadd),
  (92, xCallV MX6_copy 6 2 95),
  (95, xLdA 96 0),
  (96, xLdI 97 3),
  (97, xK 98 (nI 4)),
  (98, xBin 99 f_iadd),
  (99, xLdI 101 4),
  (101, xCallV MX6_livesOne 6 2 104),
  (104, xPop 105),
  (105, xInc 108 2 (nI 1)),
  (108, xLdA 109 0),
  (109, xGf 112 6 28),
  (112, xLdI 113 2),
  (113, xK 114 ((-1))),
  (114, xiastore 115),
  (115, xLdI 116 2),
  (116, xLdI 117 1),
  (117, xC_le 151 120),
  (120, xLdI 121 2),
  (121, xStI 122 1),
  (122, xK 123 (nI 0)),
  (123, xStI 125 5),
  (125, xLdI 127 5),
  (127, xLdI 128 2),
  (128, xC_ge 151 131),
  (131, xLdA 132 0),
  (132, xGf 135 6 29),
  (135, xLdI 137 5),
  (137, xLdA 138 0),
  (138, xGf 141 6 28),
  (141, xLdI 143 5),
  (143, xiaload 144),
  (144, xiastore 145),
  (145, xInc 148 5 (nI 1)),
  (148, xGo 125),
  (151, xGo 18),
  (154, xLdI 155 1),
  (155, xRet)]
theorem sX6_longestRow_0 : Snd MX6_longestRow 0 (xK 1 (nI 0)) := snd_iconst (M := MX6_longestRow) (pc := 0) dX6_longestRow_0 (by decide +kernel)
theorem sX6_longestRow_1 : Snd MX6_longestRow 1 (xStI 2 1) := snd_istore_n (M := MX6_longestRow) (pc := 1) dX6_longestRow_1 (by decide)
theorem sX6_longestRow_2 : Snd MX6_longestRow 2 (xK 3 (nI 0)) := snd_iconst (M := MX6_longestRow) (pc := 2) dX6_longestRow_2 (by decide +kernel)
theorem sX6_longestRow_3 : Snd MX6_longestRow 3 (xStI 4 2) := snd_istore_n (M := MX6_longestRow) (pc := 3) dX6_longestRow_3 (by decide)
theorem sX6_longestRow_4 : Snd MX6_longestRow 4 (xLdA 5 0) := snd_aload_n (M := MX6_longestRow) (pc := 4) dX6_longestRow_4
theorem sX6_longestRow_5 : Snd MX6_longestRow 5 (xK 6 (nI 0)) := snd_iconst (M := MX6_longestRow) (pc := 5) dX6_longestRow_5 (by decide +kernel)
theorem sX6_longestRow_6 : Snd MX6_longestRow 6 (xK 8 (nI 48)) := snd_bipush (M := MX6_longestRow) (pc := 6) dX6_longestRow_6 (by decide +kernel)
theorem sX6_longestRow_8 : Snd MX6_longestRow 8 (xCallV MX6_copy 6 2 11) := snd_callV (M := MX6_longestRow) (pc := 8) (n := 2) dX6_longestRow_8 rfl w584 w585 w586 ⟨w462, w583, ⟨by decide, by decide, by decide +kernel⟩, by decide⟩ ⟨rfl, rfl⟩
theorem sX6_longestRow_11 : Snd MX6_longestRow 11 (xLdA 12 0) := snd_aload_n (M := MX6_longestRow) (pc := 11) dX6_longestRow_11
theorem sX6_longestRow_12 : Snd MX6_longestRow 12 (xGf 15 6 28) := snd_gf (M := MX6_longestRow) (pc := 12) (C0 := RX6) (T0 := TX6) (N := 32) dX6_longestRow_12 rfl tbX6 (by decide) w456
theorem sX6_longestRow_15 : Snd MX6_longestRow 15 (xK 16 (nI 0)) := snd_iconst (M := MX6_longestRow) (pc := 15) dX6_longestRow_15 (by decide +kernel)
theorem sX6_longestRow_16 : Snd MX6_longestRow 16 (xK 17 ((-1))) := snd_iconst (M := MX6_longestRow) (pc := 16) dX6_longestRow_16 (by decide +kernel)
theorem sX6_longestRow_17 : Snd MX6_longestRow 17 (xiastore 18) := snd_iastore (M := MX6_longestRow) (pc := 17) dX6_longestRow_17
theorem sX6_longestRow_18 : Snd MX6_longestRow 18 (xLdI 19 2) := snd_iload_n (M := MX6_longestRow) (pc := 18) dX6_longestRow_18
theorem sX6_longestRow_19 : Snd MX6_longestRow 19 (xZ_lt 154 22) := snd_if_lt (M := MX6_longestRow) (pc := 19) dX6_longestRow_19 (by decide)
theorem sX6_longestRow_22 : Snd MX6_longestRow 22 (xK 24 (nI 48)) := snd_bipush (M := MX6_longestRow) (pc := 22) dX6_longestRow_22 (by decide +kernel)
theorem sX6_longestRow_24 : Snd MX6_longestRow 24 (xK 25 (nI 4)) := snd_iconst (M := MX6_longestRow) (pc := 24) dX6_longestRow_24 (by decide +kernel)
theorem sX6_longestRow_25 : Snd MX6_longestRow 25 (xLdI 26 2) := snd_iload_n (M := MX6_longestRow) (pc := 25) dX6_longestRow_25
theorem sX6_longestRow_26 : Snd MX6_longestRow 26 (xBin 27 f_imul) := snd_imul (M := MX6_longestRow) (pc := 26) dX6_longestRow_26
theorem sX6_longestRow_27 : Snd MX6_longestRow 27 (xBin 28 f_iadd) := snd_iadd (M := MX6_longestRow) (pc := 27) dX6_longestRow_27
theorem sX6_longestRow_28 : Snd MX6_longestRow 28 (xStI 29 3) := snd_istore_n (M := MX6_longestRow) (pc := 28) dX6_longestRow_28 (by decide)
theorem sX6_longestRow_29 : Snd MX6_longestRow 29 (xLdA 30 0) := snd_aload_n (M := MX6_longestRow) (pc := 29) dX6_longestRow_29
theorem sX6_longestRow_30 : Snd MX6_longestRow 30 (xGf 33 6 28) := snd_gf (M := MX6_longestRow) (pc := 30) (C0 := RX6) (T0 := TX6) (N := 32) dX6_longestRow_30 rfl tbX6 (by decide) w456
theorem sX6_longestRow_33 : Snd MX6_longestRow 33 (xLdI 34 2) := snd_iload_n (M := MX6_longestRow) (pc := 33) dX6_longestRow_33
theorem sX6_longestRow_34 : Snd MX6_longestRow 34 (xiaload 35) := snd_iaload (M := MX6_longestRow) (pc := 34) dX6_longestRow_34
theorem sX6_longestRow_35 : Snd MX6_longestRow 35 (xK 36 (nI 1)) := snd_iconst (M := MX6_longestRow) (pc := 35) dX6_longestRow_35 (by decide +kernel)
theorem sX6_longestRow_36 : Snd MX6_longestRow 36 (xBin 37 f_iadd) := snd_iadd (M := MX6_longestRow) (pc := 36) dX6_longestRow_36
theorem sX6_longestRow_37 : Snd MX6_longestRow 37 (xStI 39 4) := snd_istore (M := MX6_longestRow) (pc := 37) dX6_longestRow_37 (by decide)
theorem sX6_longestRow_39 : Snd MX6_longestRow 39 (xLdI 41 4) := snd_iload (M := MX6_longestRow) (pc := 39) dX6_longestRow_39
theorem sX6_longestRow_41 : Snd MX6_longestRow 41 (xLdA 42 0) := snd_aload_n (M := MX6_longestRow) (pc := 41) dX6_longestRow_41
theorem sX6_longestRow_42 : Snd MX6_longestRow 42 (xGf 45 6 9) := snd_gf (M := MX6_longestRow) (pc := 42) (C0 := RX6) (T0 := TX6) (N := 32) dX6_longestRow_42 rfl tbX6 (by decide) w479
theorem sX6_longestRow_45 : Snd MX6_longestRow 45 (xC_ge 64 48) := snd_icmp_ge (M := MX6_longestRow) (pc := 45) dX6_longestRow_45 (by decide)
theorem sX6_longestRow_48 : Snd MX6_longestRow 48 (xLdA 49 0) := snd_aload_n (M := MX6_longestRow) (pc := 48) dX6_longestRow_48
theorem sX6_longestRow_49 : Snd MX6_longestRow 49 (xLdI 50 3) := snd_iload_n (M := MX6_longestRow) (pc := 49) dX6_longestRow_49
theorem sX6_longestRow_50 : Snd MX6_longestRow 50 (xLdI 52 4) := snd_iload (M := MX6_longestRow) (pc := 50) dX6_longestRow_50
theorem sX6_longestRow_52 : Snd MX6_longestRow 52 (xCallV MX6_canLive 6 2 55) := snd_callV (M := MX6_longestRow) (pc := 52) (n := 2) dX6_longestRow_52 rfl w596 w597 w598 ⟨w462, w595, ⟨by decide, by decide, by decide +kernel⟩, by decide⟩ ⟨rfl, rfl⟩
theorem sX6_longestRow_55 : Snd MX6_longestRow 55 (xZ_ne 64 58) := snd_if_ne (M := MX6_longestRow) (pc := 55) dX6_longestRow_55 (by decide)
theorem sX6_longestRow_58 : Snd MX6_longestRow 58 (xInc 61 4 (nI 1)) := snd_iinc (M := MX6_longestRow) (pc := 58) dX6_longestRow_58 (by decide +kernel) (by decide)
theorem sX6_longestRow_61 : Snd MX6_longestRow 61 (xGo 39) := snd_goto (M := MX6_longestRow) (pc := 61) dX6_longestRow_61 (by decide)
theorem sX6_longestRow_64 : Snd MX6_longestRow 64 (xLdI 66 4) := snd_iload (M := MX6_longestRow) (pc := 64) dX6_longestRow_64
theorem sX6_longestRow_66 : Snd MX6_longestRow 66 (xLdA 67 0) := snd_aload_n (M := MX6_longestRow) (pc := 66) dX6_longestRow_66
theorem sX6_longestRow_67 : Snd MX6_longestRow 67 (xGf 70 6 9) := snd_gf (M := MX6_longestRow) (pc := 67) (C0 := RX6) (T0 := TX6) (N := 32) dX6_longestRow_67 rfl tbX6 (by decide) w479
theorem sX6_longestRow_70 : Snd MX6_longestRow 70 (xC_ne 79 73) := snd_icmp_ne (M := MX6_longestRow) (pc := 70) dX6_longestRow_70 (by decide)
theorem sX6_longestRow_73 : Snd MX6_longestRow 73 (xInc 76 2 ((-1))) := snd_iinc (M := MX6_longestRow) (pc := 73) dX6_longestRow_73 (by decide +kernel) (by decide)
theorem sX6_longestRow_76 : Snd MX6_longestRow 76 (xGo 151) := snd_goto (M := MX6_longestRow) (pc := 76) dX6_longestRow_76 (by decide)
theorem sX6_longestRow_79 : Snd MX6_longestRow 79 (xLdA 80 0) := snd_aload_n (M := MX6_longestRow) (pc := 79) dX6_longestRow_79
theorem sX6_longestRow_80 : Snd MX6_longestRow 80 (xGf 83 6 28) := snd_gf (M := MX6_longestRow) (pc := 80) (C0 := RX6) (T0 := TX6) (N := 32) dX6_longestRow_80 rfl tbX6 (by decide) w456
theorem sX6_longestRow_83 : Snd MX6_longestRow 83 (xLdI 84 2) := snd_iload_n (M := MX6_longestRow) (pc := 83) dX6_longestRow_83
theorem sX6_longestRow_84 : Snd MX6_longestRow 84 (xLdI 86 4) := snd_iload (M := MX6_longestRow) (pc := 84) dX6_longestRow_84
theorem sX6_longestRow_86 : Snd MX6_longestRow 86 (xiastore 87) := snd_iastore (M := MX6_longestRow) (pc := 86) dX6_longestRow_86
theorem sX6_longestRow_87 : Snd MX6_longestRow 87 (xLdA 88 0) := snd_aload_n (M := MX6_longestRow) (pc := 87) dX6_longestRow_87
theorem sX6_longestRow_88 : Snd MX6_longestRow 88 (xLdI 89 3) := snd_iload_n (M := MX6_longestRow) (pc := 88) dX6_longestRow_88
theorem sX6_longestRow_89 : Snd MX6_longestRow 89 (xLdI 90 3) := snd_iload_n (M := MX6_longestRow) (pc := 89) dX6_longestRow_89
theorem sX6_longestRow_90 : Snd MX6_longestRow 90 (xK 91 (nI 4)) := snd_iconst (M := MX6_longestRow) (pc := 90) dX6_longestRow_90 (by decide +kernel)
theorem sX6_longestRow_91 : Snd MX6_longestRow 91 (xBin 92 f_iadd) := snd_iadd (M := MX6_longestRow) (pc := 91) dX6_longestRow_91
theorem sX6_longestRow_92 : Snd MX6_longestRow 92 (xCallV MX6_copy 6 2 95) := snd_callV (M := MX6_longestRow) (pc := 92) (n := 2) dX6_longestRow_92 rfl w584 w585 w586 ⟨w462, w583, ⟨by decide, by decide, by decide +kernel⟩, by decide⟩ ⟨rfl, rfl⟩
theorem sX6_longestRow_95 : Snd MX6_longestRow 95 (xLdA 96 0) := snd_aload_n (M := MX6_longestRow) (pc := 95) dX6_longestRow_95
theorem sX6_longestRow_96 : Snd MX6_longestRow 96 (xLdI 97 3) := snd_iload_n (M := MX6_longestRow) (pc := 96) dX6_longestRow_96
theorem sX6_longestRow_97 : Snd MX6_longestRow 97 (xK 98 (nI 4)) := snd_iconst (M := MX6_longestRow) (pc := 97) dX6_longestRow_97 (by decide +kernel)
theorem sX6_longestRow_98 : Snd MX6_longestRow 98 (xBin 99 f_iadd) := snd_iadd (M := MX6_longestRow) (pc := 98) dX6_longestRow_98
theorem sX6_longestRow_99 : Snd MX6_longestRow 99 (xLdI 101 4) := snd_iload (M := MX6_longestRow) (pc := 99) dX6_longestRow_99
theorem sX6_longestRow_101 : Snd MX6_longestRow 101 (xCallV MX6_livesOne 6 2 104) := snd_callV (M := MX6_longestRow) (pc := 101) (n := 2) dX6_longestRow_101 rfl w600 w601 w602 ⟨w462, w599, ⟨by decide, by decide, by decide +kernel⟩, by decide⟩ ⟨rfl, rfl⟩
theorem sX6_longestRow_104 : Snd MX6_longestRow 104 (xPop 105) := snd_pop (M := MX6_longestRow) (pc := 104) dX6_longestRow_104
theorem sX6_longestRow_105 : Snd MX6_longestRow 105 (xInc 108 2 (nI 1)) := snd_iinc (M := MX6_longestRow) (pc := 105) dX6_longestRow_105 (by decide +kernel) (by decide)
theorem sX6_longestRow_108 : Snd MX6_longestRow 108 (xLdA 109 0) := snd_aload_n (M := MX6_longestRow) (pc := 108) dX6_longestRow_108
theorem sX6_longestRow_109 : Snd MX6_longestRow 109 (xGf 112 6 28) := snd_gf (M := MX6_longestRow) (pc := 109) (C0 := RX6) (T0 := TX6) (N := 32) dX6_longestRow_109 rfl tbX6 (by decide) w456
theorem sX6_longestRow_112 : Snd MX6_longestRow 112 (xLdI 113 2) := snd_iload_n (M := MX6_longestRow) (pc := 112) dX6_longestRow_112
theorem sX6_longestRow_113 : Snd MX6_longestRow 113 (xK 114 ((-1))) := snd_iconst (M := MX6_longestRow) (pc := 113) dX6_longestRow_113 (by decide +kernel)
theorem sX6_longestRow_114 : Snd MX6_longestRow 114 (xiastore 115) := snd_iastore (M := MX6_longestRow) (pc := 114) dX6_longestRow_114
theorem sX6_longestRow_115 : Snd MX6_longestRow 115 (xLdI 116 2) := snd_iload_n (M := MX6_longestRow) (pc := 115) dX6_longestRow_115
theorem sX6_longestRow_116 : Snd MX6_longestRow 116 (xLdI 117 1) := snd_iload_n (M := MX6_longestRow) (pc := 116) dX6_longestRow_116
theorem sX6_longestRow_117 : Snd MX6_longestRow 117 (xC_le 151 120) := snd_icmp_le (M := MX6_longestRow) (pc := 117) dX6_longestRow_117 (by decide)
theorem sX6_longestRow_120 : Snd MX6_longestRow 120 (xLdI 121 2) := snd_iload_n (M := MX6_longestRow) (pc := 120) dX6_longestRow_120
theorem sX6_longestRow_121 : Snd MX6_longestRow 121 (xStI 122 1) := snd_istore_n (M := MX6_longestRow) (pc := 121) dX6_longestRow_121 (by decide)
theorem sX6_longestRow_122 : Snd MX6_longestRow 122 (xK 123 (nI 0)) := snd_iconst (M := MX6_longestRow) (pc := 122) dX6_longestRow_122 (by decide +kernel)
theorem sX6_longestRow_123 : Snd MX6_longestRow 123 (xStI 125 5) := snd_istore (M := MX6_longestRow) (pc := 123) dX6_longestRow_123 (by decide)
theorem sX6_longestRow_125 : Snd MX6_longestRow 125 (xLdI 127 5) := snd_iload (M := MX6_longestRow) (pc := 125) dX6_longestRow_125
theorem sX6_longestRow_127 : Snd MX6_longestRow 127 (xLdI 128 2) := snd_iload_n (M := MX6_longestRow) (pc := 127) dX6_longestRow_127
theorem sX6_longestRow_128 : Snd MX6_longestRow 128 (xC_ge 151 131) := snd_icmp_ge (M := MX6_longestRow) (pc := 128) dX6_longestRow_128 (by decide)
theorem sX6_longestRow_131 : Snd MX6_longestRow 131 (xLdA 132 0) := snd_aload_n (M := MX6_longestRow) (pc := 131) dX6_longestRow_131
theorem sX6_longestRow_132 : Snd MX6_longestRow 132 (xGf 135 6 29) := snd_gf (M := MX6_longestRow) (pc := 132) (C0 := RX6) (T0 := TX6) (N := 32) dX6_longestRow_132 rfl tbX6 (by decide) w457
theorem sX6_longestRow_135 : Snd MX6_longestRow 135 (xLdI 137 5) := snd_iload (M := MX6_longestRow) (pc := 135) dX6_longestRow_135
theorem sX6_longestRow_137 : Snd MX6_longestRow 137 (xLdA 138 0) := snd_aload_n (M := MX6_longestRow) (pc := 137) dX6_longestRow_137
theorem sX6_longestRow_138 : Snd MX6_longestRow 138 (xGf 141 6 28) := snd_gf (M := MX6_longestRow) (pc := 138) (C0 := RX6) (T0 := TX6) (N := 32) dX6_longestRow_138 rfl tbX6 (by decide) w456
theorem sX6_longestRow_141 : Snd MX6_longestRow 141 (xLdI 143 5) := snd_iload (M := MX6_longestRow) (pc := 141) dX6_longestRow_141
theorem sX6_longestRow_143 : Snd MX6_longestRow 143 (xiaload 144) := snd_iaload (M := MX6_longestRow) (pc := 143) dX6_longestRow_143
theorem sX6_longestRow_144 : Snd MX6_longestRow 144 (xiastore 145) := snd_iastore (M := MX6_longestRow) (pc := 144) dX6_longestRow_144
theorem sX6_longestRow_145 : Snd MX6_longestRow 145 (xInc 148 5 (nI 1)) := snd_iinc (M := MX6_longestRow) (pc := 145) dX6_longestRow_145 (by decide +kernel) (by decide)
theorem sX6_longestRow_148 : Snd MX6_longestRow 148 (xGo 125) := snd_goto (M := MX6_longestRow) (pc := 148) dX6_longestRow_148 (by decide)
theorem sX6_longestRow_151 : Snd MX6_longestRow 151 (xGo 18) := snd_goto (M := MX6_longestRow) (pc := 151) dX6_longestRow_151 (by decide)
theorem sX6_longestRow_154 : Snd MX6_longestRow 154 (xLdI 155 1) := snd_iload_n (M := MX6_longestRow) (pc := 154) dX6_longestRow_154
theorem sX6_longestRow_155 : Snd MX6_longestRow 155 (xRet) := snd_iret (M := MX6_longestRow) (pc := 155) dX6_longestRow_155 rfl
theorem VX6_longestRow : Valid MX6_longestRow LX6_longestRow := va_lid sX6_longestRow_0 (va_lid sX6_longestRow_1 (va_lid sX6_longestRow_2 (va_lid sX6_longestRow_3 (va_lid sX6_longestRow_4 (va_lid sX6_longestRow_5 (va_lid sX6_longestRow_6 (va_lid sX6_longestRow_8 (va_lid sX6_longestRow_11 (va_lid sX6_longestRow_12 (va_lid sX6_longestRow_15 (va_lid sX6_longestRow_16 (va_lid sX6_longestRow_17 (va_lid sX6_longestRow_18 (va_lid sX6_longestRow_19 (va_lid sX6_longestRow_22 (va_lid sX6_longestRow_24 (va_lid sX6_longestRow_25 (va_lid sX6_longestRow_26 (va_lid sX6_longestRow_27 (va_lid sX6_longestRow_28 (va_lid sX6_longestRow_29 (va_lid sX6_longestRow_30 (va_lid sX6_longestRow_33 (va_lid sX6_longestRow_34 (va_lid sX6_longestRow_35 (va_lid sX6_longestRow_36 (va_lid sX6_longestRow_37 (va_lid sX6_longestRow_39 (va_lid sX6_longestRow_41 (va_lid sX6_longestRow_42 (va_lid sX6_longestRow_45 (va_lid sX6_longestRow_48 (va_lid sX6_longestRow_49 (va_lid sX6_longestRow_50 (va_lid sX6_longestRow_52 (va_lid sX6_longestRow_55 (va_lid sX6_longestRow_58 (va_lid sX6_longestRow_61 (va_lid sX6_longestRow_64 (va_lid sX6_longestRow_66 (va_lid sX6_longestRow_67 (va_lid sX6_longestRow_70 (va_lid sX6_longestRow_73 (va_lid sX6_longestRow_76 (va_lid sX6_longestRow_79 (va_lid sX6_longestRow_80 (va_lid sX6_longestRow_83 (va_lid sX6_longestRow_84 (va_lid sX6_longestRow_86 (va_lid sX6_longestRow_87 (va_lid sX6_longestRow_88 (va_lid sX6_longestRow_89 (va_lid sX6_longestRow_90 (va_lid sX6_longestRow_91 (va_lid sX6_longestRow_92 (va_lid sX6_longestRow_95 (va_lid sX6_longestRow_96 (va_lid sX6_longestRow_97 (va_lid sX6_longestRow_98 (va_lid sX6_longestRow_99 (va_lid sX6_longestRow_101 (va_lid sX6_longestRow_104 (va_lid sX6_longestRow_105 (va_lid sX6_longestRow_108 (va_lid sX6_longestRow_109 (va_lid sX6_longestRow_112 (va_lid sX6_longestRow_113 (va_lid sX6_longestRow_114 (va_lid sX6_longestRow_115 (va_lid sX6_longestRow_116 (va_lid sX6_longestRow_117 (va_lid sX6_longestRow_120 (va_lid sX6_longestRow_121 (va_lid sX6_longestRow_122 (va_lid sX6_longestRow_123 (va_lid sX6_longestRow_125 (va_lid sX6_longestRow_127 (va_lid sX6_longestRow_128 (va_lid sX6_longestRow_131 (va_lid sX6_longestRow_132 (va_lid sX6_longestRow_135 (va_lid sX6_longestRow_137 (va_lid sX6_longestRow_138 (va_lid sX6_longestRow_141 (va_lid sX6_longestRow_143 (va_lid sX6_longestRow_144 (va_lid sX6_longestRow_145 (va_lid sX6_longestRow_148 (va_lid sX6_longestRow_151 (va_lid sX6_longestRow_154 (va_lid sX6_longestRow_155 (va_lid0))))))))))))))))))))))))))))))))))))))))))))))))))))))))))))))))))))))))))))))))))))))))))))
theorem kX6_longestRow_0 : lk LX6_longestRow 0 = some (xK 1 (nI 0)) := rfl
theorem kX6_longestRow_1 : lk LX6_longestRow 1 = some (xStI 2 1) := rfl
theorem kX6_longestRow_2 : lk LX6_longestRow 2 = some (xK 3 (nI 0)) := rfl
theorem kX6_longestRow_3 : lk LX6_longestRow 3 = some (xStI 4 2) := rfl
theorem kX6_longestRow_4 : lk LX6_longestRow 4 = some (xLdA 5 0) := rfl
theorem kX6_longestRow_5 : lk LX6_longestRow 5 = some (xK 6 (nI 0)) := rfl
theorem kX6_longestRow_6 : lk LX6_longestRow 6 = some (xK 8 (nI 48)) := rfl
theorem kX6_longestRow_8 : lk LX6_longestRow 8 = some (xCallV MX6_copy 6 2 11) := rfl
theorem kX6_longestRow_11 : lk LX6_longestRow 11 = some (xLdA 12 0) := rfl
theorem kX6_longestRow_12 : lk LX6_longestRow 12 = some (xGf 15 6 28) := rfl
theorem kX6_longestRow_15 : lk LX6_longestRow 15 = some (xK 16 (nI 0)) := rfl
theorem kX6_longestRow_16 : lk LX6_longestRow 16 = some (xK 17 ((-1))) := rfl
theorem kX6_longestRow_17 : lk LX6_longestRow 17 = some (xiastore 18) := rfl
theorem kX6_longestRow_18 : lk LX6_longestRow 18 = some (xLdI 19 2) := rfl
theorem kX6_longestRow_19 : lk LX6_longestRow 19 = some (xZ_lt 154 22) := rfl
theorem kX6_longestRow_22 : lk LX6_longestRow 22 = some (xK 24 (nI 48)) := rfl
theorem kX6_longestRow_24 : lk LX6_longestRow 24 = some (xK 25 (nI 4)) := rfl
theorem kX6_longestRow_25 : lk LX6_longestRow 25 = some (xLdI 26 2) := rfl
theorem kX6_longestRow_26 : lk LX6_longestRow 26 = some (xBin 27 f_imul) := rfl
theorem kX6_longestRow_27 : lk LX6_longestRow 27 = some (xBin 28 f_iadd) := rfl
theorem kX6_longestRow_28 : lk LX6_longestRow 28 = some (xStI 29 3) := rfl
theorem kX6_longestRow_29 : lk LX6_longestRow 29 = some (xLdA 30 0) := rfl
theorem kX6_longestRow_30 : lk LX6_longestRow 30 = some (xGf 33 6 28) := rfl
theorem kX6_longestRow_33 : lk LX6_longestRow 33 = some (xLdI 34 2) := rfl
theorem kX6_longestRow_34 : lk LX6_longestRow 34 = some (xiaload 35) := rfl
theorem kX6_longestRow_35 : lk LX6_longestRow 35 = some (xK 36 (nI 1)) := rfl
theorem kX6_longestRow_36 : lk LX6_longestRow 36 = some (xBin 37 f_iadd) := rfl
theorem kX6_longestRow_37 : lk LX6_longestRow 37 = some (xStI 39 4) := rfl
theorem kX6_longestRow_39 : lk LX6_longestRow 39 = some (xLdI 41 4) := rfl
theorem kX6_longestRow_41 : lk LX6_longestRow 41 = some (xLdA 42 0) := rfl
theorem kX6_longestRow_42 : lk LX6_longestRow 42 = some (xGf 45 6 9) := rfl
theorem kX6_longestRow_45 : lk LX6_longestRow 45 = some (xC_ge 64 48) := rfl
theorem kX6_longestRow_48 : lk LX6_longestRow 48 = some (xLdA 49 0) := rfl
theorem kX6_longestRow_49 : lk LX6_longestRow 49 = some (xLdI 50 3) := rfl
theorem kX6_longestRow_50 : lk LX6_longestRow 50 = some (xLdI 52 4) := rfl
theorem kX6_longestRow_52 : lk LX6_longestRow 52 = some (xCallV MX6_canLive 6 2 55) := rfl
theorem kX6_longestRow_55 : lk LX6_longestRow 55 = some (xZ_ne 64 58) := rfl
theorem kX6_longestRow_58 : lk LX6_longestRow 58 = some (xInc 61 4 (nI 1)) := rfl
theorem kX6_longestRow_61 : lk LX6_longestRow 61 = some (xGo 39) := rfl
theorem kX6_longestRow_64 : lk LX6_longestRow 64 = some (xLdI 66 4) := rfl
theorem kX6_longestRow_66 : lk LX6_longestRow 66 = some (xLdA 67 0) := rfl
theorem kX6_longestRow_67 : lk LX6_longestRow 67 = some (xGf 70 6 9) := rfl
theorem kX6_longestRow_70 : lk LX6_longestRow 70 = some (xC_ne 79 73) := rfl
theorem kX6_longestRow_73 : lk LX6_longestRow 73 = some (xInc 76 2 ((-1))) := rfl
theorem kX6_longestRow_76 : lk LX6_longestRow 76 = some (xGo 151) := rfl
theorem kX6_longestRow_79 : lk LX6_longestRow 79 = some (xLdA 80 0) := rfl
theorem kX6_longestRow_80 : lk LX6_longestRow 80 = some (xGf 83 6 28) := rfl
theorem kX6_longestRow_83 : lk LX6_longestRow 83 = some (xLdI 84 2) := rfl
theorem kX6_longestRow_84 : lk LX6_longestRow 84 = some (xLdI 86 4) := rfl
theorem kX6_longestRow_86 : lk LX6_longestRow 86 = some (xiastore 87) := rfl
theorem kX6_longestRow_87 : lk LX6_longestRow 87 = some (xLdA 88 0) := rfl
theorem kX6_longestRow_88 : lk LX6_longestRow 88 = some (xLdI 89 3) := rfl
theorem kX6_longestRow_89 : lk LX6_longestRow 89 = some (xLdI 90 3) := rfl
theorem kX6_longestRow_90 : lk LX6_longestRow 90 = some (xK 91 (nI 4)) := rfl
theorem kX6_longestRow_91 : lk LX6_longestRow 91 = some (xBin 92 f_iadd) := rfl
theorem kX6_longestRow_92 : lk LX6_longestRow 92 = some (xCallV MX6_copy 6 2 95) := rfl
theorem kX6_longestRow_95 : lk LX6_longestRow 95 = some (xLdA 96 0) := rfl
theorem kX6_longestRow_96 : lk LX6_longestRow 96 = some (xLdI 97 3) := rfl
theorem kX6_longestRow_97 : lk LX6_longestRow 97 = some (xK 98 (nI 4)) := rfl
theorem kX6_longestRow_98 : lk LX6_longestRow 98 = some (xBin 99 f_iadd) := rfl
theorem kX6_longestRow_99 : lk LX6_longestRow 99 = some (xLdI 101 4) := rfl
theorem kX6_longestRow_101 : lk LX6_longestRow 101 = some (xCallV MX6_livesOne 6 2 104) := rfl
theorem kX6_longestRow_104 : lk LX6_longestRow 104 = some (xPop 105) := rfl
theorem kX6_longestRow_105 : lk LX6_longestRow 105 = some (xInc 108 2 (nI 1)) := rfl
theorem kX6_longestRow_108 : lk LX6_longestRow 108 = some (xLdA 109 0) := rfl
theorem kX6_longestRow_109 : lk LX6_longestRow 109 = some (xGf 112 6 28) := rfl
theorem kX6_longestRow_112 : lk LX6_longestRow 112 = some (xLdI 113 2) := rfl
theorem kX6_longestRow_113 : lk LX6_longestRow 113 = some (xK 114 ((-1))) := rfl
theorem kX6_longestRow_114 : lk LX6_longestRow 114 = some (xiastore 115) := rfl
theorem kX6_longestRow_115 : lk LX6_longestRow 115 = some (xLdI 116 2) := rfl
theorem kX6_longestRow_116 : lk LX6_longestRow 116 = some (xLdI 117 1) := rfl
theorem kX6_longestRow_117 : lk LX6_longestRow 117 = some (xC_le 151 120) := rfl
theorem kX6_longestRow_120 : lk LX6_longestRow 120 = some (xLdI 121 2) := rfl
theorem kX6_longestRow_121 : lk LX6_longestRow 121 = some (xStI 122 1) := rfl
theorem kX6_longestRow_122 : lk LX6_longestRow 122 = some (xK 123 (nI 0)) := rfl
theorem kX6_longestRow_123 : lk LX6_longestRow 123 = some (xStI 125 5) := rfl
theorem kX6_longestRow_125 : lk LX6_longestRow 125 = some (xLdI 127 5) := rfl
theorem kX6_longestRow_127 : lk LX6_longestRow 127 = some (xLdI 128 2) := rfl
theorem kX6_longestRow_128 : lk LX6_longestRow 128 = some (xC_ge 151 131) := rfl
theorem kX6_longestRow_131 : lk LX6_longestRow 131 = some (xLdA 132 0) := rfl
set_option maxRecDepth 20000 in
theorem kX6_longestRow_132 : lk LX6_longestRow 132 = some (xGf 135 6 29) := rfl
set_option maxRecDepth 20000 in
theorem kX6_longestRow_135 : lk LX6_longestRow 135 = some (xLdI 137 5) := rfl
set_option maxRecDepth 20000 in
theorem kX6_longestRow_137 : lk LX6_longestRow 137 = some (xLdA 138 0) := rfl
set_option maxRecDepth 20000 in
theorem kX6_longestRow_138 : lk LX6_longestRow 138 = some (xGf 141 6 28) := rfl
set_option maxRecDepth 20000 in
theorem kX6_longestRow_141 : lk LX6_longestRow 141 = some (xLdI 143 5) := rfl
set_option maxRecDepth 20000 in
theorem kX6_longestRow_143 : lk LX6_longestRow 143 = some (xiaload 144) := rfl
set_option maxRecDepth 20000 in
theorem kX6_longestRow_144 : lk LX6_longestRow 144 = some (xiastore 145) := rfl
set_option maxRecDepth 20000 in
theorem kX6_longestRow_145 : lk LX6_longestRow 145 = some (xInc 148 5 (nI 1)) := rfl
set_option maxRecDepth 20000 in
theorem kX6_longestRow_148 : lk LX6_longestRow 148 = some (xGo 125) := rfl
set_option maxRecDepth 20000 in
theorem kX6_longestRow_151 : lk LX6_longestRow 151 = some (xGo 18) := rfl
set_option maxRecDepth 20000 in
theorem kX6_longestRow_154 : lk LX6_longestRow 154 = some (xLdI 155 1) := rfl
set_option maxRecDepth 20000 in
theorem kX6_longestRow_155 : lk LX6_longestRow 155 = some (xRet) := rfl
def LX6_row : List (Nat × XI) := [(0, xLdI 1 1),
  (1, xI2l 2),
  (2, xKL 3 (lN 0)),
  (3, xKL 6 (lN 6)),
  (6, xCallS MX6_in 3 9),
  (9, xZ_ne 14 12),
  (12, xK 13 ((-1))),
  (13, xRet),
  (14, xLdA 15 0),
  (15, xCallV MX6_longestRow 6 0 18),
  (18, xStI 19 2),
  (19, xLdI 20 1),
  (20, xZ_ne 27 23),
  (23, xLdI 24 2),
  (24, xGo 45),
  (27, xLdI 28 1),
  (28, xLdI 29 2),
  (29, xC_gt 43 32),
  (32, xLdA 33 0),
  (33, xGf 36 6 29),
  (36, xLdI 37 1),
  (37, xK 38 (nI 1)),
  (38, xBin 39 f_isub),
  (39, xiaload 40),
  (40, xGo 45),
  (43, xK 45 ((-4))),
  (45, xRet)]
theorem sX6_row_0 : Snd MX6_row 0 (xLdI 1 1) := snd_iload_n (M := MX6_row) (pc := 0) dX6_row_0
theorem sX6_row_1 : Snd MX6_row 1 (xI2l 2) := snd_i2l (M := MX6_row) (pc := 1) dX6_row_1
theorem sX6_row_2 : Snd MX6_row 2 (xKL 3 (lN 0)) := snd_lconst (M := MX6_row) (pc := 2) dX6_row_2 rfl
theorem sX6_row_3 : Snd MX6_row 3 (xKL 6 (lN 6)) := snd_ldc2 (M := MX6_row) (pc := 3) dX6_row_3 w618
theorem sX6_row_6 : Snd MX6_row 6 (xCallS MX6_in 3 9) := snd_callS (M := MX6_row) (pc := 6) (n := 3) dX6_row_6 w477 w478 ⟨w462, w476, ⟨by decide, by decide, by decide +kernel⟩, by decide⟩ ⟨rfl, rfl⟩
theorem sX6_row_9 : Snd MX6_row 9 (xZ_ne 14 12) := snd_if_ne (M := MX6_row) (pc := 9) dX6_row_9 (by decide)
theorem sX6_row_12 : Snd MX6_row 12 (xK 13 ((-1))) := snd_iconst (M := MX6_row) (pc := 12) dX6_row_12 (by decide +kernel)
theorem sX6_row_13 : Snd MX6_row 13 (xRet) := snd_iret (M := MX6_row) (pc := 13) dX6_row_13 rfl
theorem sX6_row_14 : Snd MX6_row 14 (xLdA 15 0) := snd_aload_n (M := MX6_row) (pc := 14) dX6_row_14
theorem sX6_row_15 : Snd MX6_row 15 (xCallV MX6_longestRow 6 0 18) := snd_callV (M := MX6_row) (pc := 15) (n := 0) dX6_row_15 rfl w620 w621 w622 ⟨w462, w619, ⟨by decide, by decide, by decide +kernel⟩, by decide⟩ ⟨rfl, rfl⟩
theorem sX6_row_18 : Snd MX6_row 18 (xStI 19 2) := snd_istore_n (M := MX6_row) (pc := 18) dX6_row_18 (by decide)
theorem sX6_row_19 : Snd MX6_row 19 (xLdI 20 1) := snd_iload_n (M := MX6_row) (pc := 19) dX6_row_19
theorem sX6_row_20 : Snd MX6_row 20 (xZ_ne 27 23) := snd_if_ne (M := MX6_row) (pc := 20) dX6_row_20 (by decide)
theorem sX6_row_23 : Snd MX6_row 23 (xLdI 24 2) := snd_iload_n (M := MX6_row) (pc := 23) dX6_row_23
theorem sX6_row_24 : Snd MX6_row 24 (xGo 45) := snd_goto (M := MX6_row) (pc := 24) dX6_row_24 (by decide)
theorem sX6_row_27 : Snd MX6_row 27 (xLdI 28 1) := snd_iload_n (M := MX6_row) (pc := 27) dX6_row_27
theorem sX6_row_28 : Snd MX6_row 28 (xLdI 29 2) := snd_iload_n (M := MX6_row) (pc := 28) dX6_row_28
theorem sX6_row_29 : Snd MX6_row 29 (xC_gt 43 32) := snd_icmp_gt (M := MX6_row) (pc := 29) dX6_row_29 (by decide)
theorem sX6_row_32 : Snd MX6_row 32 (xLdA 33 0) := snd_aload_n (M := MX6_row) (pc := 32) dX6_row_32
theorem sX6_row_33 : Snd MX6_row 33 (xGf 36 6 29) := snd_gf (M := MX6_row) (pc := 33) (C0 := RX6) (T0 := TX6) (N := 32) dX6_row_33 rfl tbX6 (by decide) w457
theorem sX6_row_36 : Snd MX6_row 36 (xLdI 37 1) := snd_iload_n (M := MX6_row) (pc := 36) dX6_row_36
theorem sX6_row_37 : Snd MX6_row 37 (xK 38 (nI 1)) := snd_iconst (M := MX6_row) (pc := 37) dX6_row_37 (by decide +kernel)
theorem sX6_row_38 : Snd MX6_row 38 (xBin 39 f_isub) := snd_isub (M := MX6_row) (pc := 38) dX6_row_38
theorem sX6_row_39 : Snd MX6_row 39 (xiaload 40) := snd_iaload (M := MX6_row) (pc := 39) dX6_row_39
theorem sX6_row_40 : Snd MX6_row 40 (xGo 45) := snd_goto (M := MX6_row) (pc := 40) dX6_row_40 (by decide)
theorem sX6_row_43 : Snd MX6_row 43 (xK 45 ((-4))) := snd_bipush (M := MX6_row) (pc := 43) dX6_row_43 (by decide +kernel)
theorem sX6_row_45 : Snd MX6_row 45 (xRet) := snd_iret (M := MX6_row) (pc := 45) dX6_row_45 rfl
theorem VX6_row : Valid MX6_row LX6_row := va_lid sX6_row_0 (va_lid sX6_row_1 (va_lid sX6_row_2 (va_lid sX6_row_3 (va_lid sX6_row_6 (va_lid sX6_row_9 (va_lid sX6_row_12 (va_lid sX6_row_13 (va_lid sX6_row_14 (va_lid sX6_row_15 (va_lid sX6_row_18 (va_lid sX6_row_19 (va_lid sX6_row_20 (va_lid sX6_row_23 (va_lid sX6_row_24 (va_lid sX6_row_27 (va_lid sX6_row_28 (va_lid sX6_row_29 (va_lid sX6_row_32 (va_lid sX6_row_33 (va_lid sX6_row_36 (va_lid sX6_row_37 (va_lid sX6_row_38 (va_lid sX6_row_39 (va_lid sX6_row_40 (va_lid sX6_row_43 (va_lid sX6_row_45 (va_lid0)))))))))))))))))))))))))))
theorem kX6_row_0 : lk LX6_row 0 = some (xLdI 1 1) := rfl
theorem kX6_row_1 : lk LX6_row 1 = some (xI2l 2) := rfl
theorem kX6_row_2 : lk LX6_row 2 = some (xKL 3 (lN 0)) := rfl
theorem kX6_row_3 : lk LX6_row 3 = some (xKL 6 (lN 6)) := rfl
theorem kX6_row_6 : lk LX6_row 6 = some (xCallS MX6_in 3 9) := rfl
theorem kX6_row_9 : lk LX6_row 9 = some (xZ_ne 14 12) := rfl
theorem kX6_row_12 : lk LX6_row 12 = some (xK 13 ((-1))) := rfl
theorem kX6_row_13 : lk LX6_row 13 = some (xRet) := rfl
theorem kX6_row_14 : lk LX6_row 14 = some (xLdA 15 0) := rfl
theorem kX6_row_15 : lk LX6_row 15 = some (xCallV MX6_longestRow 6 0 18) := rfl
theorem kX6_row_18 : lk LX6_row 18 = some (xStI 19 2) := rfl
theorem kX6_row_19 : lk LX6_row 19 = some (xLdI 20 1) := rfl
theorem kX6_row_20 : lk LX6_row 20 = some (xZ_ne 27 23) := rfl
theorem kX6_row_23 : lk LX6_row 23 = some (xLdI 24 2) := rfl
theorem kX6_row_24 : lk LX6_row 24 = some (xGo 45) := rfl
theorem kX6_row_27 : lk LX6_row 27 = some (xLdI 28 1) := rfl
theorem kX6_row_28 : lk LX6_row 28 = some (xLdI 29 2) := rfl
theorem kX6_row_29 : lk LX6_row 29 = some (xC_gt 43 32) := rfl
theorem kX6_row_32 : lk LX6_row 32 = some (xLdA 33 0) := rfl
theorem kX6_row_33 : lk LX6_row 33 = some (xGf 36 6 29) := rfl
theorem kX6_row_36 : lk LX6_row 36 = some (xLdI 37 1) := rfl
theorem kX6_row_37 : lk LX6_row 37 = some (xK 38 (nI 1)) := rfl
theorem kX6_row_38 : lk LX6_row 38 = some (xBin 39 f_isub) := rfl
theorem kX6_row_39 : lk LX6_row 39 = some (xiaload 40) := rfl
theorem kX6_row_40 : lk LX6_row 40 = some (xGo 45) := rfl
theorem kX6_row_43 : lk LX6_row 43 = some (xK 45 ((-4))) := rfl
theorem kX6_row_45 : lk LX6_row 45 = some (xRet) := rfl
def LX6_bargain : List (Nat × XI) := [(0, xLdA 1 0),
  (1, xLdA 2 0),
  (2, xGf 5 6 0),
  (5, xK 6 (nI 2)),
  (6, xiaload 7),
  (7, xCallV MX6_livesBy 6 1 10),
  (10, xStI 11 1),
  (11, xK 12 (nI 0)),
  (12, xStI 13 2),
  (13, xK 14 (nI 0)),
  (14, xStI 15 3),
  (15, xLdI 16 3),
  (16, xLdA 17 0),
  (17, xGf 20 6 9),
  (20, xC_ge 165 23),
  (23, xLdI 24 1),
  (24, xLdI 25 3),
  (25, xCallS MX6_has 2 28),
  (28, xStI 30 4),
  (30, xK 31 (nI 0)),
  (31, xStI 33 5),
  (33, xLdI 35 5),
  (35, xLdA 36 0),
  (36, xGf 39 6 9),
  (39, xC_ge 144 42),
  (42, xLdI 43 1),
  (43, xLdI 45 5),
  (45, xCallS MX6_has 2 48),
  (48, xZ_eq 118 51),
  (51, xLdA 52 0),
  (52, xGf 55 6 11),
  (55, xLdI 57 5),
  (57, xiaload 58),
  (58, xLdA 59 0),
  (59, xGf 62 6 11),
  (62, xLdI 63 3),
  (63, xiaload 64),
  (64, xC_lt 118 67),
  (67, xLdA 68 0),
  (68, xGf 71 6 12),
  (71, xLdI 73 5),
  (73, xiaload 74),
  (74, xLdA 75 0),
  (75, xGf 78 6 12),
  (78, xLdI 79 3),
  (79, xiaload 80),
  (80, xC_lt 118 83),
  (83, xLdA 84 0),
  (84, xGf 87 6 11),
  (87, xLdI 89 5),
  (89, xiaload 90),
  (90, xLdA 91 0),
  (91, xGf 94 6 12),
  (94, xLdI 96 5),
  (96, xiaload 97),
  (97, xBin 98 f_iadd),
  (98, xLdA 99 0),
  (99, xGf 102 6 11),
  (102, xLdI 103 3),
  (103, xiaload 104),
  (104, xLdA 105 0),
  (105, xGf 108 6 12),
  (108, xLdI 109 3),
  (109, xiaload 110),
  (110, xBin 111 f_iadd),
  (111, xC_le 118 114),
  (114, xK 115 (nI 1)),
  (115, xGo 119),
  (118, xK 119 (nI 0)),
  (119, xStI 121 6),
  (121, xLdI 123 4),
  (123, xZ_eq 135 126),
  (126, xLdI 128 6),
  (128, xZ_ne 135 131),
  (131, xK 132 (nI 1)),
  (132, xGo 136),
  (135, xK 136 (nI 0)),
  (136, xStI 138 4),
  (138, xInc 141 5 (nI 1)),
  (141, xGo 33),
  (144, xLdI 145 2),
  (145, xLdI 147 4),
  (147, xZ_eq 156 150),
  (150, xK 151 (nI 1)),
  (151, xLdI 152 3),
  (152, xBin 153 f_ishl),
  (153, xGo 157),
  (156, xK 157 (nI 0)),
  (157, xBin 158 f_ior),
  (158, xStI 159 2),
  (159, xInc 162 3 (nI 1)),
  (162, xGo 15),
  (165, xLdI 166 2),
  (166, xRet)]
theorem sX6_bargain_0 : Snd MX6_bargain 0 (xLdA 1 0) := snd_aload_n (M := MX6_bargain) (pc := 0) dX6_bargain_0
theorem sX6_bargain_1 : Snd MX6_bargain 1 (xLdA 2 0) := snd_aload_n (M := MX6_bargain) (pc := 1) dX6_bargain_1
theorem sX6_bargain_2 : Snd MX6_bargain 2 (xGf 5 6 0) := snd_gf (M := MX6_bargain) (pc := 2) (C0 := RX6) (T0 := TX6) (N := 32) dX6_bargain_2 rfl tbX6 (by decide) w444
theorem sX6_bargain_5 : Snd MX6_bargain 5 (xK 6 (nI 2)) := snd_iconst (M := MX6_bargain) (pc := 5) dX6_bargain_5 (by decide +kernel)
theorem sX6_bargain_6 : Snd MX6_bargain 6 (xiaload 7) := snd_iaload (M := MX6_bargain) (pc := 6) dX6_bargain_6
theorem sX6_bargain_7 : Snd MX6_bargain 7 (xCallV MX6_livesBy 6 1 10) := snd_callV (M := MX6_bargain) (pc := 7) (n := 1) dX6_bargain_7 rfl w614 w615 w616 ⟨w462, w613, ⟨by decide, by decide, by decide +kernel⟩, by decide⟩ ⟨rfl, rfl⟩
theorem sX6_bargain_10 : Snd MX6_bargain 10 (xStI 11 1) := snd_istore_n (M := MX6_bargain) (pc := 10) dX6_bargain_10 (by decide)
theorem sX6_bargain_11 : Snd MX6_bargain 11 (xK 12 (nI 0)) := snd_iconst (M := MX6_bargain) (pc := 11) dX6_bargain_11 (by decide +kernel)
theorem sX6_bargain_12 : Snd MX6_bargain 12 (xStI 13 2) := snd_istore_n (M := MX6_bargain) (pc := 12) dX6_bargain_12 (by decide)
theorem sX6_bargain_13 : Snd MX6_bargain 13 (xK 14 (nI 0)) := snd_iconst (M := MX6_bargain) (pc := 13) dX6_bargain_13 (by decide +kernel)
theorem sX6_bargain_14 : Snd MX6_bargain 14 (xStI 15 3) := snd_istore_n (M := MX6_bargain) (pc := 14) dX6_bargain_14 (by decide)
theorem sX6_bargain_15 : Snd MX6_bargain 15 (xLdI 16 3) := snd_iload_n (M := MX6_bargain) (pc := 15) dX6_bargain_15
theorem sX6_bargain_16 : Snd MX6_bargain 16 (xLdA 17 0) := snd_aload_n (M := MX6_bargain) (pc := 16) dX6_bargain_16
theorem sX6_bargain_17 : Snd MX6_bargain 17 (xGf 20 6 9) := snd_gf (M := MX6_bargain) (pc := 17) (C0 := RX6) (T0 := TX6) (N := 32) dX6_bargain_17 rfl tbX6 (by decide) w479
theorem sX6_bargain_20 : Snd MX6_bargain 20 (xC_ge 165 23) := snd_icmp_ge (M := MX6_bargain) (pc := 20) dX6_bargain_20 (by decide)
theorem sX6_bargain_23 : Snd MX6_bargain 23 (xLdI 24 1) := snd_iload_n (M := MX6_bargain) (pc := 23) dX6_bargain_23
theorem sX6_bargain_24 : Snd MX6_bargain 24 (xLdI 25 3) := snd_iload_n (M := MX6_bargain) (pc := 24) dX6_bargain_24
theorem sX6_bargain_25 : Snd MX6_bargain 25 (xCallS MX6_has 2 28) := snd_callS (M := MX6_bargain) (pc := 25) (n := 2) dX6_bargain_25 w530 w531 ⟨w462, w529, ⟨by decide, by decide, by decide +kernel⟩, by decide⟩ ⟨rfl, rfl⟩
theorem sX6_bargain_28 : Snd MX6_bargain 28 (xStI 30 4) := snd_istore (M := MX6_bargain) (pc := 28) dX6_bargain_28 (by decide)
theorem sX6_bargain_30 : Snd MX6_bargain 30 (xK 31 (nI 0)) := snd_iconst (M := MX6_bargain) (pc := 30) dX6_bargain_30 (by decide +kernel)
theorem sX6_bargain_31 : Snd MX6_bargain 31 (xStI 33 5) := snd_istore (M := MX6_bargain) (pc := 31) dX6_bargain_31 (by decide)
theorem sX6_bargain_33 : Snd MX6_bargain 33 (xLdI 35 5) := snd_iload (M := MX6_bargain) (pc := 33) dX6_bargain_33
theorem sX6_bargain_35 : Snd MX6_bargain 35 (xLdA 36 0) := snd_aload_n (M := MX6_bargain) (pc := 35) dX6_bargain_35
theorem sX6_bargain_36 : Snd MX6_bargain 36 (xGf 39 6 9) := snd_gf (M := MX6_bargain) (pc := 36) (C0 := RX6) (T0 := TX6) (N := 32) dX6_bargain_36 rfl tbX6 (by decide) w479
theorem sX6_bargain_39 : Snd MX6_bargain 39 (xC_ge 144 42) := snd_icmp_ge (M := MX6_bargain) (pc := 39) dX6_bargain_39 (by decide)
theorem sX6_bargain_42 : Snd MX6_bargain 42 (xLdI 43 1) := snd_iload_n (M := MX6_bargain) (pc := 42) dX6_bargain_42
theorem sX6_bargain_43 : Snd MX6_bargain 43 (xLdI 45 5) := snd_iload (M := MX6_bargain) (pc := 43) dX6_bargain_43
theorem sX6_bargain_45 : Snd MX6_bargain 45 (xCallS MX6_has 2 48) := snd_callS (M := MX6_bargain) (pc := 45) (n := 2) dX6_bargain_45 w530 w531 ⟨w462, w529, ⟨by decide, by decide, by decide +kernel⟩, by decide⟩ ⟨rfl, rfl⟩
theorem sX6_bargain_48 : Snd MX6_bargain 48 (xZ_eq 118 51) := snd_if_eq (M := MX6_bargain) (pc := 48) dX6_bargain_48 (by decide)
theorem sX6_bargain_51 : Snd MX6_bargain 51 (xLdA 52 0) := snd_aload_n (M := MX6_bargain) (pc := 51) dX6_bargain_51
theorem sX6_bargain_52 : Snd MX6_bargain 52 (xGf 55 6 11) := snd_gf (M := MX6_bargain) (pc := 52) (C0 := RX6) (T0 := TX6) (N := 32) dX6_bargain_52 rfl tbX6 (by decide) w449
theorem sX6_bargain_55 : Snd MX6_bargain 55 (xLdI 57 5) := snd_iload (M := MX6_bargain) (pc := 55) dX6_bargain_55
theorem sX6_bargain_57 : Snd MX6_bargain 57 (xiaload 58) := snd_iaload (M := MX6_bargain) (pc := 57) dX6_bargain_57
theorem sX6_bargain_58 : Snd MX6_bargain 58 (xLdA 59 0) := snd_aload_n (M := MX6_bargain) (pc := 58) dX6_bargain_58
theorem sX6_bargain_59 : Snd MX6_bargain 59 (xGf 62 6 11) := snd_gf (M := MX6_bargain) (pc := 59) (C0 := RX6) (T0 := TX6) (N := 32) dX6_bargain_59 rfl tbX6 (by decide) w449
theorem sX6_bargain_62 : Snd MX6_bargain 62 (xLdI 63 3) := snd_iload_n (M := MX6_bargain) (pc := 62) dX6_bargain_62
theorem sX6_bargain_63 : Snd MX6_bargain 63 (xiaload 64) := snd_iaload (M := MX6_bargain) (pc := 63) dX6_bargain_63
theorem sX6_bargain_64 : Snd MX6_bargain 64 (xC_lt 118 67) := snd_icmp_lt (M := MX6_bargain) (pc := 64) dX6_bargain_64 (by decide)
theorem sX6_bargain_67 : Snd MX6_bargain 67 (xLdA 68 0) := snd_aload_n (M := MX6_bargain) (pc := 67) dX6_bargain_67
theorem sX6_bargain_68 : Snd MX6_bargain 68 (xGf 71 6 12) := snd_gf (M := MX6_bargain) (pc := 68) (C0 := RX6) (T0 := TX6) (N := 32) dX6_bargain_68 rfl tbX6 (by decide) w450
theorem sX6_bargain_71 : Snd MX6_bargain 71 (xLdI 73 5) := snd_iload (M := MX6_bargain) (pc := 71) dX6_bargain_71
theorem sX6_bargain_73 : Snd MX6_bargain 73 (xiaload 74) := snd_iaload (M := MX6_bargain) (pc := 73) dX6_bargain_73
theorem sX6_bargain_74 : Snd MX6_bargain 74 (xLdA 75 0) := snd_aload_n (M := MX6_bargain) (pc := 74) dX6_bargain_74
theorem sX6_bargain_75 : Snd MX6_bargain 75 (xGf 78 6 12) := snd_gf (M := MX6_bargain) (pc := 75) (C0 := RX6) (T0 := TX6) (N := 32) dX6_bargain_75 rfl tbX6 (by decide) w450
theorem sX6_bargain_78 : Snd MX6_bargain 78 (xLdI 79 3) := snd_iload_n (M := MX6_bargain) (pc := 78) dX6_bargain_78
theorem sX6_bargain_79 : Snd MX6_bargain 79 (xiaload 80) := snd_iaload (M := MX6_bargain) (pc := 79) dX6_bargain_79
theorem sX6_bargain_80 : Snd MX6_bargain 80 (xC_lt 118 83) := snd_icmp_lt (M := MX6_bargain) (pc := 80) dX6_bargain_80 (by decide)
theorem sX6_bargain_83 : Snd MX6_bargain 83 (xLdA 84 0) := snd_aload_n (M := MX6_bargain) (pc := 83) dX6_bargain_83
theorem sX6_bargain_84 : Snd MX6_bargain 84 (xGf 87 6 11) := snd_gf (M := MX6_bargain) (pc := 84) (C0 := RX6) (T0 := TX6) (N := 32) dX6_bargain_84 rfl tbX6 (by decide) w449
theorem sX6_bargain_87 : Snd MX6_bargain 87 (xLdI 89 5) := snd_iload (M := MX6_bargain) (pc := 87) dX6_bargain_87
theorem sX6_bargain_89 : Snd MX6_bargain 89 (xiaload 90) := snd_iaload (M := MX6_bargain) (pc := 89) dX6_bargain_89
theorem sX6_bargain_90 : Snd MX6_bargain 90 (xLdA 91 0) := snd_aload_n (M := MX6_bargain) (pc := 90) dX6_bargain_90
theorem sX6_bargain_91 : Snd MX6_bargain 91 (xGf 94 6 12) := snd_gf (M := MX6_bargain) (pc := 91) (C0 := RX6) (T0 := TX6) (N := 32) dX6_bargain_91 rfl tbX6 (by decide) w450
theorem sX6_bargain_94 : Snd MX6_bargain 94 (xLdI 96 5) := snd_iload (M := MX6_bargain) (pc := 94) dX6_bargain_94
theorem sX6_bargain_96 : Snd MX6_bargain 96 (xiaload 97) := snd_iaload (M := MX6_bargain) (pc := 96) dX6_bargain_96
theorem sX6_bargain_97 : Snd MX6_bargain 97 (xBin 98 f_iadd) := snd_iadd (M := MX6_bargain) (pc := 97) dX6_bargain_97
theorem sX6_bargain_98 : Snd MX6_bargain 98 (xLdA 99 0) := snd_aload_n (M := MX6_bargain) (pc := 98) dX6_bargain_98
theorem sX6_bargain_99 : Snd MX6_bargain 99 (xGf 102 6 11) := snd_gf (M := MX6_bargain) (pc := 99) (C0 := RX6) (T0 := TX6) (N := 32) dX6_bargain_99 rfl tbX6 (by decide) w449
theorem sX6_bargain_102 : Snd MX6_bargain 102 (xLdI 103 3) := snd_iload_n (M := MX6_bargain) (pc := 102) dX6_bargain_102
theorem sX6_bargain_103 : Snd MX6_bargain 103 (xiaload 104) := snd_iaload (M := MX6_bargain) (pc := 103) dX6_bargain_103
theorem sX6_bargain_104 : Snd MX6_bargain 104 (xLdA 105 0) := snd_aload_n (M := MX6_bargain) (pc := 104) dX6_bargain_104
theorem sX6_bargain_105 : Snd MX6_bargain 105 (xGf 108 6 12) := snd_gf (M := MX6_bargain) (pc := 105) (C0 := RX6) (T0 := TX6) (N := 32) dX6_bargain_105 rfl tbX6 (by decide) w450
theorem sX6_bargain_108 : Snd MX6_bargain 108 (xLdI 109 3) := snd_iload_n (M := MX6_bargain) (pc := 108) dX6_bargain_108
theorem sX6_bargain_109 : Snd MX6_bargain 109 (xiaload 110) := snd_iaload (M := MX6_bargain) (pc := 109) dX6_bargain_109
theorem sX6_bargain_110 : Snd MX6_bargain 110 (xBin 111 f_iadd) := snd_iadd (M := MX6_bargain) (pc := 110) dX6_bargain_110
theorem sX6_bargain_111 : Snd MX6_bargain 111 (xC_le 118 114) := snd_icmp_le (M := MX6_bargain) (pc := 111) dX6_bargain_111 (by decide)
theorem sX6_bargain_114 : Snd MX6_bargain 114 (xK 115 (nI 1)) := snd_iconst (M := MX6_bargain) (pc := 114) dX6_bargain_114 (by decide +kernel)
theorem sX6_bargain_115 : Snd MX6_bargain 115 (xGo 119) := snd_goto (M := MX6_bargain) (pc := 115) dX6_bargain_115 (by decide)
theorem sX6_bargain_118 : Snd MX6_bargain 118 (xK 119 (nI 0)) := snd_iconst (M := MX6_bargain) (pc := 118) dX6_bargain_118 (by decide +kernel)
theorem sX6_bargain_119 : Snd MX6_bargain 119 (xStI 121 6) := snd_istore (M := MX6_bargain) (pc := 119) dX6_bargain_119 (by decide)
theorem sX6_bargain_121 : Snd MX6_bargain 121 (xLdI 123 4) := snd_iload (M := MX6_bargain) (pc := 121) dX6_bargain_121
theorem sX6_bargain_123 : Snd MX6_bargain 123 (xZ_eq 135 126) := snd_if_eq (M := MX6_bargain) (pc := 123) dX6_bargain_123 (by decide)
theorem sX6_bargain_126 : Snd MX6_bargain 126 (xLdI 128 6) := snd_iload (M := MX6_bargain) (pc := 126) dX6_bargain_126
theorem sX6_bargain_128 : Snd MX6_bargain 128 (xZ_ne 135 131) := snd_if_ne (M := MX6_bargain) (pc := 128) dX6_bargain_128 (by decide)
theorem sX6_bargain_131 : Snd MX6_bargain 131 (xK 132 (nI 1)) := snd_iconst (M := MX6_bargain) (pc := 131) dX6_bargain_131 (by decide +kernel)
theorem sX6_bargain_132 : Snd MX6_bargain 132 (xGo 136) := snd_goto (M := MX6_bargain) (pc := 132) dX6_bargain_132 (by decide)
theorem sX6_bargain_135 : Snd MX6_bargain 135 (xK 136 (nI 0)) := snd_iconst (M := MX6_bargain) (pc := 135) dX6_bargain_135 (by decide +kernel)
theorem sX6_bargain_136 : Snd MX6_bargain 136 (xStI 138 4) := snd_istore (M := MX6_bargain) (pc := 136) dX6_bargain_136 (by decide)
theorem sX6_bargain_138 : Snd MX6_bargain 138 (xInc 141 5 (nI 1)) := snd_iinc (M := MX6_bargain) (pc := 138) dX6_bargain_138 (by decide +kernel) (by decide)
theorem sX6_bargain_141 : Snd MX6_bargain 141 (xGo 33) := snd_goto (M := MX6_bargain) (pc := 141) dX6_bargain_141 (by decide)
theorem sX6_bargain_144 : Snd MX6_bargain 144 (xLdI 145 2) := snd_iload_n (M := MX6_bargain) (pc := 144) dX6_bargain_144
theorem sX6_bargain_145 : Snd MX6_bargain 145 (xLdI 147 4) := snd_iload (M := MX6_bargain) (pc := 145) dX6_bargain_145
theorem sX6_bargain_147 : Snd MX6_bargain 147 (xZ_eq 156 150) := snd_if_eq (M := MX6_bargain) (pc := 147) dX6_bargain_147 (by decide)
theorem sX6_bargain_150 : Snd MX6_bargain 150 (xK 151 (nI 1)) := snd_iconst (M := MX6_bargain) (pc := 150) dX6_bargain_150 (by decide +kernel)
theorem sX6_bargain_151 : Snd MX6_bargain 151 (xLdI 152 3) := snd_iload_n (M := MX6_bargain) (pc := 151) dX6_bargain_151
theorem sX6_bargain_152 : Snd MX6_bargain 152 (xBin 153 f_ishl) := snd_ishl (M := MX6_bargain) (pc := 152) dX6_bargain_152
theorem sX6_bargain_153 : Snd MX6_bargain 153 (xGo 157) := snd_goto (M := MX6_bargain) (pc := 153) dX6_bargain_153 (by decide)
theorem sX6_bargain_156 : Snd MX6_bargain 156 (xK 157 (nI 0)) := snd_iconst (M := MX6_bargain) (pc := 156) dX6_bargain_156 (by decide +kernel)
theorem sX6_bargain_157 : Snd MX6_bargain 157 (xBin 158 f_ior) := snd_ior (M := MX6_bargain) (pc := 157) dX6_bargain_157
theorem sX6_bargain_158 : Snd MX6_bargain 158 (xStI 159 2) := snd_istore_n (M := MX6_bargain) (pc := 158) dX6_bargain_158 (by decide)
theorem sX6_bargain_159 : Snd MX6_bargain 159 (xInc 162 3 (nI 1)) := snd_iinc (M := MX6_bargain) (pc := 159) dX6_bargain_159 (by decide +kernel) (by decide)
theorem sX6_bargain_162 : Snd MX6_bargain 162 (xGo 15) := snd_goto (M := MX6_bargain) (pc := 162) dX6_bargain_162 (by decide)
theorem sX6_bargain_165 : Snd MX6_bargain 165 (xLdI 166 2) := snd_iload_n (M := MX6_bargain) (pc := 165) dX6_bargain_165
theorem sX6_bargain_166 : Snd MX6_bargain 166 (xRet) := snd_iret (M := MX6_bargain) (pc := 166) dX6_bargain_166 rfl
theorem VX6_bargain : Valid MX6_bargain LX6_bargain := va_lid sX6_bargain_0 (va_lid sX6_bargain_1 (va_lid sX6_bargain_2 (va_lid sX6_bargain_5 (va_lid sX6_bargain_6 (va_lid sX6_bargain_7 (va_lid sX6_bargain_10 (va_lid sX6_bargain_11 (va_lid sX6_bargain_12 (va_lid sX6_bargain_13 (va_lid sX6_bargain_14 (va_lid sX6_bargain_15 (va_lid sX6_bargain_16 (va_lid sX6_bargain_17 (va_lid sX6_bargain_20 (va_lid sX6_bargain_23 (va_lid sX6_bargain_24 (va_lid sX6_bargain_25 (va_lid sX6_bargain_28 (va_lid sX6_bargain_30 (va_lid sX6_bargain_31 (va_lid sX6_bargain_33 (va_lid sX6_bargain_35 (va_lid sX6_bargain_36 (va_lid sX6_bargain_39 (va_lid sX6_bargain_42 (va_lid sX6_bargain_43 (va_lid sX6_bargain_45 (va_lid sX6_bargain_48 (va_lid sX6_bargain_51 (va_lid sX6_bargain_52 (va_lid sX6_bargain_55 (va_lid sX6_bargain_57 (va_lid sX6_bargain_58 (va_lid sX6_bargain_59 (va_lid sX6_bargain_62 (va_lid sX6_bargain_63 (va_lid sX6_bargain_64 (va_lid sX6_bargain_67 (va_lid sX6_bargain_68 (va_lid sX6_bargain_71 (va_lid sX6_bargain_73 (va_lid sX6_bargain_74 (va_lid sX6_bargain_75 (va_lid sX6_bargain_78 (va_lid sX6_bargain_79 (va_lid sX6_bargain_80 (va_lid sX6_bargain_83 (va_lid sX6_bargain_84 (va_lid sX6_bargain_87 (va_lid sX6_bargain_89 (va_lid sX6_bargain_90 (va_lid sX6_bargain_91 (va_lid sX6_bargain_94 (va_lid sX6_bargain_96 (va_lid sX6_bargain_97 (va_lid sX6_bargain_98 (va_lid sX6_bargain_99 (va_lid sX6_bargain_102 (va_lid sX6_bargain_103 (va_lid sX6_bargain_104 (va_lid sX6_bargain_105 (va_lid sX6_bargain_108 (va_lid sX6_bargain_109 (va_lid sX6_bargain_110 (va_lid sX6_bargain_111 (va_lid sX6_bargain_114 (va_lid sX6_bargain_115 (va_lid sX6_bargain_118 (va_lid sX6_bargain_119 (va_lid sX6_bargain_121 (va_lid sX6_bargain_123 (va_lid sX6_bargain_126 (va_lid sX6_bargain_128 (va_lid sX6_bargain_131 (va_lid sX6_bargain_132 (va_lid sX6_bargain_135 (va_lid sX6_bargain_136 (va_lid sX6_bargain_138 (va_lid sX6_bargain_141 (va_lid sX6_bargain_144 (va_lid sX6_bargain_145 (va_lid sX6_bargain_147 (va_lid sX6_bargain_150 (va_lid sX6_bargain_151 (va_lid sX6_bargain_152 (va_lid sX6_bargain_153 (va_lid sX6_bargain_156 (va_lid sX6_bargain_157 (va_lid sX6_bargain_158 (va_lid sX6_bargain_159 (va_lid sX6_bargain_162 (va_lid sX6_bargain_165 (va_lid sX6_bargain_166 (va_lid0))))))))))))))))))))))))))))))))))))))))))))))))))))))))))))))))))))))))))))))))))))))))))))))
theorem kX6_bargain_0 : lk LX6_bargain 0 = some (xLdA 1 0) := rfl
theorem kX6_bargain_1 : lk LX6_bargain 1 = some (xLdA 2 0) := rfl
theorem kX6_bargain_2 : lk LX6_bargain 2 = some (xGf 5 6 0) := rfl
theorem kX6_bargain_5 : lk LX6_bargain 5 = some (xK 6 (nI 2)) := rfl
theorem kX6_bargain_6 : lk LX6_bargain 6 = some (xiaload 7) := rfl
theorem kX6_bargain_7 : lk LX6_bargain 7 = some (xCallV MX6_livesBy 6 1 10) := rfl
theorem kX6_bargain_10 : lk LX6_bargain 10 = some (xStI 11 1) := rfl
theorem kX6_bargain_11 : lk LX6_bargain 11 = some (xK 12 (nI 0)) := rfl
theorem kX6_bargain_12 : lk LX6_bargain 12 = some (xStI 13 2) := rfl
theorem kX6_bargain_13 : lk LX6_bargain 13 = some (xK 14 (nI 0)) := rfl
theorem kX6_bargain_14 : lk LX6_bargain 14 = some (xStI 15 3) := rfl
theorem kX6_bargain_15 : lk LX6_bargain 15 = some (xLdI 16 3) := rfl
theorem kX6_bargain_16 : lk LX6_bargain 16 = some (xLdA 17 0) := rfl
theorem kX6_bargain_17 : lk LX6_bargain 17 = some (xGf 20 6 9) := rfl
theorem kX6_bargain_20 : lk LX6_bargain 20 = some (xC_ge 165 23) := rfl
theorem kX6_bargain_23 : lk LX6_bargain 23 = some (xLdI 24 1) := rfl
theorem kX6_bargain_24 : lk LX6_bargain 24 = some (xLdI 25 3) := rfl
theorem kX6_bargain_25 : lk LX6_bargain 25 = some (xCallS MX6_has 2 28) := rfl
theorem kX6_bargain_28 : lk LX6_bargain 28 = some (xStI 30 4) := rfl
theorem kX6_bargain_30 : lk LX6_bargain 30 = some (xK 31 (nI 0)) := rfl
theorem kX6_bargain_31 : lk LX6_bargain 31 = some (xStI 33 5) := rfl
theorem kX6_bargain_33 : lk LX6_bargain 33 = some (xLdI 35 5) := rfl
theorem kX6_bargain_35 : lk LX6_bargain 35 = some (xLdA 36 0) := rfl
theorem kX6_bargain_36 : lk LX6_bargain 36 = some (xGf 39 6 9) := rfl
theorem kX6_bargain_39 : lk LX6_bargain 39 = some (xC_ge 144 42) := rfl
theorem kX6_bargain_42 : lk LX6_bargain 42 = some (xLdI 43 1) := rfl
theorem kX6_bargain_43 : lk LX6_bargain 43 = some (xLdI 45 5) := rfl
theorem kX6_bargain_45 : lk LX6_bargain 45 = some (xCallS MX6_has 2 48) := rfl
theorem kX6_bargain_48 : lk LX6_bargain 48 = some (xZ_eq 118 51) := rfl
theorem kX6_bargain_51 : lk LX6_bargain 51 = some (xLdA 52 0) := rfl
theorem kX6_bargain_52 : lk LX6_bargain 52 = some (xGf 55 6 11) := rfl
theorem kX6_bargain_55 : lk LX6_bargain 55 = some (xLdI 57 5) := rfl
theorem kX6_bargain_57 : lk LX6_bargain 57 = some (xiaload 58) := rfl
theorem kX6_bargain_58 : lk LX6_bargain 58 = some (xLdA 59 0) := rfl
theorem kX6_bargain_59 : lk LX6_bargain 59 = some (xGf 62 6 11) := rfl
theorem kX6_bargain_62 : lk LX6_bargain 62 = some (xLdI 63 3) := rfl
theorem kX6_bargain_63 : lk LX6_bargain 63 = some (xiaload 64) := rfl
theorem kX6_bargain_64 : lk LX6_bargain 64 = some (xC_lt 118 67) := rfl
theorem kX6_bargain_67 : lk LX6_bargain 67 = some (xLdA 68 0) := rfl
theorem kX6_bargain_68 : lk LX6_bargain 68 = some (xGf 71 6 12) := rfl
theorem kX6_bargain_71 : lk LX6_bargain 71 = some (xLdI 73 5) := rfl
theorem kX6_bargain_73 : lk LX6_bargain 73 = some (xiaload 74) := rfl
theorem kX6_bargain_74 : lk LX6_bargain 74 = some (xLdA 75 0) := rfl
theorem kX6_bargain_75 : lk LX6_bargain 75 = some (xGf 78 6 12) := rfl
theorem kX6_bargain_78 : lk LX6_bargain 78 = some (xLdI 79 3) := rfl
theorem kX6_bargain_79 : lk LX6_bargain 79 = some (xiaload 80) := rfl
theorem kX6_bargain_80 : lk LX6_bargain 80 = some (xC_lt 118 83) := rfl
theorem kX6_bargain_83 : lk LX6_bargain 83 = some (xLdA 84 0) := rfl
theorem kX6_bargain_84 : lk LX6_bargain 84 = some (xGf 87 6 11) := rfl
theorem kX6_bargain_87 : lk LX6_bargain 87 = some (xLdI 89 5) := rfl
theorem kX6_bargain_89 : lk LX6_bargain 89 = some (xiaload 90) := rfl
theorem kX6_bargain_90 : lk LX6_bargain 90 = some (xLdA 91 0) := rfl
theorem kX6_bargain_91 : lk LX6_bargain 91 = some (xGf 94 6 12) := rfl
theorem kX6_bargain_94 : lk LX6_bargain 94 = some (xLdI 96 5) := rfl
theorem kX6_bargain_96 : lk LX6_bargain 96 = some (xiaload 97) := rfl
theorem kX6_bargain_97 : lk LX6_bargain 97 = some (xBin 98 f_iadd) := rfl
theorem kX6_bargain_98 : lk LX6_bargain 98 = some (xLdA 99 0) := rfl
theorem kX6_bargain_99 : lk LX6_bargain 99 = some (xGf 102 6 11) := rfl
theorem kX6_bargain_102 : lk LX6_bargain 102 = some (xLdI 103 3) := rfl
theorem kX6_bargain_103 : lk LX6_bargain 103 = some (xiaload 104) := rfl
theorem kX6_bargain_104 : lk LX6_bargain 104 = some (xLdA 105 0) := rfl
theorem kX6_bargain_105 : lk LX6_bargain 105 = some (xGf 108 6 12) := rfl
theorem kX6_bargain_108 : lk LX6_bargain 108 = some (xLdI 109 3) := rfl
theorem kX6_bargain_109 : lk LX6_bargain 109 = some (xiaload 110) := rfl
theorem kX6_bargain_110 : lk LX6_bargain 110 = some (xBin 111 f_iadd) := rfl
theorem kX6_bargain_111 : lk LX6_bargain 111 = some (xC_le 118 114) := rfl
theorem kX6_bargain_114 : lk LX6_bargain 114 = some (xK 115 (nI 1)) := rfl
theorem kX6_bargain_115 : lk LX6_bargain 115 = some (xGo 119) := rfl
theorem kX6_bargain_118 : lk LX6_bargain 118 = some (xK 119 (nI 0)) := rfl
theorem kX6_bargain_119 : lk LX6_bargain 119 = some (xStI 121 6) := rfl
theorem kX6_bargain_121 : lk LX6_bargain 121 = some (xLdI 123 4) := rfl
theorem kX6_bargain_123 : lk LX6_bargain 123 = some (xZ_eq 135 126) := rfl
theorem kX6_bargain_126 : lk LX6_bargain 126 = some (xLdI 128 6) := rfl
theorem kX6_bargain_128 : lk LX6_bargain 128 = some (xZ_ne 135 131) := rfl
theorem kX6_bargain_131 : lk LX6_bargain 131 = some (xK 132 (nI 1)) := rfl
theorem kX6_bargain_132 : lk LX6_bargain 132 = some (xGo 136) := rfl
theorem kX6_bargain_135 : lk LX6_bargain 135 = some (xK 136 (nI 0)) := rfl
theorem kX6_bargain_136 : lk LX6_bargain 136 = some (xStI 138 4) := rfl
theorem kX6_bargain_138 : lk LX6_bargain 138 = some (xInc 141 5 (nI 1)) := rfl
theorem kX6_bargain_141 : lk LX6_bargain 141 = some (xGo 33) := rfl
set_option maxRecDepth 20000 in
theorem kX6_bargain_144 : lk LX6_bargain 144 = some (xLdI 145 2) := rfl
set_option maxRecDepth 20000 in
theorem kX6_bargain_145 : lk LX6_bargain 145 = some (xLdI 147 4) := rfl
set_option maxRecDepth 20000 in
theorem kX6_bargain_147 : lk LX6_bargain 147 = some (xZ_eq 156 150) := rfl
set_option maxRecDepth 20000 in
theorem kX6_bargain_150 : lk LX6_bargain 150 = some (xK 151 (nI 1)) := rfl
set_option maxRecDepth 20000 in
theorem kX6_bargain_151 : lk LX6_bargain 151 = some (xLdI 152 3) := rfl
set_option maxRecDepth 20000 in
theorem kX6_bargain_152 : lk LX6_bargain 152 = some (xBin 153 f_ishl) := rfl
set_option maxRecDepth 20000 in
theorem kX6_bargain_153 : lk LX6_bargain 153 = some (xGo 157) := rfl
set_option maxRecDepth 20000 in
theorem kX6_bargain_156 : lk LX6_bargain 156 = some (xK 157 (nI 0)) := rfl
set_option maxRecDepth 20000 in
theorem kX6_bargain_157 : lk LX6_bargain 157 = some (xBin 158 f_ior) := rfl
set_option maxRecDepth 20000 in
theorem kX6_bargain_158 : lk LX6_bargain 158 = some (xStI 159 2) := rfl
set_option maxRecDepth 20000 in
theorem kX6_bargain_159 : lk LX6_bargain 159 = some (xInc 162 3 (nI 1)) := rfl
set_option maxRecDepth 20000 in
theorem kX6_bargain_162 : lk LX6_bargain 162 = some (xGo 15) := rfl
set_option maxRecDepth 20000 in
theorem kX6_bargain_165 : lk LX6_bargain 165 = some (xLdI 166 2) := rfl
set_option maxRecDepth 20000 in
theorem kX6_bargain_166 : lk LX6_bargain 166 = some (xRet) := rfl
def LX6_talk : List (Nat × XI) := [(0, xLdI 1 1),
  (1, xI2l 2),
  (2, xKL 3 (lN 0)),
  (3, xKL 4 (lN 1)),
  (4, xCallS MX6_in 3 7),
  (7, xZ_ne 12 10),
  (10, xK 11 ((-1))),
  (11, xRet),
  (12, xLdA 13 0),
  (13, xLdA 14 0),
  (14, xGf 17 6 0),
  (17, xK 18 (nI 2)),
  (18, xiaload 19),
  (19, xCallV MX6_livesBy 6 1 22),
  (22, xStI 23 2),
  (23, xLdI 24 2),
  (24, xCallS MX6_ones 1 27),
  (27, xStI 28 3),
  (28, xLdI 29 3),
  (29, xZ_ne 35 32),
  (32, xK 34 ((-4))),
  (34, xRet),
  (35, xK 36 (nI 1)),
  (36, xStI 38 4),
  (38, xLdI 40 4),
  (40, xK 42 (nI 64)),
  (42, xC_ge 279 45),
  (45, xLdA 46 0),
  (46, xGf 49 6 30),
  (49, xLdI 51 4),
  (51, xK 53 ((-4))),
  (53, xiastore 54),
  (54, xLdA 55 0),
  (55, xGf 58 6 31),
  (58, xLdI 60 4),
  (60, xK 62 ((-4))),
  (62, xiastore 63),
  (63, xLdI 64 3),
  (64, xLdI 66 4),
  (66, xCallS MX6_ones 1 69),
  (69, xBin 70 f_isub),
  (70, xK 71 (nI 2)),
  (71, xDiv 72 f_irem),
  (72, xZ_ne 79 75),
  (75, xK 76 (nI 1)),
  (76, xGo 80),
  (79, xK 80 (nI 0)),
  (80, xStI 82 5),
  (82, xK 83 (nI 0)),
  (83, xStI 85 6),
  (85, xLdI 87 6),
  (87, xK 89 (nI 6)),
  (89, xC_ge 273 92),
  (92, xLdI 94 4),
  (94, xLdI 96 6),
  (96, xCallS MX6_has 2 99),
  (99, xZ_eq 267 102),
  (102, xLdI 104 4),
  (104, xLdI 105 2),
  (105, xK 106 ((-1))),
  (106, xBin 107 f_ixor),
  (107, xBin 108 f_iand),
  (108, xZ_ne 267 111),
  (111, xLdI 113 4),
  (113, xCallS MX6_ones 1 116),
  (116, xK 117 (nI 1)),
  (117, xC_ne 125 120),
  (120, xLdI 122 6),
  (122, xGo 139),
  (125, xLdA 126 0),
  (126, xGf 129 6 30),
  (129, xLdI 131 4),
  (131, xK 132 (nI 1)),
  (132, xLdI 134 6),
  (134, xBin 135 f_ishl),
  (135, xK 136 ((-1))),
  (136, xBin 137 f_ixor),
  (137, xBin 138 f_iand),
  (138, xiaload 139),
  (139, xStI 141 7),
  (141, xLdI 143 5),
  (143, xZ_eq 156 146),
  (146, xLdA 147 0),
  (147, xGf 150 6 11),
  (150, xLdI 152 7),
  (152, xiaload 153),
  (153, xGo 163),
  (156, xLdA 157 0),
  (157, xGf 160 6 12),
  (160, xLdI 162 7),
  (162, xiaload 163),
  (163, xStI 165 8),
  (165, xLdA 166 0),
  (166, xGf 169 6 30),
  (169, xLdI 171 4),
  (171, xiaload 172),
  (172, xK 174 ((-4))),
  (174, xC_ne 181 177),
  (177, xK 178 ((-1))),
  (178, xGo 213),
  (181, xLdI 183 5),
  (183, xZ_eq 201 186),
  (186, xLdA 187 0),
  (187, xGf 190 6 11),
  (190, xLdA 191 0),
  (191, xGf 194 6 30),
  (194, xLdI 196 4),
  (196, xiaload 197),
  (197, xiaload 198),
  (198, xGo 213),
  (201, xLdA 202 0),
  (202, xGf 205 6 12),
  (205, xLdA 206 0),
  (206, xGf 209 6 30),
  (209, xLdI 211 4),
  (211, xiaload 212),
  (212, xiaload 213),
  (213, xStI 215 9),
  (215, xLdA 216 0),
  (216, xGf 219 6 31),
  (219, xLdI 221 4),
  (221, xLdI 223 8),
  (223, xLdI 225 9),
  (225, xC_le 233 228),
  (228, xLdI 230 6),
  (230, xGo 240),
  (233, xLdA 234 0),
  (234, xGf 237 6 31),
  (237, xLdI 239 4),
  (239, xiaload 240),
  (240, xiastore 241),
  (241, xLdA 242 0),
  (242, xGf 245 6 30),
  (245, xLdI 247 4),
  (247, xLdI 249 8),
  (249, xLdI 251 9),
  (251, xC_le 259 254),
  (254, xLdI 256 7),
  (256, xGo 266),
  (259, xLdA 260 0),
  (260, xGf 263 6 30),
  (263, xLdI 265 4),
  (265, xiaload 266),
  (266, xiastore 267),
  (267, xInc 270 6 (nI 1)),
  (270, xGo 85),
  (273, xInc 276 4 (nI 1)),
  (276, xGo 38),
  (279, xLdI 280 1),
  (280, xZ_ne 292 283),
  (283, xLdA 284 0),
  (284, xGf 287 6 30),
  (287, xLdI 288 2),
  (288, xiaload 289),
  (289, xGo 308),
  (292, xLdI 293 3),
  (293, xK 294 (nI 1)),
  (294, xC_ne 302 297),
  (297, xK 299 ((-4))),
  (299, xGo 308),
  (302, xLdA 303 0),
  (303, xGf 306 6 31),
  (306, xLdI 307 2),
  (307, xiaload 308),
  (308, xRet)]
theorem sX6_talk_0 : Snd MX6_talk 0 (xLdI 1 1) := snd_iload_n (M := MX6_talk) (pc := 0) dX6_talk_0
theorem sX6_talk_1 : Snd MX6_talk 1 (xI2l 2) := snd_i2l (M := MX6_talk) (pc := 1) dX6_talk_1
theorem sX6_talk_2 : Snd MX6_talk 2 (xKL 3 (lN 0)) := snd_lconst (M := MX6_talk) (pc := 2) dX6_talk_2 rfl
theorem sX6_talk_3 : Snd MX6_talk 3 (xKL 4 (lN 1)) := snd_lconst (M := MX6_talk) (pc := 3) dX6_talk_3 rfl
theorem sX6_talk_4 : Snd MX6_talk 4 (xCallS MX6_in 3 7) := snd_callS (M := MX6_talk) (pc := 4) (n := 3) dX6_talk_4 w477 w478 ⟨w462, w476, ⟨by decide, by decide, by decide +kernel⟩, by decide⟩ ⟨rfl, rfl⟩
theorem sX6_talk_7 : Snd MX6_talk 7 (xZ_ne 12 10) := snd_if_ne (M := MX6_talk) (pc := 7) dX6_talk_7 (by decide)
theorem sX6_talk_10 : Snd MX6_talk 10 (xK 11 ((-1))) := snd_iconst (M := MX6_talk) (pc := 10) dX6_talk_10 (by decide +kernel)
theorem sX6_talk_11 : Snd MX6_talk 11 (xRet) := snd_iret (M := MX6_talk) (pc := 11) dX6_talk_11 rfl
theorem sX6_talk_12 : Snd MX6_talk 12 (xLdA 13 0) := snd_aload_n (M := MX6_talk) (pc := 12) dX6_talk_12
theorem sX6_talk_13 : Snd MX6_talk 13 (xLdA 14 0) := snd_aload_n (M := MX6_talk) (pc := 13) dX6_talk_13
theorem sX6_talk_14 : Snd MX6_talk 14 (xGf 17 6 0) := snd_gf (M := MX6_talk) (pc := 14) (C0 := RX6) (T0 := TX6) (N := 32) dX6_talk_14 rfl tbX6 (by decide) w444
theorem sX6_talk_17 : Snd MX6_talk 17 (xK 18 (nI 2)) := snd_iconst (M := MX6_talk) (pc := 17) dX6_talk_17 (by decide +kernel)
theorem sX6_talk_18 : Snd MX6_talk 18 (xiaload 19) := snd_iaload (M := MX6_talk) (pc := 18) dX6_talk_18
theorem sX6_talk_19 : Snd MX6_talk 19 (xCallV MX6_livesBy 6 1 22) := snd_callV (M := MX6_talk) (pc := 19) (n := 1) dX6_talk_19 rfl w614 w615 w616 ⟨w462, w613, ⟨by decide, by decide, by decide +kernel⟩, by decide⟩ ⟨rfl, rfl⟩
theorem sX6_talk_22 : Snd MX6_talk 22 (xStI 23 2) := snd_istore_n (M := MX6_talk) (pc := 22) dX6_talk_22 (by decide)
theorem sX6_talk_23 : Snd MX6_talk 23 (xLdI 24 2) := snd_iload_n (M := MX6_talk) (pc := 23) dX6_talk_23
theorem sX6_talk_24 : Snd MX6_talk 24 (xCallS MX6_ones 1 27) := snd_callS (M := MX6_talk) (pc := 24) (n := 1) dX6_talk_24 w533 w534 ⟨w462, w532, ⟨by decide, by decide, by decide +kernel⟩, by decide⟩ ⟨rfl, rfl⟩
theorem sX6_talk_27 : Snd MX6_talk 27 (xStI 28 3) := snd_istore_n (M := MX6_talk) (pc := 27) dX6_talk_27 (by decide)
theorem sX6_talk_28 : Snd MX6_talk 28 (xLdI 29 3) := snd_iload_n (M := MX6_talk) (pc := 28) dX6_talk_28
theorem sX6_talk_29 : Snd MX6_talk 29 (xZ_ne 35 32) := snd_if_ne (M := MX6_talk) (pc := 29) dX6_talk_29 (by decide)
theorem sX6_talk_32 : Snd MX6_talk 32 (xK 34 ((-4))) := snd_bipush (M := MX6_talk) (pc := 32) dX6_talk_32 (by decide +kernel)
theorem sX6_talk_34 : Snd MX6_talk 34 (xRet) := snd_iret (M := MX6_talk) (pc := 34) dX6_talk_34 rfl
theorem sX6_talk_35 : Snd MX6_talk 35 (xK 36 (nI 1)) := snd_iconst (M := MX6_talk) (pc := 35) dX6_talk_35 (by decide +kernel)
theorem sX6_talk_36 : Snd MX6_talk 36 (xStI 38 4) := snd_istore (M := MX6_talk) (pc := 36) dX6_talk_36 (by decide)
theorem sX6_talk_38 : Snd MX6_talk 38 (xLdI 40 4) := snd_iload (M := MX6_talk) (pc := 38) dX6_talk_38
theorem sX6_talk_40 : Snd MX6_talk 40 (xK 42 (nI 64)) := snd_bipush (M := MX6_talk) (pc := 40) dX6_talk_40 (by decide +kernel)
theorem sX6_talk_42 : Snd MX6_talk 42 (xC_ge 279 45) := snd_icmp_ge (M := MX6_talk) (pc := 42) dX6_talk_42 (by decide)
theorem sX6_talk_45 : Snd MX6_talk 45 (xLdA 46 0) := snd_aload_n (M := MX6_talk) (pc := 45) dX6_talk_45
theorem sX6_talk_46 : Snd MX6_talk 46 (xGf 49 6 30) := snd_gf (M := MX6_talk) (pc := 46) (C0 := RX6) (T0 := TX6) (N := 32) dX6_talk_46 rfl tbX6 (by decide) w458
theorem sX6_talk_49 : Snd MX6_talk 49 (xLdI 51 4) := snd_iload (M := MX6_talk) (pc := 49) dX6_talk_49
theorem sX6_talk_51 : Snd MX6_talk 51 (xK 53 ((-4))) := snd_bipush (M := MX6_talk) (pc := 51) dX6_talk_51 (by decide +kernel)
theorem sX6_talk_53 : Snd MX6_talk 53 (xiastore 54) := snd_iastore (M := MX6_talk) (pc := 53) dX6_talk_53
theorem sX6_talk_54 : Snd MX6_talk 54 (xLdA 55 0) := snd_aload_n (M := MX6_talk) (pc := 54) dX6_talk_54
theorem sX6_talk_55 : Snd MX6_talk 55 (xGf 58 6 31) := snd_gf (M := MX6_talk) (pc := 55) (C0 := RX6) (T0 := TX6) (N := 32) dX6_talk_55 rfl tbX6 (by decide) w459
theorem sX6_talk_58 : Snd MX6_talk 58 (xLdI 60 4) := snd_iload (M := MX6_talk) (pc := 58) dX6_talk_58
theorem sX6_talk_60 : Snd MX6_talk 60 (xK 62 ((-4))) := snd_bipush (M := MX6_talk) (pc := 60) dX6_talk_60 (by decide +kernel)
theorem sX6_talk_62 : Snd MX6_talk 62 (xiastore 63) := snd_iastore (M := MX6_talk) (pc := 62) dX6_talk_62
theorem sX6_talk_63 : Snd MX6_talk 63 (xLdI 64 3) := snd_iload_n (M := MX6_talk) (pc := 63) dX6_talk_63
theorem sX6_talk_64 : Snd MX6_talk 64 (xLdI 66 4) := snd_iload (M := MX6_talk) (pc := 64) dX6_talk_64
theorem sX6_talk_66 : Snd MX6_talk 66 (xCallS MX6_ones 1 69) := snd_callS (M := MX6_talk) (pc := 66) (n := 1) dX6_talk_66 w533 w534 ⟨w462, w532, ⟨by decide, by decide, by decide +kernel⟩, by decide⟩ ⟨rfl, rfl⟩
theorem sX6_talk_69 : Snd MX6_talk 69 (xBin 70 f_isub) := snd_isub (M := MX6_talk) (pc := 69) dX6_talk_69
theorem sX6_talk_70 : Snd MX6_talk 70 (xK 71 (nI 2)) := snd_iconst (M := MX6_talk) (pc := 70) dX6_talk_70 (by decide +kernel)
theorem sX6_talk_71 : Snd MX6_talk 71 (xDiv 72 f_irem) := snd_irem (M := MX6_talk) (pc := 71) dX6_talk_71
theorem sX6_talk_72 : Snd MX6_talk 72 (xZ_ne 79 75) := snd_if_ne (M := MX6_talk) (pc := 72) dX6_talk_72 (by decide)
theorem sX6_talk_75 : Snd MX6_talk 75 (xK 76 (nI 1)) := snd_iconst (M := MX6_talk) (pc := 75) dX6_talk_75 (by decide +kernel)
theorem sX6_talk_76 : Snd MX6_talk 76 (xGo 80) := snd_goto (M := MX6_talk) (pc := 76) dX6_talk_76 (by decide)
theorem sX6_talk_79 : Snd MX6_talk 79 (xK 80 (nI 0)) := snd_iconst (M := MX6_talk) (pc := 79) dX6_talk_79 (by decide +kernel)
theorem sX6_talk_80 : Snd MX6_talk 80 (xStI 82 5) := snd_istore (M := MX6_talk) (pc := 80) dX6_talk_80 (by decide)
theorem sX6_talk_82 : Snd MX6_talk 82 (xK 83 (nI 0)) := snd_iconst (M := MX6_talk) (pc := 82) dX6_talk_82 (by decide +kernel)
theorem sX6_talk_83 : Snd MX6_talk 83 (xStI 85 6) := snd_istore (M := MX6_talk) (pc := 83) dX6_talk_83 (by decide)
theorem sX6_talk_85 : Snd MX6_talk 85 (xLdI 87 6) := snd_iload (M := MX6_talk) (pc := 85) dX6_talk_85
theorem sX6_talk_87 : Snd MX6_talk 87 (xK 89 (nI 6)) := snd_bipush (M := MX6_talk) (pc := 87) dX6_talk_87 (by decide +kernel)
theorem sX6_talk_89 : Snd MX6_talk 89 (xC_ge 273 92) := snd_icmp_ge (M := MX6_talk) (pc := 89) dX6_talk_89 (by decide)
theorem sX6_talk_92 : Snd MX6_talk 92 (xLdI 94 4) := snd_iload (M := MX6_talk) (pc := 92) dX6_talk_92
theorem sX6_talk_94 : Snd MX6_talk 94 (xLdI 96 6) := snd_iload (M := MX6_talk) (pc := 94) dX6_talk_94
theorem sX6_talk_96 : Snd MX6_talk 96 (xCallS MX6_has 2 99) := snd_callS (M := MX6_talk) (pc := 96) (n := 2) dX6_talk_96 w530 w531 ⟨w462, w529, ⟨by decide, by decide, by decide +kernel⟩, by decide⟩ ⟨rfl, rfl⟩
theorem sX6_talk_99 : Snd MX6_talk 99 (xZ_eq 267 102) := snd_if_eq (M := MX6_talk) (pc := 99) dX6_talk_99 (by decide)
theorem sX6_talk_102 : Snd MX6_talk 102 (xLdI 104 4) := snd_iload (M := MX6_talk) (pc := 102) dX6_talk_102
theorem sX6_talk_104 : Snd MX6_talk 104 (xLdI 105 2) := snd_iload_n (M := MX6_talk) (pc := 104) dX6_talk_104
theorem sX6_talk_105 : Snd MX6_talk 105 (xK 106 ((-1))) := snd_iconst (M := MX6_talk) (pc := 105) dX6_talk_105 (by decide +kernel)
theorem sX6_talk_106 : Snd MX6_talk 106 (xBin 107 f_ixor) := snd_ixor (M := MX6_talk) (pc := 106) dX6_talk_106
theorem sX6_talk_107 : Snd MX6_talk 107 (xBin 108 f_iand) := snd_iand (M := MX6_talk) (pc := 107) dX6_talk_107
theorem sX6_talk_108 : Snd MX6_talk 108 (xZ_ne 267 111) := snd_if_ne (M := MX6_talk) (pc := 108) dX6_talk_108 (by decide)
theorem sX6_talk_111 : Snd MX6_talk 111 (xLdI 113 4) := snd_iload (M := MX6_talk) (pc := 111) dX6_talk_111
theorem sX6_talk_113 : Snd MX6_talk 113 (xCallS MX6_ones 1 116) := snd_callS (M := MX6_talk) (pc := 113) (n := 1) dX6_talk_113 w533 w534 ⟨w462, w532, ⟨by decide, by decide, by decide +kernel⟩, by decide⟩ ⟨rfl, rfl⟩
theorem sX6_talk_116 : Snd MX6_talk 116 (xK 117 (nI 1)) := snd_iconst (M := MX6_talk) (pc := 116) dX6_talk_116 (by decide +kernel)
theorem sX6_talk_117 : Snd MX6_talk 117 (xC_ne 125 120) := snd_icmp_ne (M := MX6_talk) (pc := 117) dX6_talk_117 (by decide)
theorem sX6_talk_120 : Snd MX6_talk 120 (xLdI 122 6) := snd_iload (M := MX6_talk) (pc := 120) dX6_talk_120
theorem sX6_talk_122 : Snd MX6_talk 122 (xGo 139) := snd_goto (M := MX6_talk) (pc := 122) dX6_talk_122 (by decide)
theorem sX6_talk_125 : Snd MX6_talk 125 (xLdA 126 0) := snd_aload_n (M := MX6_talk) (pc := 125) dX6_talk_125
theorem sX6_talk_126 : Snd MX6_talk 126 (xGf 129 6 30) := snd_gf (M := MX6_talk) (pc := 126) (C0 := RX6) (T0 := TX6) (N := 32) dX6_talk_126 rfl tbX6 (by decide) w458
theorem sX6_talk_129 : Snd MX6_talk 129 (xLdI 131 4) := snd_iload (M := MX6_talk) (pc := 129) dX6_talk_129
theorem sX6_talk_131 : Snd MX6_talk 131 (xK 132 (nI 1)) := snd_iconst (M := MX6_talk) (pc := 131) dX6_talk_131 (by decide +kernel)
theorem sX6_talk_132 : Snd MX6_talk 132 (xLdI 134 6) := snd_iload (M := MX6_talk) (pc := 132) dX6_talk_132
theorem sX6_talk_134 : Snd MX6_talk 134 (xBin 135 f_ishl) := snd_ishl (M := MX6_talk) (pc := 134) dX6_talk_134
theorem sX6_talk_135 : Snd MX6_talk 135 (xK 136 ((-1))) := snd_iconst (M := MX6_talk) (pc := 135) dX6_talk_135 (by decide +kernel)
theorem sX6_talk_136 : Snd MX6_talk 136 (xBin 137 f_ixor) := snd_ixor (M := MX6_talk) (pc := 136) dX6_talk_136
theorem sX6_talk_137 : Snd MX6_talk 137 (xBin 138 f_iand) := snd_iand (M := MX6_talk) (pc := 137) dX6_talk_137
theorem sX6_talk_138 : Snd MX6_talk 138 (xiaload 139) := snd_iaload (M := MX6_talk) (pc := 138) dX6_talk_138
theorem sX6_talk_139 : Snd MX6_talk 139 (xStI 141 7) := snd_istore (M := MX6_talk) (pc := 139) dX6_talk_139 (by decide)
theorem sX6_talk_141 : Snd MX6_talk 141 (xLdI 143 5) := snd_iload (M := MX6_talk) (pc := 141) dX6_talk_141
theorem sX6_talk_143 : Snd MX6_talk 143 (xZ_eq 156 146) := snd_if_eq (M := MX6_talk) (pc := 143) dX6_talk_143 (by decide)
theorem sX6_talk_146 : Snd MX6_talk 146 (xLdA 147 0) := snd_aload_n (M := MX6_talk) (pc := 146) dX6_talk_146
theorem sX6_talk_147 : Snd MX6_talk 147 (xGf 150 6 11) := snd_gf (M := MX6_talk) (pc := 147) (C0 := RX6) (T0 := TX6) (N := 32) dX6_talk_147 rfl tbX6 (by decide) w449
theorem sX6_talk_150 : Snd MX6_talk 150 (xLdI 152 7) := snd_iload (M := MX6_talk) (pc := 150) dX6_talk_150
theorem sX6_talk_152 : Snd MX6_talk 152 (xiaload 153) := snd_iaload (M := MX6_talk) (pc := 152) dX6_talk_152
theorem sX6_talk_153 : Snd MX6_talk 153 (xGo 163) := snd_goto (M := MX6_talk) (pc := 153) dX6_talk_153 (by decide)
theorem sX6_talk_156 : Snd MX6_talk 156 (xLdA 157 0) := snd_aload_n (M := MX6_talk) (pc := 156) dX6_talk_156
theorem sX6_talk_157 : Snd MX6_talk 157 (xGf 160 6 12) := snd_gf (M := MX6_talk) (pc := 157) (C0 := RX6) (T0 := TX6) (N := 32) dX6_talk_157 rfl tbX6 (by decide) w450
theorem sX6_talk_160 : Snd MX6_talk 160 (xLdI 162 7) := snd_iload (M := MX6_talk) (pc := 160) dX6_talk_160
theorem sX6_talk_162 : Snd MX6_talk 162 (xiaload 163) := snd_iaload (M := MX6_talk) (pc := 162) dX6_talk_162
theorem sX6_talk_163 : Snd MX6_talk 163 (xStI 165 8) := snd_istore (M := MX6_talk) (pc := 163) dX6_talk_163 (by decide)
theorem sX6_talk_165 : Snd MX6_talk 165 (xLdA 166 0) := snd_aload_n (M := MX6_talk) (pc := 165) dX6_talk_165
theorem sX6_talk_166 : Snd MX6_talk 166 (xGf 169 6 30) := snd_gf (M := MX6_talk) (pc := 166) (C0 := RX6) (T0 := TX6) (N := 32) dX6_talk_166 rfl tbX6 (by decide) w458
theorem sX6_talk_169 : Snd MX6_talk 169 (xLdI 171 4) := snd_iload (M := MX6_talk) (pc := 169) dX6_talk_169
theorem sX6_talk_171 : Snd MX6_talk 171 (xiaload 172) := snd_iaload (M := MX6_talk) (pc := 171) dX6_talk_171
theorem sX6_talk_172 : Snd MX6_talk 172 (xK 174 ((-4))) := snd_bipush (M := MX6_talk) (pc := 172) dX6_talk_172 (by decide +kernel)
theorem sX6_talk_174 : Snd MX6_talk 174 (xC_ne 181 177) := snd_icmp_ne (M := MX6_talk) (pc := 174) dX6_talk_174 (by decide)
theorem sX6_talk_177 : Snd MX6_talk 177 (xK 178 ((-1))) := snd_iconst (M := MX6_talk) (pc := 177) dX6_talk_177 (by decide +kernel)
theorem sX6_talk_178 : Snd MX6_talk 178 (xGo 213) := snd_goto (M := MX6_talk) (pc := 178) dX6_talk_178 (by decide)
theorem sX6_talk_181 : Snd MX6_talk 181 (xLdI 183 5) := snd_iload (M := MX6_talk) (pc := 181) dX6_talk_181
theorem sX6_talk_183 : Snd MX6_talk 183 (xZ_eq 201 186) := snd_if_eq (M := MX6_talk) (pc := 183) dX6_talk_183 (by decide)
theorem sX6_talk_186 : Snd MX6_talk 186 (xLdA 187 0) := snd_aload_n (M := MX6_talk) (pc := 186) dX6_talk_186
theorem sX6_talk_187 : Snd MX6_talk 187 (xGf 190 6 11) := snd_gf (M := MX6_talk) (pc := 187) (C0 := RX6) (T0 := TX6) (N := 32) dX6_talk_187 rfl tbX6 (by decide) w449
theorem sX6_talk_190 : Snd MX6_talk 190 (xLdA 191 0) := snd_aload_n (M := MX6_talk) (pc := 190) dX6_talk_190
theorem sX6_talk_191 : Snd MX6_talk 191 (xGf 194 6 30) := snd_gf (M := MX6_talk) (pc := 191) (C0 := RX6) (T0 := TX6) (N := 32) dX6_talk_191 rfl tbX6 (by decide) w458
theorem sX6_talk_194 : Snd MX6_talk 194 (xLdI 196 4) := snd_iload (M := MX6_talk) (pc := 194) dX6_talk_194
theorem sX6_talk_196 : Snd MX6_talk 196 (xiaload 197) := snd_iaload (M := MX6_talk) (pc := 196) dX6_talk_196
theorem sX6_talk_197 : Snd MX6_talk 197 (xiaload 198) := snd_iaload (M := MX6_talk) (pc := 197) dX6_talk_197
theorem sX6_talk_198 : Snd MX6_talk 198 (xGo 213) := snd_goto (M := MX6_talk) (pc := 198) dX6_talk_198 (by decide)
theorem sX6_talk_201 : Snd MX6_talk 201 (xLdA 202 0) := snd_aload_n (M := MX6_talk) (pc := 201) dX6_talk_201
theorem sX6_talk_202 : Snd MX6_talk 202 (xGf 205 6 12) := snd_gf (M := MX6_talk) (pc := 202) (C0 := RX6) (T0 := TX6) (N := 32) dX6_talk_202 rfl tbX6 (by decide) w450
theorem sX6_talk_205 : Snd MX6_talk 205 (xLdA 206 0) := snd_aload_n (M := MX6_talk) (pc := 205) dX6_talk_205
theorem sX6_talk_206 : Snd MX6_talk 206 (xGf 209 6 30) := snd_gf (M := MX6_talk) (pc := 206) (C0 := RX6) (T0 := TX6) (N := 32) dX6_talk_206 rfl tbX6 (by decide) w458
theorem sX6_talk_209 : Snd MX6_talk 209 (xLdI 211 4) := snd_iload (M := MX6_talk) (pc := 209) dX6_talk_209
theorem sX6_talk_211 : Snd MX6_talk 211 (xiaload 212) := snd_iaload (M := MX6_talk) (pc := 211) dX6_talk_211
theorem sX6_talk_212 : Snd MX6_talk 212 (xiaload 213) := snd_iaload (M := MX6_talk) (pc := 212) dX6_talk_212
theorem sX6_talk_213 : Snd MX6_talk 213 (xStI 215 9) := snd_istore (M := MX6_talk) (pc := 213) dX6_talk_213 (by decide)
theorem sX6_talk_215 : Snd MX6_talk 215 (xLdA 216 0) := snd_aload_n (M := MX6_talk) (pc := 215) dX6_talk_215
theorem sX6_talk_216 : Snd MX6_talk 216 (xGf 219 6 31) := snd_gf (M := MX6_talk) (pc := 216) (C0 := RX6) (T0 := TX6) (N := 32) dX6_talk_216 rfl tbX6 (by decide) w459
theorem sX6_talk_219 : Snd MX6_talk 219 (xLdI 221 4) := snd_iload (M := MX6_talk) (pc := 219) dX6_talk_219
theorem sX6_talk_221 : Snd MX6_talk 221 (xLdI 223 8) := snd_iload (M := MX6_talk) (pc := 221) dX6_talk_221
theorem sX6_talk_223 : Snd MX6_talk 223 (xLdI 225 9) := snd_iload (M := MX6_talk) (pc := 223) dX6_talk_223
theorem sX6_talk_225 : Snd MX6_talk 225 (xC_le 233 228) := snd_icmp_le (M := MX6_talk) (pc := 225) dX6_talk_225 (by decide)
theorem sX6_talk_228 : Snd MX6_talk 228 (xLdI 230 6) := snd_iload (M := MX6_talk) (pc := 228) dX6_talk_228
theorem sX6_talk_230 : Snd MX6_talk 230 (xGo 240) := snd_goto (M := MX6_talk) (pc := 230) dX6_talk_230 (by decide)
theorem sX6_talk_233 : Snd MX6_talk 233 (xLdA 234 0) := snd_aload_n (M := MX6_talk) (pc := 233) dX6_talk_233
theorem sX6_talk_234 : Snd MX6_talk 234 (xGf 237 6 31) := snd_gf (M := MX6_talk) (pc := 234) (C0 := RX6) (T0 := TX6) (N := 32) dX6_talk_234 rfl tbX6 (by decide) w459
theorem sX6_talk_237 : Snd MX6_talk 237 (xLdI 239 4) := snd_iload (M := MX6_talk) (pc := 237) dX6_talk_237
theorem sX6_talk_239 : Snd MX6_talk 239 (xiaload 240) := snd_iaload (M := MX6_talk) (pc := 239) dX6_talk_239
theorem sX6_talk_240 : Snd MX6_talk 240 (xiastore 241) := snd_iastore (M := MX6_talk) (pc := 240) dX6_talk_240
theorem sX6_talk_241 : Snd MX6_talk 241 (xLdA 242 0) := snd_aload_n (M := MX6_talk) (pc := 241) dX6_talk_241
theorem sX6_talk_242 : Snd MX6_talk 242 (xGf 245 6 30) := snd_gf (M := MX6_talk) (pc := 242) (C0 := RX6) (T0 := TX6) (N := 32) dX6_talk_242 rfl tbX6 (by decide) w458
theorem sX6_talk_245 : Snd MX6_talk 245 (xLdI 247 4) := snd_iload (M := MX6_talk) (pc := 245) dX6_talk_245
theorem sX6_talk_247 : Snd MX6_talk 247 (xLdI 249 8) := snd_iload (M := MX6_talk) (pc := 247) dX6_talk_247
theorem sX6_talk_249 : Snd MX6_talk 249 (xLdI 251 9) := snd_iload (M := MX6_talk) (pc := 249) dX6_talk_249
theorem sX6_talk_251 : Snd MX6_talk 251 (xC_le 259 254) := snd_icmp_le (M := MX6_talk) (pc := 251) dX6_talk_251 (by decide)
theorem sX6_talk_254 : Snd MX6_talk 254 (xLdI 256 7) := snd_iload (M := MX6_talk) (pc := 254) dX6_talk_254
theorem sX6_talk_256 : Snd MX6_talk 256 (xGo 266) := snd_goto (M := MX6_talk) (pc := 256) dX6_talk_256 (by decide)
theorem sX6_talk_259 : Snd MX6_talk 259 (xLdA 260 0) := snd_aload_n (M := MX6_talk) (pc := 259) dX6_talk_259
theorem sX6_talk_260 : Snd MX6_talk 260 (xGf 263 6 30) := snd_gf (M := MX6_talk) (pc := 260) (C0 := RX6) (T0 := TX6) (N := 32) dX6_talk_260 rfl tbX6 (by decide) w458
theorem sX6_talk_263 : Snd MX6_talk 263 (xLdI 265 4) := snd_iload (M := MX6_talk) (pc := 263) dX6_talk_263
theorem sX6_talk_265 : Snd MX6_talk 265 (xiaload 266) := snd_iaload (M := MX6_talk) (pc := 265) dX6_talk_265
theorem sX6_talk_266 : Snd MX6_talk 266 (xiastore 267) := snd_iastore (M := MX6_talk) (pc := 266) dX6_talk_266
theorem sX6_talk_267 : Snd MX6_talk 267 (xInc 270 6 (nI 1)) := snd_iinc (M := MX6_talk) (pc := 267) dX6_talk_267 (by decide +kernel) (by decide)
theorem sX6_talk_270 : Snd MX6_talk 270 (xGo 85) := snd_goto (M := MX6_talk) (pc := 270) dX6_talk_270 (by decide)
theorem sX6_talk_273 : Snd MX6_talk 273 (xInc 276 4 (nI 1)) := snd_iinc (M := MX6_talk) (pc := 273) dX6_talk_273 (by decide +kernel) (by decide)
theorem sX6_talk_276 : Snd MX6_talk 276 (xGo 38) := snd_goto (M := MX6_talk) (pc := 276) dX6_talk_276 (by decide)
theorem sX6_talk_279 : Snd MX6_talk 279 (xLdI 280 1) := snd_iload_n (M := MX6_talk) (pc := 279) dX6_talk_279
theorem sX6_talk_280 : Snd MX6_talk 280 (xZ_ne 292 283) := snd_if_ne (M := MX6_talk) (pc := 280) dX6_talk_280 (by decide)
theorem sX6_talk_283 : Snd MX6_talk 283 (xLdA 284 0) := snd_aload_n (M := MX6_talk) (pc := 283) dX6_talk_283
theorem sX6_talk_284 : Snd MX6_talk 284 (xGf 287 6 30) := snd_gf (M := MX6_talk) (pc := 284) (C0 := RX6) (T0 := TX6) (N := 32) dX6_talk_284 rfl tbX6 (by decide) w458
theorem sX6_talk_287 : Snd MX6_talk 287 (xLdI 288 2) := snd_iload_n (M := MX6_talk) (pc := 287) dX6_talk_287
theorem sX6_talk_288 : Snd MX6_talk 288 (xiaload 289) := snd_iaload (M := MX6_talk) (pc := 288) dX6_talk_288
theorem sX6_talk_289 : Snd MX6_talk 289 (xGo 308) := snd_goto (M := MX6_talk) (pc := 289) dX6_talk_289 (by decide)
theorem sX6_talk_292 : Snd MX6_talk 292 (xLdI 293 3) := snd_iload_n (M := MX6_talk) (pc := 292) dX6_talk_292
theorem sX6_talk_293 : Snd MX6_talk 293 (xK 294 (nI 1)) := snd_iconst (M := MX6_talk) (pc := 293) dX6_talk_293 (by decide +kernel)
theorem sX6_talk_294 : Snd MX6_talk 294 (xC_ne 302 297) := snd_icmp_ne (M := MX6_talk) (pc := 294) dX6_talk_294 (by decide)
theorem sX6_talk_297 : Snd MX6_talk 297 (xK 299 ((-4))) := snd_bipush (M := MX6_talk) (pc := 297) dX6_talk_297 (by decide +kernel)
theorem sX6_talk_299 : Snd MX6_talk 299 (xGo 308) := snd_goto (M := MX6_talk) (pc := 299) dX6_talk_299 (by decide)
theorem sX6_talk_302 : Snd MX6_talk 302 (xLdA 303 0) := snd_aload_n (M := MX6_talk) (pc := 302) dX6_talk_302
theorem sX6_talk_303 : Snd MX6_talk 303 (xGf 306 6 31) := snd_gf (M := MX6_talk) (pc := 303) (C0 := RX6) (T0 := TX6) (N := 32) dX6_talk_303 rfl tbX6 (by decide) w459
theorem sX6_talk_306 : Snd MX6_talk 306 (xLdI 307 2) := snd_iload_n (M := MX6_talk) (pc := 306) dX6_talk_306
theorem sX6_talk_307 : Snd MX6_talk 307 (xiaload 308) := snd_iaload (M := MX6_talk) (pc := 307) dX6_talk_307
theorem sX6_talk_308 : Snd MX6_talk 308 (xRet) := snd_iret (M := MX6_talk) (pc := 308) dX6_talk_308 rfl
theorem VX6_talk : Valid MX6_talk LX6_talk := va_lid sX6_talk_0 (va_lid sX6_talk_1 (va_lid sX6_talk_2 (va_lid sX6_talk_3 (va_lid sX6_talk_4 (va_lid sX6_talk_7 (va_lid sX6_talk_10 (va_lid sX6_talk_11 (va_lid sX6_talk_12 (va_lid sX6_talk_13 (va_lid sX6_talk_14 (va_lid sX6_talk_17 (va_lid sX6_talk_18 (va_lid sX6_talk_19 (va_lid sX6_talk_22 (va_lid sX6_talk_23 (va_lid sX6_talk_24 (va_lid sX6_talk_27 (va_lid sX6_talk_28 (va_lid sX6_talk_29 (va_lid sX6_talk_32 (va_lid sX6_talk_34 (va_lid sX6_talk_35 (va_lid sX6_talk_36 (va_lid sX6_talk_38 (va_lid sX6_talk_40 (va_lid sX6_talk_42 (va_lid sX6_talk_45 (va_lid sX6_talk_46 (va_lid sX6_talk_49 (va_lid sX6_talk_51 (va_lid sX6_talk_53 (va_lid sX6_talk_54 (va_lid sX6_talk_55 (va_lid sX6_talk_58 (va_lid sX6_talk_60 (va_lid sX6_talk_62 (va_lid sX6_talk_63 (va_lid sX6_talk_64 (va_lid sX6_talk_66 (va_lid sX6_talk_69 (va_lid sX6_talk_70 (va_lid sX6_talk_71 (va_lid sX6_talk_72 (va_lid sX6_talk_75 (va_lid sX6_talk_76 (va_lid sX6_talk_79 (va_lid sX6_talk_80 (va_lid sX6_talk_82 (va_lid sX6_talk_83 (va_lid sX6_talk_85 (va_lid sX6_talk_87 (va_lid sX6_talk_89 (va_lid sX6_talk_92 (va_lid sX6_talk_94 (va_lid sX6_talk_96 (va_lid sX6_talk_99 (va_lid sX6_talk_102 (va_lid sX6_talk_104 (va_lid sX6_talk_105 (va_lid sX6_talk_106 (va_lid sX6_talk_107 (va_lid sX6_talk_108 (va_lid sX6_talk_111 (va_lid sX6_talk_113 (va_lid sX6_talk_116 (va_lid sX6_talk_117 (va_lid sX6_talk_120 (va_lid sX6_talk_122 (va_lid sX6_talk_125 (va_lid sX6_talk_126 (va_lid sX6_talk_129 (va_lid sX6_talk_131 (va_lid sX6_talk_132 (va_lid sX6_talk_134 (va_lid sX6_talk_135 (va_lid sX6_talk_136 (va_lid sX6_talk_137 (va_lid sX6_talk_138 (va_lid sX6_talk_139 (va_lid sX6_talk_141 (va_lid sX6_talk_143 (va_lid sX6_talk_146 (va_lid sX6_talk_147 (va_lid sX6_talk_150 (va_lid sX6_talk_152 (va_lid sX6_talk_153 (va_lid sX6_talk_156 (va_lid sX6_talk_157 (va_lid sX6_talk_160 (va_lid sX6_talk_162 (va_lid sX6_talk_163 (va_lid sX6_talk_165 (va_lid sX6_talk_166 (va_lid sX6_talk_169 (va_lid sX6_talk_171 (va_lid sX6_talk_172 (va_lid sX6_talk_174 (va_lid sX6_talk_177 (va_lid sX6_talk_178 (va_lid sX6_talk_181 (va_lid sX6_talk_183 (va_lid sX6_talk_186 (va_lid sX6_talk_187 (va_lid sX6_talk_190 (va_lid sX6_talk_191 (va_lid sX6_talk_194 (va_lid sX6_talk_196 (va_lid sX6_talk_197 (va_lid sX6_talk_198 (va_lid sX6_talk_201 (va_lid sX6_talk_202 (va_lid sX6_talk_205 (va_lid sX6_talk_206 (va_lid sX6_talk_209 (va_lid sX6_talk_211 (va_lid sX6_talk_212 (va_lid sX6_talk_213 (va_lid sX6_talk_215 (va_lid sX6_talk_216 (va_lid sX6_talk_219 (va_lid sX6_talk_221 (va_lid sX6_talk_223 (va_lid sX6_talk_225 (va_lid sX6_talk_228 (va_lid sX6_talk_230 (va_lid sX6_talk_233 (va_lid sX6_talk_234 (va_lid sX6_talk_237 (va_lid sX6_talk_239 (va_lid sX6_talk_240 (va_lid sX6_talk_241 (va_lid sX6_talk_242 (va_lid sX6_talk_245 (va_lid sX6_talk_247 (va_lid sX6_talk_249 (va_lid sX6_talk_251 (va_lid sX6_talk_254 (va_lid sX6_talk_256 (va_lid sX6_talk_259 (va_lid sX6_talk_260 (va_lid sX6_talk_263 (va_lid sX6_talk_265 (va_lid sX6_talk_266 (va_lid sX6_talk_267 (va_lid sX6_talk_270 (va_lid sX6_talk_273 (va_lid sX6_talk_276 (va_lid sX6_talk_279 (va_lid sX6_talk_280 (va_lid sX6_talk_283 (va_lid sX6_talk_284 (va_lid sX6_talk_287 (va_lid sX6_talk_288 (va_lid sX6_talk_289 (va_lid sX6_talk_292 (va_lid sX6_talk_293 (va_lid sX6_talk_294 (va_lid sX6_talk_297 (va_lid sX6_talk_299 (va_lid sX6_talk_302 (va_lid sX6_talk_303 (va_lid sX6_talk_306 (va_lid sX6_talk_307 (va_lid sX6_talk_308 (va_lid0)))))))))))))))))))))))))))))))))))))))))))))))))))))))))))))))))))))))))))))))))))))))))))))))))))))))))))))))))))))))))))))))))))))))))))))))))))))))))))))))))))))
theorem kX6_talk_0 : lk LX6_talk 0 = some (xLdI 1 1) := rfl
theorem kX6_talk_1 : lk LX6_talk 1 = some (xI2l 2) := rfl
theorem kX6_talk_2 : lk LX6_talk 2 = some (xKL 3 (lN 0)) := rfl
theorem kX6_talk_3 : lk LX6_talk 3 = some (xKL 4 (lN 1)) := rfl
theorem kX6_talk_4 : lk LX6_talk 4 = some (xCallS MX6_in 3 7) := rfl
theorem kX6_talk_7 : lk LX6_talk 7 = some (xZ_ne 12 10) := rfl
theorem kX6_talk_10 : lk LX6_talk 10 = some (xK 11 ((-1))) := rfl
theorem kX6_talk_11 : lk LX6_talk 11 = some (xRet) := rfl
theorem kX6_talk_12 : lk LX6_talk 12 = some (xLdA 13 0) := rfl
theorem kX6_talk_13 : lk LX6_talk 13 = some (xLdA 14 0) := rfl
theorem kX6_talk_14 : lk LX6_talk 14 = some (xGf 17 6 0) := rfl
theorem kX6_talk_17 : lk LX6_talk 17 = some (xK 18 (nI 2)) := rfl
theorem kX6_talk_18 : lk LX6_talk 18 = some (xiaload 19) := rfl
theorem kX6_talk_19 : lk LX6_talk 19 = some (xCallV MX6_livesBy 6 1 22) := rfl
theorem kX6_talk_22 : lk LX6_talk 22 = some (xStI 23 2) := rfl
theorem kX6_talk_23 : lk LX6_talk 23 = some (xLdI 24 2) := rfl
theorem kX6_talk_24 : lk LX6_talk 24 = some (xCallS MX6_ones 1 27) := rfl
theorem kX6_talk_27 : lk LX6_talk 27 = some (xStI 28 3) := rfl
theorem kX6_talk_28 : lk LX6_talk 28 = some (xLdI 29 3) := rfl
theorem kX6_talk_29 : lk LX6_talk 29 = some (xZ_ne 35 32) := rfl
theorem kX6_talk_32 : lk LX6_talk 32 = some (xK 34 ((-4))) := rfl
theorem kX6_talk_34 : lk LX6_talk 34 = some (xRet) := rfl
theorem kX6_talk_35 : lk LX6_talk 35 = some (xK 36 (nI 1)) := rfl
theorem kX6_talk_36 : lk LX6_talk 36 = some (xStI 38 4) := rfl
theorem kX6_talk_38 : lk LX6_talk 38 = some (xLdI 40 4) := rfl
theorem kX6_talk_40 : lk LX6_talk 40 = some (xK 42 (nI 64)) := rfl
theorem kX6_talk_42 : lk LX6_talk 42 = some (xC_ge 279 45) := rfl
theorem kX6_talk_45 : lk LX6_talk 45 = some (xLdA 46 0) := rfl
theorem kX6_talk_46 : lk LX6_talk 46 = some (xGf 49 6 30) := rfl
theorem kX6_talk_49 : lk LX6_talk 49 = some (xLdI 51 4) := rfl
theorem kX6_talk_51 : lk LX6_talk 51 = some (xK 53 ((-4))) := rfl
theorem kX6_talk_53 : lk LX6_talk 53 = some (xiastore 54) := rfl
theorem kX6_talk_54 : lk LX6_talk 54 = some (xLdA 55 0) := rfl
theorem kX6_talk_55 : lk LX6_talk 55 = some (xGf 58 6 31) := rfl
theorem kX6_talk_58 : lk LX6_talk 58 = some (xLdI 60 4) := rfl
theorem kX6_talk_60 : lk LX6_talk 60 = some (xK 62 ((-4))) := rfl
theorem kX6_talk_62 : lk LX6_talk 62 = some (xiastore 63) := rfl
theorem kX6_talk_63 : lk LX6_talk 63 = some (xLdI 64 3) := rfl
theorem kX6_talk_64 : lk LX6_talk 64 = some (xLdI 66 4) := rfl
theorem kX6_talk_66 : lk LX6_talk 66 = some (xCallS MX6_ones 1 69) := rfl
theorem kX6_talk_69 : lk LX6_talk 69 = some (xBin 70 f_isub) := rfl
theorem kX6_talk_70 : lk LX6_talk 70 = some (xK 71 (nI 2)) := rfl
theorem kX6_talk_71 : lk LX6_talk 71 = some (xDiv 72 f_irem) := rfl
theorem kX6_talk_72 : lk LX6_talk 72 = some (xZ_ne 79 75) := rfl
theorem kX6_talk_75 : lk LX6_talk 75 = some (xK 76 (nI 1)) := rfl
theorem kX6_talk_76 : lk LX6_talk 76 = some (xGo 80) := rfl
theorem kX6_talk_79 : lk LX6_talk 79 = some (xK 80 (nI 0)) := rfl
theorem kX6_talk_80 : lk LX6_talk 80 = some (xStI 82 5) := rfl
theorem kX6_talk_82 : lk LX6_talk 82 = some (xK 83 (nI 0)) := rfl
theorem kX6_talk_83 : lk LX6_talk 83 = some (xStI 85 6) := rfl
theorem kX6_talk_85 : lk LX6_talk 85 = some (xLdI 87 6) := rfl
theorem kX6_talk_87 : lk LX6_talk 87 = some (xK 89 (nI 6)) := rfl
theorem kX6_talk_89 : lk LX6_talk 89 = some (xC_ge 273 92) := rfl
theorem kX6_talk_92 : lk LX6_talk 92 = some (xLdI 94 4) := rfl
theorem kX6_talk_94 : lk LX6_talk 94 = some (xLdI 96 6) := rfl
theorem kX6_talk_96 : lk LX6_talk 96 = some (xCallS MX6_has 2 99) := rfl
theorem kX6_talk_99 : lk LX6_talk 99 = some (xZ_eq 267 102) := rfl
theorem kX6_talk_102 : lk LX6_talk 102 = some (xLdI 104 4) := rfl
theorem kX6_talk_104 : lk LX6_talk 104 = some (xLdI 105 2) := rfl
theorem kX6_talk_105 : lk LX6_talk 105 = some (xK 106 ((-1))) := rfl
theorem kX6_talk_106 : lk LX6_talk 106 = some (xBin 107 f_ixor) := rfl
theorem kX6_talk_107 : lk LX6_talk 107 = some (xBin 108 f_iand) := rfl
theorem kX6_talk_108 : lk LX6_talk 108 = some (xZ_ne 267 111) := rfl
theorem kX6_talk_111 : lk LX6_talk 111 = some (xLdI 113 4) := rfl
theorem kX6_talk_113 : lk LX6_talk 113 = some (xCallS MX6_ones 1 116) := rfl
theorem kX6_talk_116 : lk LX6_talk 116 = some (xK 117 (nI 1)) := rfl
theorem kX6_talk_117 : lk LX6_talk 117 = some (xC_ne 125 120) := rfl
theorem kX6_talk_120 : lk LX6_talk 120 = some (xLdI 122 6) := rfl
theorem kX6_talk_122 : lk LX6_talk 122 = some (xGo 139) := rfl
theorem kX6_talk_125 : lk LX6_talk 125 = some (xLdA 126 0) := rfl
theorem kX6_talk_126 : lk LX6_talk 126 = some (xGf 129 6 30) := rfl
theorem kX6_talk_129 : lk LX6_talk 129 = some (xLdI 131 4) := rfl
theorem kX6_talk_131 : lk LX6_talk 131 = some (xK 132 (nI 1)) := rfl
theorem kX6_talk_132 : lk LX6_talk 132 = some (xLdI 134 6) := rfl
theorem kX6_talk_134 : lk LX6_talk 134 = some (xBin 135 f_ishl) := rfl
theorem kX6_talk_135 : lk LX6_talk 135 = some (xK 136 ((-1))) := rfl
theorem kX6_talk_136 : lk LX6_talk 136 = some (xBin 137 f_ixor) := rfl
theorem kX6_talk_137 : lk LX6_talk 137 = some (xBin 138 f_iand) := rfl
theorem kX6_talk_138 : lk LX6_talk 138 = some (xiaload 139) := rfl
theorem kX6_talk_139 : lk LX6_talk 139 = some (xStI 141 7) := rfl
set_option maxRecDepth 20000 in
theorem kX6_talk_141 : lk LX6_talk 141 = some (xLdI 143 5) := rfl
set_option maxRecDepth 20000 in
theorem kX6_talk_143 : lk LX6_talk 143 = some (xZ_eq 156 146) := rfl
set_option maxRecDepth 20000 in
theorem kX6_talk_146 : lk LX6_talk 146 = some (xLdA 147 0) := rfl
set_option maxRecDepth 20000 in
theorem kX6_talk_147 : lk LX6_talk 147 = some (xGf 150 6 11) := rfl
set_option maxRecDepth 20000 in
theorem kX6_talk_150 : lk LX6_talk 150 = some (xLdI 152 7) := rfl
set_option maxRecDepth 20000 in
theorem kX6_talk_152 : lk LX6_talk 152 = some (xiaload 153) := rfl
set_option maxRecDepth 20000 in
theorem kX6_talk_153 : lk LX6_talk 153 = some (xGo 163) := rfl
set_option maxRecDepth 20000 in
theorem kX6_talk_156 : lk LX6_talk 156 = some (xLdA 157 0) := rfl
set_option maxRecDepth 20000 in
theorem kX6_talk_157 : lk LX6_talk 157 = some (xGf 160 6 12) := rfl
set_option maxRecDepth 20000 in
theorem kX6_talk_160 : lk LX6_talk 160 = some (xLdI 162 7) := rfl
set_option maxRecDepth 20000 in
theorem kX6_talk_162 : lk LX6_talk 162 = some (xiaload 163) := rfl
set_option maxRecDepth 20000 in
theorem kX6_talk_163 : lk LX6_talk 163 = some (xStI 165 8) := rfl
set_option maxRecDepth 20000 in
theorem kX6_talk_165 : lk LX6_talk 165 = some (xLdA 166 0) := rfl
set_option maxRecDepth 20000 in
theorem kX6_talk_166 : lk LX6_talk 166 = some (xGf 169 6 30) := rfl
set_option maxRecDepth 20000 in
theorem kX6_talk_169 : lk LX6_talk 169 = some (xLdI 171 4) := rfl
set_option maxRecDepth 20000 in
theorem kX6_talk_171 : lk LX6_talk 171 = some (xiaload 172) := rfl
set_option maxRecDepth 20000 in
theorem kX6_talk_172 : lk LX6_talk 172 = some (xK 174 ((-4))) := rfl
set_option maxRecDepth 20000 in
theorem kX6_talk_174 : lk LX6_talk 174 = some (xC_ne 181 177) := rfl
set_option maxRecDepth 20000 in
theorem kX6_talk_177 : lk LX6_talk 177 = some (xK 178 ((-1))) := rfl
set_option maxRecDepth 20000 in
theorem kX6_talk_178 : lk LX6_talk 178 = some (xGo 213) := rfl
set_option maxRecDepth 20000 in
theorem kX6_talk_181 : lk LX6_talk 181 = some (xLdI 183 5) := rfl
set_option maxRecDepth 20000 in
theorem kX6_talk_183 : lk LX6_talk 183 = some (xZ_eq 201 186) := rfl
set_option maxRecDepth 20000 in
theorem kX6_talk_186 : lk LX6_talk 186 = some (xLdA 187 0) := rfl
set_option maxRecDepth 20000 in
theorem kX6_talk_187 : lk LX6_talk 187 = some (xGf 190 6 11) := rfl
set_option maxRecDepth 20000 in
theorem kX6_talk_190 : lk LX6_talk 190 = some (xLdA 191 0) := rfl
set_option maxRecDepth 20000 in
theorem kX6_talk_191 : lk LX6_talk 191 = some (xGf 194 6 30) := rfl
set_option maxRecDepth 20000 in
theorem kX6_talk_194 : lk LX6_talk 194 = some (xLdI 196 4) := rfl
set_option maxRecDepth 20000 in
theorem kX6_talk_196 : lk LX6_talk 196 = some (xiaload 197) := rfl
set_option maxRecDepth 20000 in
theorem kX6_talk_197 : lk LX6_talk 197 = some (xiaload 198) := rfl
set_option maxRecDepth 20000 in
theorem kX6_talk_198 : lk LX6_talk 198 = some (xGo 213) := rfl
set_option maxRecDepth 20000 in
theorem kX6_talk_201 : lk LX6_talk 201 = some (xLdA 202 0) := rfl
set_option maxRecDepth 20000 in
theorem kX6_talk_202 : lk LX6_talk 202 = some (xGf 205 6 12) := rfl
set_option maxRecDepth 20000 in
theorem kX6_talk_205 : lk LX6_talk 205 = some (xLdA 206 0) := rfl
set_option maxRecDepth 20000 in
theorem kX6_talk_206 : lk LX6_talk 206 = some (xGf 209 6 30) := rfl
set_option maxRecDepth 20000 in
theorem kX6_talk_209 : lk LX6_talk 209 = some (xLdI 211 4) := rfl
set_option maxRecDepth 20000 in
theorem kX6_talk_211 : lk LX6_talk 211 = some (xiaload 212) := rfl
set_option maxRecDepth 20000 in
theorem kX6_talk_212 : lk LX6_talk 212 = some (xiaload 213) := rfl
set_option maxRecDepth 20000 in
theorem kX6_talk_213 : lk LX6_talk 213 = some (xStI 215 9) := rfl
set_option maxRecDepth 20000 in
theorem kX6_talk_215 : lk LX6_talk 215 = some (xLdA 216 0) := rfl
set_option maxRecDepth 20000 in
theorem kX6_talk_216 : lk LX6_talk 216 = some (xGf 219 6 31) := rfl
set_option maxRecDepth 20000 in
theorem kX6_talk_219 : lk LX6_talk 219 = some (xLdI 221 4) := rfl
set_option maxRecDepth 20000 in
theorem kX6_talk_221 : lk LX6_talk 221 = some (xLdI 223 8) := rfl
set_option maxRecDepth 20000 in
theorem kX6_talk_223 : lk LX6_talk 223 = some (xLdI 225 9) := rfl
set_option maxRecDepth 20000 in
theorem kX6_talk_225 : lk LX6_talk 225 = some (xC_le 233 228) := rfl
set_option maxRecDepth 20000 in
theorem kX6_talk_228 : lk LX6_talk 228 = some (xLdI 230 6) := rfl
set_option maxRecDepth 20000 in
theorem kX6_talk_230 : lk LX6_talk 230 = some (xGo 240) := rfl
set_option maxRecDepth 20000 in
theorem kX6_talk_233 : lk LX6_talk 233 = some (xLdA 234 0) := rfl
set_option maxRecDepth 20000 in
theorem kX6_talk_234 : lk LX6_talk 234 = some (xGf 237 6 31) := rfl
set_option maxRecDepth 20000 in
theorem kX6_talk_237 : lk LX6_talk 237 = some (xLdI 239 4) := rfl
set_option maxRecDepth 20000 in
theorem kX6_talk_239 : lk LX6_talk 239 = some (xiaload 240) := rfl
set_option maxRecDepth 20000 in
theorem kX6_talk_240 : lk LX6_talk 240 = some (xiastore 241) := rfl
set_option maxRecDepth 20000 in
theorem kX6_talk_241 : lk LX6_talk 241 = some (xLdA 242 0) := rfl
set_option maxRecDepth 20000 in
theorem kX6_talk_242 : lk LX6_talk 242 = some (xGf 245 6 30) := rfl
set_option maxRecDepth 20000 in
theorem kX6_talk_245 : lk LX6_talk 245 = some (xLdI 247 4) := rfl
set_option maxRecDepth 20000 in
theorem kX6_talk_247 : lk LX6_talk 247 = some (xLdI 249 8) := rfl
set_option maxRecDepth 20000 in
theorem kX6_talk_249 : lk LX6_talk 249 = some (xLdI 251 9) := rfl
set_option maxRecDepth 20000 in
theorem kX6_talk_251 : lk LX6_talk 251 = some (xC_le 259 254) := rfl
set_option maxRecDepth 20000 in
theorem kX6_talk_254 : lk LX6_talk 254 = some (xLdI 256 7) := rfl
set_option maxRecDepth 20000 in
theorem kX6_talk_256 : lk LX6_talk 256 = some (xGo 266) := rfl
set_option maxRecDepth 20000 in
theorem kX6_talk_259 : lk LX6_talk 259 = some (xLdA 260 0) := rfl
set_option maxRecDepth 20000 in
theorem kX6_talk_260 : lk LX6_talk 260 = some (xGf 263 6 30) := rfl
set_option maxRecDepth 20000 in
theorem kX6_talk_263 : lk LX6_talk 263 = some (xLdI 265 4) := rfl
set_option maxRecDepth 20000 in
theorem kX6_talk_265 : lk LX6_talk 265 = some (xiaload 266) := rfl
set_option maxRecDepth 20000 in
theorem kX6_talk_266 : lk LX6_talk 266 = some (xiastore 267) := rfl
set_option maxRecDepth 20000 in
theorem kX6_talk_267 : lk LX6_talk 267 = some (xInc 270 6 (nI 1)) := rfl
set_option maxRecDepth 20000 in
theorem kX6_talk_270 : lk LX6_talk 270 = some (xGo 85) := rfl
set_option maxRecDepth 20000 in
theorem kX6_talk_273 : lk LX6_talk 273 = some (xInc 276 4 (nI 1)) := rfl
set_option maxRecDepth 20000 in
theorem kX6_talk_276 : lk LX6_talk 276 = some (xGo 38) := rfl
set_option maxRecDepth 20000 in
theorem kX6_talk_279 : lk LX6_talk 279 = some (xLdI 280 1) := rfl
set_option maxRecDepth 20000 in
theorem kX6_talk_280 : lk LX6_talk 280 = some (xZ_ne 292 283) := rfl
set_option maxRecDepth 20000 in
theorem kX6_talk_283 : lk LX6_talk 283 = some (xLdA 284 0) := rfl
set_option maxRecDepth 20000 in
theorem kX6_talk_284 : lk LX6_talk 284 = some (xGf 287 6 30) := rfl
set_option maxRecDepth 20000 in
theorem kX6_talk_287 : lk LX6_talk 287 = some (xLdI 288 2) := rfl
set_option maxRecDepth 20000 in
theorem kX6_talk_288 : lk LX6_talk 288 = some (xiaload 289) := rfl
set_option maxRecDepth 20000 in
theorem kX6_talk_289 : lk LX6_talk 289 = some (xGo 308) := rfl
set_option maxRecDepth 20000 in
theorem kX6_talk_292 : lk LX6_talk 292 = some (xLdI 293 3) := rfl
set_option maxRecDepth 20000 in
theorem kX6_talk_293 : lk LX6_talk 293 = some (xK 294 (nI 1)) := rfl
set_option maxRecDepth 20000 in
theorem kX6_talk_294 : lk LX6_talk 294 = some (xC_ne 302 297) := rfl
set_option maxRecDepth 20000 in
theorem kX6_talk_297 : lk LX6_talk 297 = some (xK 299 ((-4))) := rfl
set_option maxRecDepth 20000 in
theorem kX6_talk_299 : lk LX6_talk 299 = some (xGo 308) := rfl
set_option maxRecDepth 20000 in
theorem kX6_talk_302 : lk LX6_talk 302 = some (xLdA 303 0) := rfl
set_option maxRecDepth 20000 in
theorem kX6_talk_303 : lk LX6_talk 303 = some (xGf 306 6 31) := rfl
set_option maxRecDepth 20000 in
theorem kX6_talk_306 : lk LX6_talk 306 = some (xLdI 307 2) := rfl
set_option maxRecDepth 20000 in
theorem kX6_talk_307 : lk LX6_talk 307 = some (xiaload 308) := rfl
set_option maxRecDepth 20000 in
theorem kX6_talk_308 : lk LX6_talk 308 = some (xRet) := rfl
def LX6_see : List (Nat × XI) := [(0, xLdA 1 0),
  (1, xLdI 2 1),
  (2, xCallV MX6_isThing 6 1 5),
  (5, xZ_ne 10 8),
  (8, xK 9 ((-1))),
  (9, xRet),
  (10, xLdA 11 0),
  (11, xGf 14 6 16),
  (14, xK 16 (nI 8)),
  (16, xC_ne 22 19),
  (19, xK 21 ((-3))),
  (21, xRet),
  (22, xLdA 23 0),
  (23, xDup 24),
  (24, xGf 27 6 14),
  (27, xLdI 28 2),
  (28, xZ_eq 37 31),
  (31, xK 32 (nI 1)),
  (32, xLdI 33 1),
  (33, xBin 34 f_ishl),
  (34, xGo 38),
  (37, xK 38 (nI 0)),
  (38, xBin 39 f_ior),
  (39, xPfI 42 6 14),
  (42, xLdA 43 0),
  (43, xDup 44),
  (44, xGf 47 6 15),
  (47, xLdI 48 2),
  (48, xZ_eq 55 51),
  (51, xK 52 (nI 0)),
  (52, xGo 58),
  (55, xK 56 (nI 1)),
  (56, xLdI 57 1),
  (57, xBin 58 f_ishl),
  (58, xBin 59 f_ior),
  (59, xPfI 62 6 15),
  (62, xLdA 63 0),
  (63, xDup 64),
  (64, xGf 67 6 16),
  (67, xK 68 (nI 1)),
  (68, xBin 69 f_iadd),
  (69, xPfI 72 6 16),
  (72, xLdA 73 0),
  (73, xGf 76 6 16),
  (76, xRet)]
theorem sX6_see_0 : Snd MX6_see 0 (xLdA 1 0) := snd_aload_n (M := MX6_see) (pc := 0) dX6_see_0
theorem sX6_see_1 : Snd MX6_see 1 (xLdI 2 1) := snd_iload_n (M := MX6_see) (pc := 1) dX6_see_1
theorem sX6_see_2 : Snd MX6_see 2 (xCallV MX6_isThing 6 1 5) := snd_callV (M := MX6_see) (pc := 2) (n := 1) dX6_see_2 rfl w560 w561 w562 ⟨w462, w559, ⟨by decide, by decide, by decide +kernel⟩, by decide⟩ ⟨rfl, rfl⟩
theorem sX6_see_5 : Snd MX6_see 5 (xZ_ne 10 8) := snd_if_ne (M := MX6_see) (pc := 5) dX6_see_5 (by decide)
theorem sX6_see_8 : Snd MX6_see 8 (xK 9 ((-1))) := snd_iconst (M := MX6_see) (pc := 8) dX6_see_8 (by decide +kernel)
theorem sX6_see_9 : Snd MX6_see 9 (xRet) := snd_iret (M := MX6_see) (pc := 9) dX6_see_9 rfl
theorem sX6_see_10 : Snd MX6_see 10 (xLdA 11 0) := snd_aload_n (M := MX6_see) (pc := 10) dX6_see_10
theorem sX6_see_11 : Snd MX6_see 11 (xGf 14 6 16) := snd_gf (M := MX6_see) (pc := 11) (C0 := RX6) (T0 := TX6) (N := 32) dX6_see_11 rfl tbX6 (by decide) w623
theorem sX6_see_14 : Snd MX6_see 14 (xK 16 (nI 8)) := snd_bipush (M := MX6_see) (pc := 14) dX6_see_14 (by decide +kernel)
theorem sX6_see_16 : Snd MX6_see 16 (xC_ne 22 19) := snd_icmp_ne (M := MX6_see) (pc := 16) dX6_see_16 (by decide)
theorem sX6_see_19 : Snd MX6_see 19 (xK 21 ((-3))) := snd_bipush (M := MX6_see) (pc := 19) dX6_see_19 (by decide +kernel)
theorem sX6_see_21 : Snd MX6_see 21 (xRet) := snd_iret (M := MX6_see) (pc := 21) dX6_see_21 rfl
theorem sX6_see_22 : Snd MX6_see 22 (xLdA 23 0) := snd_aload_n (M := MX6_see) (pc := 22) dX6_see_22
theorem sX6_see_23 : Snd MX6_see 23 (xDup 24) := snd_dup (M := MX6_see) (pc := 23) dX6_see_23
theorem sX6_see_24 : Snd MX6_see 24 (xGf 27 6 14) := snd_gf (M := MX6_see) (pc := 24) (C0 := RX6) (T0 := TX6) (N := 32) dX6_see_24 rfl tbX6 (by decide) w624
theorem sX6_see_27 : Snd MX6_see 27 (xLdI 28 2) := snd_iload_n (M := MX6_see) (pc := 27) dX6_see_27
theorem sX6_see_28 : Snd MX6_see 28 (xZ_eq 37 31) := snd_if_eq (M := MX6_see) (pc := 28) dX6_see_28 (by decide)
theorem sX6_see_31 : Snd MX6_see 31 (xK 32 (nI 1)) := snd_iconst (M := MX6_see) (pc := 31) dX6_see_31 (by decide +kernel)
theorem sX6_see_32 : Snd MX6_see 32 (xLdI 33 1) := snd_iload_n (M := MX6_see) (pc := 32) dX6_see_32
theorem sX6_see_33 : Snd MX6_see 33 (xBin 34 f_ishl) := snd_ishl (M := MX6_see) (pc := 33) dX6_see_33
theorem sX6_see_34 : Snd MX6_see 34 (xGo 38) := snd_goto (M := MX6_see) (pc := 34) dX6_see_34 (by decide)
theorem sX6_see_37 : Snd MX6_see 37 (xK 38 (nI 0)) := snd_iconst (M := MX6_see) (pc := 37) dX6_see_37 (by decide +kernel)
theorem sX6_see_38 : Snd MX6_see 38 (xBin 39 f_ior) := snd_ior (M := MX6_see) (pc := 38) dX6_see_38
theorem sX6_see_39 : Snd MX6_see 39 (xPfI 42 6 14) := snd_pfI (M := MX6_see) (pc := 39) (C0 := RX6) (T0 := TX6) (N := 32) dX6_see_39 rfl tbX6 tyX6 tyX6_ok nmX6 (by decide) w624 rfl (by decide +kernel)
theorem sX6_see_42 : Snd MX6_see 42 (xLdA 43 0) := snd_aload_n (M := MX6_see) (pc := 42) dX6_see_42
theorem sX6_see_43 : Snd MX6_see 43 (xDup 44) := snd_dup (M := MX6_see) (pc := 43) dX6_see_43
theorem sX6_see_44 : Snd MX6_see 44 (xGf 47 6 15) := snd_gf (M := MX6_see) (pc := 44) (C0 := RX6) (T0 := TX6) (N := 32) dX6_see_44 rfl tbX6 (by decide) w625
theorem sX6_see_47 : Snd MX6_see 47 (xLdI 48 2) := snd_iload_n (M := MX6_see) (pc := 47) dX6_see_47
theorem sX6_see_48 : Snd MX6_see 48 (xZ_eq 55 51) := snd_if_eq (M := MX6_see) (pc := 48) dX6_see_48 (by decide)
theorem sX6_see_51 : Snd MX6_see 51 (xK 52 (nI 0)) := snd_iconst (M := MX6_see) (pc := 51) dX6_see_51 (by decide +kernel)
theorem sX6_see_52 : Snd MX6_see 52 (xGo 58) := snd_goto (M := MX6_see) (pc := 52) dX6_see_52 (by decide)
theorem sX6_see_55 : Snd MX6_see 55 (xK 56 (nI 1)) := snd_iconst (M := MX6_see) (pc := 55) dX6_see_55 (by decide +kernel)
theorem sX6_see_56 : Snd MX6_see 56 (xLdI 57 1) := snd_iload_n (M := MX6_see) (pc := 56) dX6_see_56
theorem sX6_see_57 : Snd MX6_see 57 (xBin 58 f_ishl) := snd_ishl (M := MX6_see) (pc := 57) dX6_see_57
theorem sX6_see_58 : Snd MX6_see 58 (xBin 59 f_ior) := snd_ior (M := MX6_see) (pc := 58) dX6_see_58
theorem sX6_see_59 : Snd MX6_see 59 (xPfI 62 6 15) := snd_pfI (M := MX6_see) (pc := 59) (C0 := RX6) (T0 := TX6) (N := 32) dX6_see_59 rfl tbX6 tyX6 tyX6_ok nmX6 (by decide) w625 rfl (by decide +kernel)
theorem sX6_see_62 : Snd MX6_see 62 (xLdA 63 0) := snd_aload_n (M := MX6_see) (pc := 62) dX6_see_62
theorem sX6_see_63 : Snd MX6_see 63 (xDup 64) := snd_dup (M := MX6_see) (pc := 63) dX6_see_63
theorem sX6_see_64 : Snd MX6_see 64 (xGf 67 6 16) := snd_gf (M := MX6_see) (pc := 64) (C0 := RX6) (T0 := TX6) (N := 32) dX6_see_64 rfl tbX6 (by decide) w623
theorem sX6_see_67 : Snd MX6_see 67 (xK 68 (nI 1)) := snd_iconst (M := MX6_see) (pc := 67) dX6_see_67 (by decide +kernel)
theorem sX6_see_68 : Snd MX6_see 68 (xBin 69 f_iadd) := snd_iadd (M := MX6_see) (pc := 68) dX6_see_68
theorem sX6_see_69 : Snd MX6_see 69 (xPfI 72 6 16) := snd_pfI (M := MX6_see) (pc := 69) (C0 := RX6) (T0 := TX6) (N := 32) dX6_see_69 rfl tbX6 tyX6 tyX6_ok nmX6 (by decide) w623 rfl (by decide +kernel)
theorem sX6_see_72 : Snd MX6_see 72 (xLdA 73 0) := snd_aload_n (M := MX6_see) (pc := 72) dX6_see_72
theorem sX6_see_73 : Snd MX6_see 73 (xGf 76 6 16) := snd_gf (M := MX6_see) (pc := 73) (C0 := RX6) (T0 := TX6) (N := 32) dX6_see_73 rfl tbX6 (by decide) w623
theorem sX6_see_76 : Snd MX6_see 76 (xRet) := snd_iret (M := MX6_see) (pc := 76) dX6_see_76 rfl
theorem VX6_see : Valid MX6_see LX6_see := va_lid sX6_see_0 (va_lid sX6_see_1 (va_lid sX6_see_2 (va_lid sX6_see_5 (va_lid sX6_see_8 (va_lid sX6_see_9 (va_lid sX6_see_10 (va_lid sX6_see_11 (va_lid sX6_see_14 (va_lid sX6_see_16 (va_lid sX6_see_19 (va_lid sX6_see_21 (va_lid sX6_see_22 (va_lid sX6_see_23 (va_lid sX6_see_24 (va_lid sX6_see_27 (va_lid sX6_see_28 (va_lid sX6_see_31 (va_lid sX6_see_32 (va_lid sX6_see_33 (va_lid sX6_see_34 (va_lid sX6_see_37 (va_lid sX6_see_38 (va_lid sX6_see_39 (va_lid sX6_see_42 (va_lid sX6_see_43 (va_lid sX6_see_44 (va_lid sX6_see_47 (va_lid sX6_see_48 (va_lid sX6_see_51 (va_lid sX6_see_52 (va_lid sX6_see_55 (va_lid sX6_see_56 (va_lid sX6_see_57 (va_lid sX6_see_58 (va_lid sX6_see_59 (va_lid sX6_see_62 (va_lid sX6_see_63 (va_lid sX6_see_64 (va_lid sX6_see_67 (va_lid sX6_see_68 (va_lid sX6_see_69 (va_lid sX6_see_72 (va_lid sX6_see_73 (va_lid sX6_see_76 (va_lid0)))))))))))))))))))))))))))))))))))))))))))))
theorem kX6_see_0 : lk LX6_see 0 = some (xLdA 1 0) := rfl
theorem kX6_see_1 : lk LX6_see 1 = some (xLdI 2 1) := rfl
theorem kX6_see_2 : lk LX6_see 2 = some (xCallV MX6_isThing 6 1 5) := rfl
theorem kX6_see_5 : lk LX6_see 5 = some (xZ_ne 10 8) := rfl
theorem kX6_see_8 : lk LX6_see 8 = some (xK 9 ((-1))) := rfl
theorem kX6_see_9 : lk LX6_see 9 = some (xRet) := rfl
theorem kX6_see_10 : lk LX6_see 10 = some (xLdA 11 0) := rfl
theorem kX6_see_11 : lk LX6_see 11 = some (xGf 14 6 16) := rfl
theorem kX6_see_14 : lk LX6_see 14 = some (xK 16 (nI 8)) := rfl
theorem kX6_see_16 : lk LX6_see 16 = some (xC_ne 22 19) := rfl
theorem kX6_see_19 : lk LX6_see 19 = some (xK 21 ((-3))) := rfl
theorem kX6_see_21 : lk LX6_see 21 = some (xRet) := rfl
theorem kX6_see_22 : lk LX6_see 22 = some (xLdA 23 0) := rfl
theorem kX6_see_23 : lk LX6_see 23 = some (xDup 24) := rfl
theorem kX6_see_24 : lk LX6_see 24 = some (xGf 27 6 14) := rfl
theorem kX6_see_27 : lk LX6_see 27 = some (xLdI 28 2) := rfl
theorem kX6_see_28 : lk LX6_see 28 = some (xZ_eq 37 31) := rfl
theorem kX6_see_31 : lk LX6_see 31 = some (xK 32 (nI 1)) := rfl
theorem kX6_see_32 : lk LX6_see 32 = some (xLdI 33 1) := rfl
theorem kX6_see_33 : lk LX6_see 33 = some (xBin 34 f_ishl) := rfl
theorem kX6_see_34 : lk LX6_see 34 = some (xGo 38) := rfl
theorem kX6_see_37 : lk LX6_see 37 = some (xK 38 (nI 0)) := rfl
theorem kX6_see_38 : lk LX6_see 38 = some (xBin 39 f_ior) := rfl
theorem kX6_see_39 : lk LX6_see 39 = some (xPfI 42 6 14) := rfl
theorem kX6_see_42 : lk LX6_see 42 = some (xLdA 43 0) := rfl
theorem kX6_see_43 : lk LX6_see 43 = some (xDup 44) := rfl
theorem kX6_see_44 : lk LX6_see 44 = some (xGf 47 6 15) := rfl
theorem kX6_see_47 : lk LX6_see 47 = some (xLdI 48 2) := rfl
theorem kX6_see_48 : lk LX6_see 48 = some (xZ_eq 55 51) := rfl
theorem kX6_see_51 : lk LX6_see 51 = some (xK 52 (nI 0)) := rfl
theorem kX6_see_52 : lk LX6_see 52 = some (xGo 58) := rfl
theorem kX6_see_55 : lk LX6_see 55 = some (xK 56 (nI 1)) := rfl
theorem kX6_see_56 : lk LX6_see 56 = some (xLdI 57 1) := rfl
theorem kX6_see_57 : lk LX6_see 57 = some (xBin 58 f_ishl) := rfl
theorem kX6_see_58 : lk LX6_see 58 = some (xBin 59 f_ior) := rfl
theorem kX6_see_59 : lk LX6_see 59 = some (xPfI 62 6 15) := rfl
theorem kX6_see_62 : lk LX6_see 62 = some (xLdA 63 0) := rfl
theorem kX6_see_63 : lk LX6_see 63 = some (xDup 64) := rfl
theorem kX6_see_64 : lk LX6_see 64 = some (xGf 67 6 16) := rfl
theorem kX6_see_67 : lk LX6_see 67 = some (xK 68 (nI 1)) := rfl
theorem kX6_see_68 : lk LX6_see 68 = some (xBin 69 f_iadd) := rfl
theorem kX6_see_69 : lk LX6_see 69 = some (xPfI 72 6 16) := rfl
theorem kX6_see_72 : lk LX6_see 72 = some (xLdA 73 0) := rfl
theorem kX6_see_73 : lk LX6_see 73 = some (xGf 76 6 16) := rfl
theorem kX6_see_76 : lk LX6_see 76 = some (xRet) := rfl
def LX6_forget : List (Nat × XI) := [(0, xLdA 1 0),
  (1, xGf 4 6 16),
  (4, xStI 5 1),
  (5, xLdA 6 0),
  (6, xK 7 (nI 0)),
  (7, xPfI 10 6 16),
  (10, xLdA 11 0),
  (11, xK 12 (nI 0)),
  (12, xPfI 15 6 14),
  (15, xLdA 16 0),
  (16, xK 17 (nI 0)),
  (17, xPfI 20 6 15),
  (20, xLdI 21 1),
  (21, xRet)]
theorem sX6_forget_0 : Snd MX6_forget 0 (xLdA 1 0) := snd_aload_n (M := MX6_forget) (pc := 0) dX6_forget_0
theorem sX6_forget_1 : Snd MX6_forget 1 (xGf 4 6 16) := snd_gf (M := MX6_forget) (pc := 1) (C0 := RX6) (T0 := TX6) (N := 32) dX6_forget_1 rfl tbX6 (by decide) w623
theorem sX6_forget_4 : Snd MX6_forget 4 (xStI 5 1) := snd_istore_n (M := MX6_forget) (pc := 4) dX6_forget_4 (by decide)
theorem sX6_forget_5 : Snd MX6_forget 5 (xLdA 6 0) := snd_aload_n (M := MX6_forget) (pc := 5) dX6_forget_5
theorem sX6_forget_6 : Snd MX6_forget 6 (xK 7 (nI 0)) := snd_iconst (M := MX6_forget) (pc := 6) dX6_forget_6 (by decide +kernel)
theorem sX6_forget_7 : Snd MX6_forget 7 (xPfI 10 6 16) := snd_pfI (M := MX6_forget) (pc := 7) (C0 := RX6) (T0 := TX6) (N := 32) dX6_forget_7 rfl tbX6 tyX6 tyX6_ok nmX6 (by decide) w623 rfl (by decide +kernel)
theorem sX6_forget_10 : Snd MX6_forget 10 (xLdA 11 0) := snd_aload_n (M := MX6_forget) (pc := 10) dX6_forget_10
theorem sX6_forget_11 : Snd MX6_forget 11 (xK 12 (nI 0)) := snd_iconst (M := MX6_forget) (pc := 11) dX6_forget_11 (by decide +kernel)
theorem sX6_forget_12 : Snd MX6_forget 12 (xPfI 15 6 14) := snd_pfI (M := MX6_forget) (pc := 12) (C0 := RX6) (T0 := TX6) (N := 32) dX6_forget_12 rfl tbX6 tyX6 tyX6_ok nmX6 (by decide) w624 rfl (by decide +kernel)
theorem sX6_forget_15 : Snd MX6_forget 15 (xLdA 16 0) := snd_aload_n (M := MX6_forget) (pc := 15) dX6_forget_15
theorem sX6_forget_16 : Snd MX6_forget 16 (xK 17 (nI 0)) := snd_iconst (M := MX6_forget) (pc := 16) dX6_forget_16 (by decide +kernel)
theorem sX6_forget_17 : Snd MX6_forget 17 (xPfI 20 6 15) := snd_pfI (M := MX6_forget) (pc := 17) (C0 := RX6) (T0 := TX6) (N := 32) dX6_forget_17 rfl tbX6 tyX6 tyX6_ok nmX6 (by decide) w625 rfl (by decide +kernel)
theorem sX6_forget_20 : Snd MX6_forget 20 (xLdI 21 1) := snd_iload_n (M := MX6_forget) (pc := 20) dX6_forget_20
theorem sX6_forget_21 : Snd MX6_forget 21 (xRet) := snd_iret (M := MX6_forget) (pc := 21) dX6_forget_21 rfl
theorem VX6_forget : Valid MX6_forget LX6_forget := va_lid sX6_forget_0 (va_lid sX6_forget_1 (va_lid sX6_forget_4 (va_lid sX6_forget_5 (va_lid sX6_forget_6 (va_lid sX6_forget_7 (va_lid sX6_forget_10 (va_lid sX6_forget_11 (va_lid sX6_forget_12 (va_lid sX6_forget_15 (va_lid sX6_forget_16 (va_lid sX6_forget_17 (va_lid sX6_forget_20 (va_lid sX6_forget_21 (va_lid0))))))))))))))
theorem kX6_forget_0 : lk LX6_forget 0 = some (xLdA 1 0) := rfl
theorem kX6_forget_1 : lk LX6_forget 1 = some (xGf 4 6 16) := rfl
theorem kX6_forget_4 : lk LX6_forget 4 = some (xStI 5 1) := rfl
theorem kX6_forget_5 : lk LX6_forget 5 = some (xLdA 6 0) := rfl
theorem kX6_forget_6 : lk LX6_forget 6 = some (xK 7 (nI 0)) := rfl
theorem kX6_forget_7 : lk LX6_forget 7 = some (xPfI 10 6 16) := rfl
theorem kX6_forget_10 : lk LX6_forget 10 = some (xLdA 11 0) := rfl
theorem kX6_forget_11 : lk LX6_forget 11 = some (xK 12 (nI 0)) := rfl
theorem kX6_forget_12 : lk LX6_forget 12 = some (xPfI 15 6 14) := rfl
theorem kX6_forget_15 : lk LX6_forget 15 = some (xLdA 16 0) := rfl
theorem kX6_forget_16 : lk LX6_forget 16 = some (xK 17 (nI 0)) := rfl
theorem kX6_forget_17 : lk LX6_forget 17 = some (xPfI 20 6 15) := rfl
theorem kX6_forget_20 : lk LX6_forget 20 = some (xLdI 21 1) := rfl
theorem kX6_forget_21 : lk LX6_forget 21 = some (xRet) := rfl
def LX6_meant : List (Nat × XI) := [(0, xK 1 (nI 0)),
  (1, xStI 2 1),
  (2, xK 3 (nI 0)),
  (3, xStI 4 2),
  (4, xLdI 5 2),
  (5, xLdA 6 0),
  (6, xGf 9 6 9),
  (9, xC_ge 58 12),
  (12, xLdI 13 1),
  (13, xLdA 14 0),
  (14, xGf 17 6 14),
  (17, xLdA 18 0),
  (18, xGf 21 6 13),
  (21, xLdI 22 2),
  (22, xiaload 23),
  (23, xK 24 ((-1))),
  (24, xBin 25 f_ixor),
  (25, xBin 26 f_iand),
  (26, xZ_ne 49 29),
  (29, xLdA 30 0),
  (30, xGf 33 6 15),
  (33, xLdA 34 0),
  (34, xGf 37 6 13),
  (37, xLdI 38 2),
  (38, xiaload 39),
  (39, xBin 40 f_iand),
  (40, xZ_ne 49 43),
  (43, xK 44 (nI 1)),
  (44, xLdI 45 2),
  (45, xBin 46 f_ishl),
  (46, xGo 50),
  (49, xK 50 (nI 0)),
  (50, xBin 51 f_ior),
  (51, xStI 52 1),
  (52, xInc 55 2 (nI 1)),
  (55, xGo 4),
  (58, xLdI 59 1),
  (59, xRet)]
theorem sX6_meant_0 : Snd MX6_meant 0 (xK 1 (nI 0)) := snd_iconst (M := MX6_meant) (pc := 0) dX6_meant_0 (by decide +kernel)
theorem sX6_meant_1 : Snd MX6_meant 1 (xStI 2 1) := snd_istore_n (M := MX6_meant) (pc := 1) dX6_meant_1 (by decide)
theorem sX6_meant_2 : Snd MX6_meant 2 (xK 3 (nI 0)) := snd_iconst (M := MX6_meant) (pc := 2) dX6_meant_2 (by decide +kernel)
theorem sX6_meant_3 : Snd MX6_meant 3 (xStI 4 2) := snd_istore_n (M := MX6_meant) (pc := 3) dX6_meant_3 (by decide)
theorem sX6_meant_4 : Snd MX6_meant 4 (xLdI 5 2) := snd_iload_n (M := MX6_meant) (pc := 4) dX6_meant_4
theorem sX6_meant_5 : Snd MX6_meant 5 (xLdA 6 0) := snd_aload_n (M := MX6_meant) (pc := 5) dX6_meant_5
theorem sX6_meant_6 : Snd MX6_meant 6 (xGf 9 6 9) := snd_gf (M := MX6_meant) (pc := 6) (C0 := RX6) (T0 := TX6) (N := 32) dX6_meant_6 rfl tbX6 (by decide) w479
theorem sX6_meant_9 : Snd MX6_meant 9 (xC_ge 58 12) := snd_icmp_ge (M := MX6_meant) (pc := 9) dX6_meant_9 (by decide)
theorem sX6_meant_12 : Snd MX6_meant 12 (xLdI 13 1) := snd_iload_n (M := MX6_meant) (pc := 12) dX6_meant_12
theorem sX6_meant_13 : Snd MX6_meant 13 (xLdA 14 0) := snd_aload_n (M := MX6_meant) (pc := 13) dX6_meant_13
theorem sX6_meant_14 : Snd MX6_meant 14 (xGf 17 6 14) := snd_gf (M := MX6_meant) (pc := 14) (C0 := RX6) (T0 := TX6) (N := 32) dX6_meant_14 rfl tbX6 (by decide) w624
theorem sX6_meant_17 : Snd MX6_meant 17 (xLdA 18 0) := snd_aload_n (M := MX6_meant) (pc := 17) dX6_meant_17
theorem sX6_meant_18 : Snd MX6_meant 18 (xGf 21 6 13) := snd_gf (M := MX6_meant) (pc := 18) (C0 := RX6) (T0 := TX6) (N := 32) dX6_meant_18 rfl tbX6 (by decide) w451
theorem sX6_meant_21 : Snd MX6_meant 21 (xLdI 22 2) := snd_iload_n (M := MX6_meant) (pc := 21) dX6_meant_21
theorem sX6_meant_22 : Snd MX6_meant 22 (xiaload 23) := snd_iaload (M := MX6_meant) (pc := 22) dX6_meant_22
theorem sX6_meant_23 : Snd MX6_meant 23 (xK 24 ((-1))) := snd_iconst (M := MX6_meant) (pc := 23) dX6_meant_23 (by decide +kernel)
theorem sX6_meant_24 : Snd MX6_meant 24 (xBin 25 f_ixor) := snd_ixor (M := MX6_meant) (pc := 24) dX6_meant_24
theorem sX6_meant_25 : Snd MX6_meant 25 (xBin 26 f_iand) := snd_iand (M := MX6_meant) (pc := 25) dX6_meant_25
theorem sX6_meant_26 : Snd MX6_meant 26 (xZ_ne 49 29) := snd_if_ne (M := MX6_meant) (pc := 26) dX6_meant_26 (by decide)
theorem sX6_meant_29 : Snd MX6_meant 29 (xLdA 30 0) := snd_aload_n (M := MX6_meant) (pc := 29) dX6_meant_29
theorem sX6_meant_30 : Snd MX6_meant 30 (xGf 33 6 15) := snd_gf (M := MX6_meant) (pc := 30) (C0 := RX6) (T0 := TX6) (N := 32) dX6_meant_30 rfl tbX6 (by decide) w625
theorem sX6_meant_33 : Snd MX6_meant 33 (xLdA 34 0) := snd_aload_n (M := MX6_meant) (pc := 33) dX6_meant_33
theorem sX6_meant_34 : Snd MX6_meant 34 (xGf 37 6 13) := snd_gf (M := MX6_meant) (pc := 34) (C0 := RX6) (T0 := TX6) (N := 32) dX6_meant_34 rfl tbX6 (by decide) w451
theorem sX6_meant_37 : Snd MX6_meant 37 (xLdI 38 2) := snd_iload_n (M := MX6_meant) (pc := 37) dX6_meant_37
theorem sX6_meant_38 : Snd MX6_meant 38 (xiaload 39) := snd_iaload (M := MX6_meant) (pc := 38) dX6_meant_38
theorem sX6_meant_39 : Snd MX6_meant 39 (xBin 40 f_iand) := snd_iand (M := MX6_meant) (pc := 39) dX6_meant_39
theorem sX6_meant_40 : Snd MX6_meant 40 (xZ_ne 49 43) := snd_if_ne (M := MX6_meant) (pc := 40) dX6_meant_40 (by decide)
theorem sX6_meant_43 : Snd MX6_meant 43 (xK 44 (nI 1)) := snd_iconst (M := MX6_meant) (pc := 43) dX6_meant_43 (by decide +kernel)
theorem sX6_meant_44 : Snd MX6_meant 44 (xLdI 45 2) := snd_iload_n (M := MX6_meant) (pc := 44) dX6_meant_44
theorem sX6_meant_45 : Snd MX6_meant 45 (xBin 46 f_ishl) := snd_ishl (M := MX6_meant) (pc := 45) dX6_meant_45
theorem sX6_meant_46 : Snd MX6_meant 46 (xGo 50) := snd_goto (M := MX6_meant) (pc := 46) dX6_meant_46 (by decide)
theorem sX6_meant_49 : Snd MX6_meant 49 (xK 50 (nI 0)) := snd_iconst (M := MX6_meant) (pc := 49) dX6_meant_49 (by decide +kernel)
theorem sX6_meant_50 : Snd MX6_meant 50 (xBin 51 f_ior) := snd_ior (M := MX6_meant) (pc := 50) dX6_meant_50
theorem sX6_meant_51 : Snd MX6_meant 51 (xStI 52 1) := snd_istore_n (M := MX6_meant) (pc := 51) dX6_meant_51 (by decide)
theorem sX6_meant_52 : Snd MX6_meant 52 (xInc 55 2 (nI 1)) := snd_iinc (M := MX6_meant) (pc := 52) dX6_meant_52 (by decide +kernel) (by decide)
theorem sX6_meant_55 : Snd MX6_meant 55 (xGo 4) := snd_goto (M := MX6_meant) (pc := 55) dX6_meant_55 (by decide)
theorem sX6_meant_58 : Snd MX6_meant 58 (xLdI 59 1) := snd_iload_n (M := MX6_meant) (pc := 58) dX6_meant_58
theorem sX6_meant_59 : Snd MX6_meant 59 (xRet) := snd_iret (M := MX6_meant) (pc := 59) dX6_meant_59 rfl
theorem VX6_meant : Valid MX6_meant LX6_meant := va_lid sX6_meant_0 (va_lid sX6_meant_1 (va_lid sX6_meant_2 (va_lid sX6_meant_3 (va_lid sX6_meant_4 (va_lid sX6_meant_5 (va_lid sX6_meant_6 (va_lid sX6_meant_9 (va_lid sX6_meant_12 (va_lid sX6_meant_13 (va_lid sX6_meant_14 (va_lid sX6_meant_17 (va_lid sX6_meant_18 (va_lid sX6_meant_21 (va_lid sX6_meant_22 (va_lid sX6_meant_23 (va_lid sX6_meant_24 (va_lid sX6_meant_25 (va_lid sX6_meant_26 (va_lid sX6_meant_29 (va_lid sX6_meant_30 (va_lid sX6_meant_33 (va_lid sX6_meant_34 (va_lid sX6_meant_37 (va_lid sX6_meant_38 (va_lid sX6_meant_39 (va_lid sX6_meant_40 (va_lid sX6_meant_43 (va_lid sX6_meant_44 (va_lid sX6_meant_45 (va_lid sX6_meant_46 (va_lid sX6_meant_49 (va_lid sX6_meant_50 (va_lid sX6_meant_51 (va_lid sX6_meant_52 (va_lid sX6_meant_55 (va_lid sX6_meant_58 (va_lid sX6_meant_59 (va_lid0))))))))))))))))))))))))))))))))))))))
theorem kX6_meant_0 : lk LX6_meant 0 = some (xK 1 (nI 0)) := rfl
theorem kX6_meant_1 : lk LX6_meant 1 = some (xStI 2 1) := rfl
theorem kX6_meant_2 : lk LX6_meant 2 = some (xK 3 (nI 0)) := rfl
theorem kX6_meant_3 : lk LX6_meant 3 = some (xStI 4 2) := rfl
theorem kX6_meant_4 : lk LX6_meant 4 = some (xLdI 5 2) := rfl
theorem kX6_meant_5 : lk LX6_meant 5 = some (xLdA 6 0) := rfl
theorem kX6_meant_6 : lk LX6_meant 6 = some (xGf 9 6 9) := rfl
theorem kX6_meant_9 : lk LX6_meant 9 = some (xC_ge 58 12) := rfl
theorem kX6_meant_12 : lk LX6_meant 12 = some (xLdI 13 1) := rfl
theorem kX6_meant_13 : lk LX6_meant 13 = some (xLdA 14 0) := rfl
theorem kX6_meant_14 : lk LX6_meant 14 = some (xGf 17 6 14) := rfl
theorem kX6_meant_17 : lk LX6_meant 17 = some (xLdA 18 0) := rfl
theorem kX6_meant_18 : lk LX6_meant 18 = some (xGf 21 6 13) := rfl
theorem kX6_meant_21 : lk LX6_meant 21 = some (xLdI 22 2) := rfl
theorem kX6_meant_22 : lk LX6_meant 22 = some (xiaload 23) := rfl
theorem kX6_meant_23 : lk LX6_meant 23 = some (xK 24 ((-1))) := rfl
theorem kX6_meant_24 : lk LX6_meant 24 = some (xBin 25 f_ixor) := rfl
theorem kX6_meant_25 : lk LX6_meant 25 = some (xBin 26 f_iand) := rfl
theorem kX6_meant_26 : lk LX6_meant 26 = some (xZ_ne 49 29) := rfl
theorem kX6_meant_29 : lk LX6_meant 29 = some (xLdA 30 0) := rfl
theorem kX6_meant_30 : lk LX6_meant 30 = some (xGf 33 6 15) := rfl
theorem kX6_meant_33 : lk LX6_meant 33 = some (xLdA 34 0) := rfl
theorem kX6_meant_34 : lk LX6_meant 34 = some (xGf 37 6 13) := rfl
theorem kX6_meant_37 : lk LX6_meant 37 = some (xLdI 38 2) := rfl
theorem kX6_meant_38 : lk LX6_meant 38 = some (xiaload 39) := rfl
theorem kX6_meant_39 : lk LX6_meant 39 = some (xBin 40 f_iand) := rfl
theorem kX6_meant_40 : lk LX6_meant 40 = some (xZ_ne 49 43) := rfl
theorem kX6_meant_43 : lk LX6_meant 43 = some (xK 44 (nI 1)) := rfl
theorem kX6_meant_44 : lk LX6_meant 44 = some (xLdI 45 2) := rfl
theorem kX6_meant_45 : lk LX6_meant 45 = some (xBin 46 f_ishl) := rfl
theorem kX6_meant_46 : lk LX6_meant 46 = some (xGo 50) := rfl
theorem kX6_meant_49 : lk LX6_meant 49 = some (xK 50 (nI 0)) := rfl
theorem kX6_meant_50 : lk LX6_meant 50 = some (xBin 51 f_ior) := rfl
theorem kX6_meant_51 : lk LX6_meant 51 = some (xStI 52 1) := rfl
theorem kX6_meant_52 : lk LX6_meant 52 = some (xInc 55 2 (nI 1)) := rfl
theorem kX6_meant_55 : lk LX6_meant 55 = some (xGo 4) := rfl
theorem kX6_meant_58 : lk LX6_meant 58 = some (xLdI 59 1) := rfl
theorem kX6_meant_59 : lk LX6_meant 59 = some (xRet) := rfl
def LX6_moths : List (Nat × XI) := [(0, xLdA 1 0),
  (1, xLdI 2 1),
  (2, xCallV MX6_isLife 6 1 5),
  (5, xZ_eq 30 8),
  (8, xLdI 9 2),
  (9, xI2l 10),
  (10, xKL 11 (lN 0)),
  (11, xKL 14 (lN 10)),
  (14, xCallS MX6_in 3 17),
  (17, xZ_eq 30 20),
  (20, xLdI 21 3),
  (21, xI2l 22),
  (22, xKL 23 (lN 0)),
  (23, xKL 24 (lN 1)),
  (24, xCallS MX6_in 3 27),
  (27, xZ_ne 32 30),
  (30, xK 31 ((-1))),
  (31, xRet),
  (32, xK 33 (nI 0)),
  (33, xStI 35 4),
  (35, xK 36 (nI 1)),
  (36, xStI 38 5),
  (38, xK 39 (nI 0)),
  (39, xStI 41 6),
  (41, xLdI 43 6),
  (43, xLdA 44 0),
  (44, xGf 47 6 5),
  (47, xC_ge 81 50),
  (50, xLdI 52 5),
  (52, xLdA 53 0),
  (53, xGf 56 6 0),
  (56, xK 57 (nI 2)),
  (57, xiaload 58),
  (58, xLdI 60 6),
  (60, xCallS MX6_has 2 63),
  (63, xZ_eq 71 66),
  (66, xK 68 (nI 10)),
  (68, xGo 72),
  (71, xK 72 (nI 1)),
  (72, xBin 73 f_imul),
  (73, xStI 75 5),
  (75, xInc 78 6 (nI 1)),
  (78, xGo 41),
  (81, xK 82 (nI 0)),
  (82, xStI 84 6),
  (84, xLdI 86 6),
  (86, xK 87 (nI 1)),
  (87, xLdA 88 0),
  (88, xGf 91 6 5),
  (91, xBin 92 f_ishl),
  (92, xC_ge 207 95),
  (95, xK 96 (nI 1)),
  (96, xStI 98 7),
  (98, xK 99 (nI 0)),
  (99, xStI 101 8),
  (101, xLdI 103 8),
  (103, xLdA 104 0),
  (104, xGf 107 6 5),
  (107, xC_ge 171 110),
  (110, xLdI 112 7),
  (112, xLdA 113 0),
  (113, xGf 116 6 0),
  (116, xK 117 (nI 2)),
  (117, xiaload 118),
  (118, xLdI 120 8),
  (120, xCallS MX6_has 2 123),
  (123, xZ_ne 144 126),
  (126, xLdI 128 6),
  (128, xLdI 130 8),
  (130, xCallS MX6_has 2 133),
  (133, xZ_eq 140 136),
  (136, xK 137 (nI 0)),
  (137, xGo 162),
  (140, xK 141 (nI 1)),
  (141, xGo 162),
  (144, xLdI 146 6),
  (146, xLdI 148 8),
  (148, xCallS MX6_has 2 151),
  (151, xZ_eq 158 154),
  (154, xLdI 155 2),
  (155, xGo 162),
  (158, xK 160 (nI 10)),
  (160, xLdI 161 2),
  (161, xBin 162 f_isub),
  (162, xBin 163 f_imul),
  (163, xStI 165 7),
  (165, xInc 168 8 (nI 1)),
  (168, xGo 101),
  (171, xLdI 173 4),
  (173, xLdA 174 0),
  (174, xLdI 175 1),
  (175, xLdA 176 0),
  (176, xGf 179 6 0),
  (179, xK 180 (nI 2)),
  (180, xiaload 181),
  (181, xLdI 183 6),
  (183, xK 184 ((-1))),
  (184, xBin 185 f_ixor),
  (185, xBin 186 f_iand),
  (186, xCallV MX6_canBy 6 2 189),
  (189, xZ_eq 197 192),
  (192, xLdI 194 7),
  (194, xGo 198),
  (197, xK 198 (nI 0)),
  (198, xBin 199 f_iadd),
  (199, xStI 201 4),
  (201, xInc 204 6 (nI 1)),
  (204, xGo 84),
  (207, xLdA 208 0),
  (208, xLdI 210 4),
  (210, xLdI 212 5),
  (212, xLdI 213 3),
  (213, xCallV MX6_partOf 6 3 216),
  (216, xRet)]
theorem sX6_moths_0 : Snd MX6_moths 0 (xLdA 1 0) := snd_aload_n (M := MX6_moths) (pc := 0) dX6_moths_0
theorem sX6_moths_1 : Snd MX6_moths 1 (xLdI 2 1) := snd_iload_n (M := MX6_moths) (pc := 1) dX6_moths_1
theorem sX6_moths_2 : Snd MX6_moths 2 (xCallV MX6_isLife 6 1 5) := snd_callV (M := MX6_moths) (pc := 2) (n := 1) dX6_moths_2 rfl w572 w573 w574 ⟨w462, w571, ⟨by decide, by decide, by decide +kernel⟩, by decide⟩ ⟨rfl, rfl⟩
theorem sX6_moths_5 : Snd MX6_moths 5 (xZ_eq 30 8) := snd_if_eq (M := MX6_moths) (pc := 5) dX6_moths_5 (by decide)
theorem sX6_moths_8 : Snd MX6_moths 8 (xLdI 9 2) := snd_iload_n (M := MX6_moths) (pc := 8) dX6_moths_8
theorem sX6_moths_9 : Snd MX6_moths 9 (xI2l 10) := snd_i2l (M := MX6_moths) (pc := 9) dX6_moths_9
theorem sX6_moths_10 : Snd MX6_moths 10 (xKL 11 (lN 0)) := snd_lconst (M := MX6_moths) (pc := 10) dX6_moths_10 rfl
theorem sX6_moths_11 : Snd MX6_moths 11 (xKL 14 (lN 10)) := snd_ldc2 (M := MX6_moths) (pc := 11) dX6_moths_11 w626
theorem sX6_moths_14 : Snd MX6_moths 14 (xCallS MX6_in 3 17) := snd_callS (M := MX6_moths) (pc := 14) (n := 3) dX6_moths_14 w477 w478 ⟨w462, w476, ⟨by decide, by decide, by decide +kernel⟩, by decide⟩ ⟨rfl, rfl⟩
theorem sX6_moths_17 : Snd MX6_moths 17 (xZ_eq 30 20) := snd_if_eq (M := MX6_moths) (pc := 17) dX6_moths_17 (by decide)
theorem sX6_moths_20 : Snd MX6_moths 20 (xLdI 21 3) := snd_iload_n (M := MX6_moths) (pc := 20) dX6_moths_20
theorem sX6_moths_21 : Snd MX6_moths 21 (xI2l 22) := snd_i2l (M := MX6_moths) (pc := 21) dX6_moths_21
theorem sX6_moths_22 : Snd MX6_moths 22 (xKL 23 (lN 0)) := snd_lconst (M := MX6_moths) (pc := 22) dX6_moths_22 rfl
theorem sX6_moths_23 : Snd MX6_moths 23 (xKL 24 (lN 1)) := snd_lconst (M := MX6_moths) (pc := 23) dX6_moths_23 rfl
theorem sX6_moths_24 : Snd MX6_moths 24 (xCallS MX6_in 3 27) := snd_callS (M := MX6_moths) (pc := 24) (n := 3) dX6_moths_24 w477 w478 ⟨w462, w476, ⟨by decide, by decide, by decide +kernel⟩, by decide⟩ ⟨rfl, rfl⟩
theorem sX6_moths_27 : Snd MX6_moths 27 (xZ_ne 32 30) := snd_if_ne (M := MX6_moths) (pc := 27) dX6_moths_27 (by decide)
theorem sX6_moths_30 : Snd MX6_moths 30 (xK 31 ((-1))) := snd_iconst (M := MX6_moths) (pc := 30) dX6_moths_30 (by decide +kernel)
theorem sX6_moths_31 : Snd MX6_moths 31 (xRet) := snd_iret (M := MX6_moths) (pc := 31) dX6_moths_31 rfl
theorem sX6_moths_32 : Snd MX6_moths 32 (xK 33 (nI 0)) := snd_iconst (M := MX6_moths) (pc := 32) dX6_moths_32 (by decide +kernel)
theorem sX6_moths_33 : Snd MX6_moths 33 (xStI 35 4) := snd_istore (M := MX6_moths) (pc := 33) dX6_moths_33 (by decide)
theorem sX6_moths_35 : Snd MX6_moths 35 (xK 36 (nI 1)) := snd_iconst (M := MX6_moths) (pc := 35) dX6_moths_35 (by decide +kernel)
theorem sX6_moths_36 : Snd MX6_moths 36 (xStI 38 5) := snd_istore (M := MX6_moths) (pc := 36) dX6_moths_36 (by decide)
theorem sX6_moths_38 : Snd MX6_moths 38 (xK 39 (nI 0)) := snd_iconst (M := MX6_moths) (pc := 38) dX6_moths_38 (by decide +kernel)
theorem sX6_moths_39 : Snd MX6_moths 39 (xStI 41 6) := snd_istore (M := MX6_moths) (pc := 39) dX6_moths_39 (by decide)
theorem sX6_moths_41 : Snd MX6_moths 41 (xLdI 43 6) := snd_iload (M := MX6_moths) (pc := 41) dX6_moths_41
theorem sX6_moths_43 : Snd MX6_moths 43 (xLdA 44 0) := snd_aload_n (M := MX6_moths) (pc := 43) dX6_moths_43
theorem sX6_moths_44 : Snd MX6_moths 44 (xGf 47 6 5) := snd_gf (M := MX6_moths) (pc := 44) (C0 := RX6) (T0 := TX6) (N := 32) dX6_moths_44 rfl tbX6 (by decide) w475
theorem sX6_moths_47 : Snd MX6_moths 47 (xC_ge 81 50) := snd_icmp_ge (M := MX6_moths) (pc := 47) dX6_moths_47 (by decide)
theorem sX6_moths_50 : Snd MX6_moths 50 (xLdI 52 5) := snd_iload (M := MX6_moths) (pc := 50) dX6_moths_50
theorem sX6_moths_52 : Snd MX6_moths 52 (xLdA 53 0) := snd_aload_n (M := MX6_moths) (pc := 52) dX6_moths_52
theorem sX6_moths_53 : Snd MX6_moths 53 (xGf 56 6 0) := snd_gf (M := MX6_moths) (pc := 53) (C0 := RX6) (T0 := TX6) (N := 32) dX6_moths_53 rfl tbX6 (by decide) w444
theorem sX6_moths_56 : Snd MX6_moths 56 (xK 57 (nI 2)) := snd_iconst (M := MX6_moths) (pc := 56) dX6_moths_56 (by decide +kernel)
theorem sX6_moths_57 : Snd MX6_moths 57 (xiaload 58) := snd_iaload (M := MX6_moths) (pc := 57) dX6_moths_57
theorem sX6_moths_58 : Snd MX6_moths 58 (xLdI 60 6) := snd_iload (M := MX6_moths) (pc := 58) dX6_moths_58
theorem sX6_moths_60 : Snd MX6_moths 60 (xCallS MX6_has 2 63) := snd_callS (M := MX6_moths) (pc := 60) (n := 2) dX6_moths_60 w530 w531 ⟨w462, w529, ⟨by decide, by decide, by decide +kernel⟩, by decide⟩ ⟨rfl, rfl⟩
theorem sX6_moths_63 : Snd MX6_moths 63 (xZ_eq 71 66) := snd_if_eq (M := MX6_moths) (pc := 63) dX6_moths_63 (by decide)
theorem sX6_moths_66 : Snd MX6_moths 66 (xK 68 (nI 10)) := snd_bipush (M := MX6_moths) (pc := 66) dX6_moths_66 (by decide +kernel)
theorem sX6_moths_68 : Snd MX6_moths 68 (xGo 72) := snd_goto (M := MX6_moths) (pc := 68) dX6_moths_68 (by decide)
theorem sX6_moths_71 : Snd MX6_moths 71 (xK 72 (nI 1)) := snd_iconst (M := MX6_moths) (pc := 71) dX6_moths_71 (by decide +kernel)
theorem sX6_moths_72 : Snd MX6_moths 72 (xBin 73 f_imul) := snd_imul (M := MX6_moths) (pc := 72) dX6_moths_72
theorem sX6_moths_73 : Snd MX6_moths 73 (xStI 75 5) := snd_istore (M := MX6_moths) (pc := 73) dX6_moths_73 (by decide)
theorem sX6_moths_75 : Snd MX6_moths 75 (xInc 78 6 (nI 1)) := snd_iinc (M := MX6_moths) (pc := 75) dX6_moths_75 (by decide +kernel) (by decide)
theorem sX6_moths_78 : Snd MX6_moths 78 (xGo 41) := snd_goto (M := MX6_moths) (pc := 78) dX6_moths_78 (by decide)
theorem sX6_moths_81 : Snd MX6_moths 81 (xK 82 (nI 0)) := snd_iconst (M := MX6_moths) (pc := 81) dX6_moths_81 (by decide +kernel)
theorem sX6_moths_82 : Snd MX6_moths 82 (xStI 84 6) := snd_istore (M := MX6_moths) (pc := 82) dX6_moths_82 (by decide)
theorem sX6_moths_84 : Snd MX6_moths 84 (xLdI 86 6) := snd_iload (M := MX6_moths) (pc := 84) dX6_moths_84
theorem sX6_moths_86 : Snd MX6_moths 86 (xK 87 (nI 1)) := snd_iconst (M := MX6_moths) (pc := 86) dX6_moths_86 (by decide +kernel)
theorem sX6_moths_87 : Snd MX6_moths 87 (xLdA 88 0) := snd_aload_n (M := MX6_moths) (pc := 87) dX6_moths_87
theorem sX6_moths_88 : Snd MX6_moths 88 (xGf 91 6 5) := snd_gf (M := MX6_moths) (pc := 88) (C0 := RX6) (T0 := TX6) (N := 32) dX6_moths_88 rfl tbX6 (by decide) w475
theorem sX6_moths_91 : Snd MX6_moths 91 (xBin 92 f_ishl) := snd_ishl (M := MX6_moths) (pc := 91) dX6_moths_91
theorem sX6_moths_92 : Snd MX6_moths 92 (xC_ge 207 95) := snd_icmp_ge (M := MX6_moths) (pc := 92) dX6_moths_92 (by decide)
theorem sX6_moths_95 : Snd MX6_moths 95 (xK 96 (nI 1)) := snd_iconst (M := MX6_moths) (pc := 95) dX6_moths_95 (by decide +kernel)
theorem sX6_moths_96 : Snd MX6_moths 96 (xStI 98 7) := snd_istore (M := MX6_moths) (pc := 96) dX6_moths_96 (by decide)
theorem sX6_moths_98 : Snd MX6_moths 98 (xK 99 (nI 0)) := snd_iconst (M := MX6_moths) (pc := 98) dX6_moths_98 (by decide +kernel)
theorem sX6_moths_99 : Snd MX6_moths 99 (xStI 101 8) := snd_istore (M := MX6_moths) (pc := 99) dX6_moths_99 (by decide)
theorem sX6_moths_101 : Snd MX6_moths 101 (xLdI 103 8) := snd_iload (M := MX6_moths) (pc := 101) dX6_moths_101
theorem sX6_moths_103 : Snd MX6_moths 103 (xLdA 104 0) := snd_aload_n (M := MX6_moths) (pc := 103) dX6_moths_103
theorem sX6_moths_104 : Snd MX6_moths 104 (xGf 107 6 5) := snd_gf (M := MX6_moths) (pc := 104) (C0 := RX6) (T0 := TX6) (N := 32) dX6_moths_104 rfl tbX6 (by decide) w475
theorem sX6_moths_107 : Snd MX6_moths 107 (xC_ge 171 110) := snd_icmp_ge (M := MX6_moths) (pc := 107) dX6_moths_107 (by decide)
theorem sX6_moths_110 : Snd MX6_moths 110 (xLdI 112 7) := snd_iload (M := MX6_moths) (pc := 110) dX6_moths_110
theorem sX6_moths_112 : Snd MX6_moths 112 (xLdA 113 0) := snd_aload_n (M := MX6_moths) (pc := 112) dX6_moths_112
theorem sX6_moths_113 : Snd MX6_moths 113 (xGf 116 6 0) := snd_gf (M := MX6_moths) (pc := 113) (C0 := RX6) (T0 := TX6) (N := 32) dX6_moths_113 rfl tbX6 (by decide) w444
theorem sX6_moths_116 : Snd MX6_moths 116 (xK 117 (nI 2)) := snd_iconst (M := MX6_moths) (pc := 116) dX6_moths_116 (by decide +kernel)
theorem sX6_moths_117 : Snd MX6_moths 117 (xiaload 118) := snd_iaload (M := MX6_moths) (pc := 117) dX6_moths_117
theorem sX6_moths_118 : Snd MX6_moths 118 (xLdI 120 8) := snd_iload (M := MX6_moths) (pc := 118) dX6_moths_118
theorem sX6_moths_120 : Snd MX6_moths 120 (xCallS MX6_has 2 123) := snd_callS (M := MX6_moths) (pc := 120) (n := 2) dX6_moths_120 w530 w531 ⟨w462, w529, ⟨by decide, by decide, by decide +kernel⟩, by decide⟩ ⟨rfl, rfl⟩
theorem sX6_moths_123 : Snd MX6_moths 123 (xZ_ne 144 126) := snd_if_ne (M := MX6_moths) (pc := 123) dX6_moths_123 (by decide)
theorem sX6_moths_126 : Snd MX6_moths 126 (xLdI 128 6) := snd_iload (M := MX6_moths) (pc := 126) dX6_moths_126
theorem sX6_moths_128 : Snd MX6_moths 128 (xLdI 130 8) := snd_iload (M := MX6_moths) (pc := 128) dX6_moths_128
theorem sX6_moths_130 : Snd MX6_moths 130 (xCallS MX6_has 2 133) := snd_callS (M := MX6_moths) (pc := 130) (n := 2) dX6_moths_130 w530 w531 ⟨w462, w529, ⟨by decide, by decide, by decide +kernel⟩, by decide⟩ ⟨rfl, rfl⟩
theorem sX6_moths_133 : Snd MX6_moths 133 (xZ_eq 140 136) := snd_if_eq (M := MX6_moths) (pc := 133) dX6_moths_133 (by decide)
theorem sX6_moths_136 : Snd MX6_moths 136 (xK 137 (nI 0)) := snd_iconst (M := MX6_moths) (pc := 136) dX6_moths_136 (by decide +kernel)
theorem sX6_moths_137 : Snd MX6_moths 137 (xGo 162) := snd_goto (M := MX6_moths) (pc := 137) dX6_moths_137 (by decide)
theorem sX6_moths_140 : Snd MX6_moths 140 (xK 141 (nI 1)) := snd_iconst (M := MX6_moths) (pc := 140) dX6_moths_140 (by decide +kernel)
theorem sX6_moths_141 : Snd MX6_moths 141 (xGo 162) := snd_goto (M := MX6_moths) (pc := 141) dX6_moths_141 (by decide)
theorem sX6_moths_144 : Snd MX6_moths 144 (xLdI 146 6) := snd_iload (M := MX6_moths) (pc := 144) dX6_moths_144
theorem sX6_moths_146 : Snd MX6_moths 146 (xLdI 148 8) := snd_iload (M := MX6_moths) (pc := 146) dX6_moths_146
theorem sX6_moths_148 : Snd MX6_moths 148 (xCallS MX6_has 2 151) := snd_callS (M := MX6_moths) (pc := 148) (n := 2) dX6_moths_148 w530 w531 ⟨w462, w529, ⟨by decide, by decide, by decide +kernel⟩, by decide⟩ ⟨rfl, rfl⟩
theorem sX6_moths_151 : Snd MX6_moths 151 (xZ_eq 158 154) := snd_if_eq (M := MX6_moths) (pc := 151) dX6_moths_151 (by decide)
theorem sX6_moths_154 : Snd MX6_moths 154 (xLdI 155 2) := snd_iload_n (M := MX6_moths) (pc := 154) dX6_moths_154
theorem sX6_moths_155 : Snd MX6_moths 155 (xGo 162) := snd_goto (M := MX6_moths) (pc := 155) dX6_moths_155 (by decide)
theorem sX6_moths_158 : Snd MX6_moths 158 (xK 160 (nI 10)) := snd_bipush (M := MX6_moths) (pc := 158) dX6_moths_158 (by decide +kernel)
theorem sX6_moths_160 : Snd MX6_moths 160 (xLdI 161 2) := snd_iload_n (M := MX6_moths) (pc := 160) dX6_moths_160
theorem sX6_moths_161 : Snd MX6_moths 161 (xBin 162 f_isub) := snd_isub (M := MX6_moths) (pc := 161) dX6_moths_161
theorem sX6_moths_162 : Snd MX6_moths 162 (xBin 163 f_imul) := snd_imul (M := MX6_moths) (pc := 162) dX6_moths_162
theorem sX6_moths_163 : Snd MX6_moths 163 (xStI 165 7) := snd_istore (M := MX6_moths) (pc := 163) dX6_moths_163 (by decide)
theorem sX6_moths_165 : Snd MX6_moths 165 (xInc 168 8 (nI 1)) := snd_iinc (M := MX6_moths) (pc := 165) dX6_moths_165 (by decide +kernel) (by decide)
theorem sX6_moths_168 : Snd MX6_moths 168 (xGo 101) := snd_goto (M := MX6_moths) (pc := 168) dX6_moths_168 (by decide)
theorem sX6_moths_171 : Snd MX6_moths 171 (xLdI 173 4) := snd_iload (M := MX6_moths) (pc := 171) dX6_moths_171
theorem sX6_moths_173 : Snd MX6_moths 173 (xLdA 174 0) := snd_aload_n (M := MX6_moths) (pc := 173) dX6_moths_173
theorem sX6_moths_174 : Snd MX6_moths 174 (xLdI 175 1) := snd_iload_n (M := MX6_moths) (pc := 174) dX6_moths_174
theorem sX6_moths_175 : Snd MX6_moths 175 (xLdA 176 0) := snd_aload_n (M := MX6_moths) (pc := 175) dX6_moths_175
theorem sX6_moths_176 : Snd MX6_moths 176 (xGf 179 6 0) := snd_gf (M := MX6_moths) (pc := 176) (C0 := RX6) (T0 := TX6) (N := 32) dX6_moths_176 rfl tbX6 (by decide) w444
theorem sX6_moths_179 : Snd MX6_moths 179 (xK 180 (nI 2)) := snd_iconst (M := MX6_moths) (pc := 179) dX6_moths_179 (by decide +kernel)
theorem sX6_moths_180 : Snd MX6_moths 180 (xiaload 181) := snd_iaload (M := MX6_moths) (pc := 180) dX6_moths_180
theorem sX6_moths_181 : Snd MX6_moths 181 (xLdI 183 6) := snd_iload (M := MX6_moths) (pc := 181) dX6_moths_181
theorem sX6_moths_183 : Snd MX6_moths 183 (xK 184 ((-1))) := snd_iconst (M := MX6_moths) (pc := 183) dX6_moths_183 (by decide +kernel)
theorem sX6_moths_184 : Snd MX6_moths 184 (xBin 185 f_ixor) := snd_ixor (M := MX6_moths) (pc := 184) dX6_moths_184
theorem sX6_moths_185 : Snd MX6_moths 185 (xBin 186 f_iand) := snd_iand (M := MX6_moths) (pc := 185) dX6_moths_185
theorem sX6_moths_186 : Snd MX6_moths 186 (xCallV MX6_canBy 6 2 189) := snd_callV (M := MX6_moths) (pc := 186) (n := 2) dX6_moths_186 rfl w536 w537 w538 ⟨w462, w535, ⟨by decide, by decide, by decide +kernel⟩, by decide⟩ ⟨rfl, rfl⟩
theorem sX6_moths_189 : Snd MX6_moths 189 (xZ_eq 197 192) := snd_if_eq (M := MX6_moths) (pc := 189) dX6_moths_189 (by decide)
theorem sX6_moths_192 : Snd MX6_moths 192 (xLdI 194 7) := snd_iload (M := MX6_moths) (pc := 192) dX6_moths_192
theorem sX6_moths_194 : Snd MX6_moths 194 (xGo 198) := snd_goto (M := MX6_moths) (pc := 194) dX6_moths_194 (by decide)
theorem sX6_moths_197 : Snd MX6_moths 197 (xK 198 (nI 0)) := snd_iconst (M := MX6_moths) (pc := 197) dX6_moths_197 (by decide +kernel)
theorem sX6_moths_198 : Snd MX6_moths 198 (xBin 199 f_iadd) := snd_iadd (M := MX6_moths) (pc := 198) dX6_moths_198
theorem sX6_moths_199 : Snd MX6_moths 199 (xStI 201 4) := snd_istore (M := MX6_moths) (pc := 199) dX6_moths_199 (by decide)
theorem sX6_moths_201 : Snd MX6_moths 201 (xInc 204 6 (nI 1)) := snd_iinc (M := MX6_moths) (pc := 201) dX6_moths_201 (by decide +kernel) (by decide)
theorem sX6_moths_204 : Snd MX6_moths 204 (xGo 84) := snd_goto (M := MX6_moths) (pc := 204) dX6_moths_204 (by decide)
theorem sX6_moths_207 : Snd MX6_moths 207 (xLdA 208 0) := snd_aload_n (M := MX6_moths) (pc := 207) dX6_moths_207
theorem sX6_moths_208 : Snd MX6_moths 208 (xLdI 210 4) := snd_iload (M := MX6_moths) (pc := 208) dX6_moths_208
theorem sX6_moths_210 : Snd MX6_moths 210 (xLdI 212 5) := snd_iload (M := MX6_moths) (pc := 210) dX6_moths_210
theorem sX6_moths_212 : Snd MX6_moths 212 (xLdI 213 3) := snd_iload_n (M := MX6_moths) (pc := 212) dX6_moths_212
theorem sX6_moths_213 : Snd MX6_moths 213 (xCallV MX6_partOf 6 3 216) := snd_callV (M := MX6_moths) (pc := 213) (n := 3) dX6_moths_213 rfl w548 w549 w550 ⟨w462, w547, ⟨by decide, by decide, by decide +kernel⟩, by decide⟩ ⟨rfl, rfl⟩
theorem sX6_moths_216 : Snd MX6_moths 216 (xRet) := snd_iret (M := MX6_moths) (pc := 216) dX6_moths_216 rfl
theorem VX6_moths : Valid MX6_moths LX6_moths := va_lid sX6_moths_0 (va_lid sX6_moths_1 (va_lid sX6_moths_2 (va_lid sX6_moths_5 (va_lid sX6_moths_8 (va_lid sX6_moths_9 (va_lid sX6_moths_10 (va_lid sX6_moths_11 (va_lid sX6_moths_14 (va_lid sX6_moths_17 (va_lid sX6_moths_20 (va_lid sX6_moths_21 (va_lid sX6_moths_22 (va_lid sX6_moths_23 (va_lid sX6_moths_24 (va_lid sX6_moths_27 (va_lid sX6_moths_30 (va_lid sX6_moths_31 (va_lid sX6_moths_32 (va_lid sX6_moths_33 (va_lid sX6_moths_35 (va_lid sX6_moths_36 (va_lid sX6_moths_38 (va_lid sX6_moths_39 (va_lid sX6_moths_41 (va_lid sX6_moths_43 (va_lid sX6_moths_44 (va_lid sX6_moths_47 (va_lid sX6_moths_50 (va_lid sX6_moths_52 (va_lid sX6_moths_53 (va_lid sX6_moths_56 (va_lid sX6_moths_57 (va_lid sX6_moths_58 (va_lid sX6_moths_60 (va_lid sX6_moths_63 (va_lid sX6_moths_66 (va_lid sX6_moths_68 (va_lid sX6_moths_71 (va_lid sX6_moths_72 (va_lid sX6_moths_73 (va_lid sX6_moths_75 (va_lid sX6_moths_78 (va_lid sX6_moths_81 (va_lid sX6_moths_82 (va_lid sX6_moths_84 (va_lid sX6_moths_86 (va_lid sX6_moths_87 (va_lid sX6_moths_88 (va_lid sX6_moths_91 (va_lid sX6_moths_92 (va_lid sX6_moths_95 (va_lid sX6_moths_96 (va_lid sX6_moths_98 (va_lid sX6_moths_99 (va_lid sX6_moths_101 (va_lid sX6_moths_103 (va_lid sX6_moths_104 (va_lid sX6_moths_107 (va_lid sX6_moths_110 (va_lid sX6_moths_112 (va_lid sX6_moths_113 (va_lid sX6_moths_116 (va_lid sX6_moths_117 (va_lid sX6_moths_118 (va_lid sX6_moths_120 (va_lid sX6_moths_123 (va_lid sX6_moths_126 (va_lid sX6_moths_128 (va_lid sX6_moths_130 (va_lid sX6_moths_133 (va_lid sX6_moths_136 (va_lid sX6_moths_137 (va_lid sX6_moths_140 (va_lid sX6_moths_141 (va_lid sX6_moths_144 (va_lid sX6_moths_146 (va_lid sX6_moths_148 (va_lid sX6_moths_151 (va_lid sX6_moths_154 (va_lid sX6_moths_155 (va_lid sX6_moths_158 (va_lid sX6_moths_160 (va_lid sX6_moths_161 (va_lid sX6_moths_162 (va_lid sX6_moths_163 (va_lid sX6_moths_165 (va_lid sX6_moths_168 (va_lid sX6_moths_171 (va_lid sX6_moths_173 (va_lid sX6_moths_174 (va_lid sX6_moths_175 (va_lid sX6_moths_176 (va_lid sX6_moths_179 (va_lid sX6_moths_180 (va_lid sX6_moths_181 (va_lid sX6_moths_183 (va_lid sX6_moths_184 (va_lid sX6_moths_185 (va_lid sX6_moths_186 (va_lid sX6_moths_189 (va_lid sX6_moths_192 (va_lid sX6_moths_194 (va_lid sX6_moths_197 (va_lid sX6_moths_198 (va_lid sX6_moths_199 (va_lid sX6_moths_201 (va_lid sX6_moths_204 (va_lid sX6_moths_207 (va_lid sX6_moths_208 (va_lid sX6_moths_210 (va_lid sX6_moths_212 (va_lid sX6_moths_213 (va_lid sX6_moths_216 (va_lid0))))))))))))))))))))))))))))))))))))))))))))))))))))))))))))))))))))))))))))))))))))))))))))))))))))))))))))))))))
theorem kX6_moths_0 : lk LX6_moths 0 = some (xLdA 1 0) := rfl
theorem kX6_moths_1 : lk LX6_moths 1 = some (xLdI 2 1) := rfl
theorem kX6_moths_2 : lk LX6_moths 2 = some (xCallV MX6_isLife 6 1 5) := rfl
theorem kX6_moths_5 : lk LX6_moths 5 = some (xZ_eq 30 8) := rfl
theorem kX6_moths_8 : lk LX6_moths 8 = some (xLdI 9 2) := rfl
theorem kX6_moths_9 : lk LX6_moths 9 = some (xI2l 10) := rfl
theorem kX6_moths_10 : lk LX6_moths 10 = some (xKL 11 (lN 0)) := rfl
theorem kX6_moths_11 : lk LX6_moths 11 = some (xKL 14 (lN 10)) := rfl
theorem kX6_moths_14 : lk LX6_moths 14 = some (xCallS MX6_in 3 17) := rfl
theorem kX6_moths_17 : lk LX6_moths 17 = some (xZ_eq 30 20) := rfl
theorem kX6_moths_20 : lk LX6_moths 20 = some (xLdI 21 3) := rfl
theorem kX6_moths_21 : lk LX6_moths 21 = some (xI2l 22) := rfl
theorem kX6_moths_22 : lk LX6_moths 22 = some (xKL 23 (lN 0)) := rfl
theorem kX6_moths_23 : lk LX6_moths 23 = some (xKL 24 (lN 1)) := rfl
theorem kX6_moths_24 : lk LX6_moths 24 = some (xCallS MX6_in 3 27) := rfl
theorem kX6_moths_27 : lk LX6_moths 27 = some (xZ_ne 32 30) := rfl
theorem kX6_moths_30 : lk LX6_moths 30 = some (xK 31 ((-1))) := rfl
theorem kX6_moths_31 : lk LX6_moths 31 = some (xRet) := rfl
theorem kX6_moths_32 : lk LX6_moths 32 = some (xK 33 (nI 0)) := rfl
theorem kX6_moths_33 : lk LX6_moths 33 = some (xStI 35 4) := rfl
theorem kX6_moths_35 : lk LX6_moths 35 = some (xK 36 (nI 1)) := rfl
theorem kX6_moths_36 : lk LX6_moths 36 = some (xStI 38 5) := rfl
theorem kX6_moths_38 : lk LX6_moths 38 = some (xK 39 (nI 0)) := rfl
theorem kX6_moths_39 : lk LX6_moths 39 = some (xStI 41 6) := rfl
theorem kX6_moths_41 : lk LX6_moths 41 = some (xLdI 43 6) := rfl
theorem kX6_moths_43 : lk LX6_moths 43 = some (xLdA 44 0) := rfl
theorem kX6_moths_44 : lk LX6_moths 44 = some (xGf 47 6 5) := rfl
theorem kX6_moths_47 : lk LX6_moths 47 = some (xC_ge 81 50) := rfl
theorem kX6_moths_50 : lk LX6_moths 50 = some (xLdI 52 5) := rfl
theorem kX6_moths_52 : lk LX6_moths 52 = some (xLdA 53 0) := rfl
theorem kX6_moths_53 : lk LX6_moths 53 = some (xGf 56 6 0) := rfl
theorem kX6_moths_56 : lk LX6_moths 56 = some (xK 57 (nI 2)) := rfl
theorem kX6_moths_57 : lk LX6_moths 57 = some (xiaload 58) := rfl
theorem kX6_moths_58 : lk LX6_moths 58 = some (xLdI 60 6) := rfl
theorem kX6_moths_60 : lk LX6_moths 60 = some (xCallS MX6_has 2 63) := rfl
theorem kX6_moths_63 : lk LX6_moths 63 = some (xZ_eq 71 66) := rfl
theorem kX6_moths_66 : lk LX6_moths 66 = some (xK 68 (nI 10)) := rfl
theorem kX6_moths_68 : lk LX6_moths 68 = some (xGo 72) := rfl
theorem kX6_moths_71 : lk LX6_moths 71 = some (xK 72 (nI 1)) := rfl
theorem kX6_moths_72 : lk LX6_moths 72 = some (xBin 73 f_imul) := rfl
theorem kX6_moths_73 : lk LX6_moths 73 = some (xStI 75 5) := rfl
theorem kX6_moths_75 : lk LX6_moths 75 = some (xInc 78 6 (nI 1)) := rfl
theorem kX6_moths_78 : lk LX6_moths 78 = some (xGo 41) := rfl
theorem kX6_moths_81 : lk LX6_moths 81 = some (xK 82 (nI 0)) := rfl
theorem kX6_moths_82 : lk LX6_moths 82 = some (xStI 84 6) := rfl
theorem kX6_moths_84 : lk LX6_moths 84 = some (xLdI 86 6) := rfl
theorem kX6_moths_86 : lk LX6_moths 86 = some (xK 87 (nI 1)) := rfl
theorem kX6_moths_87 : lk LX6_moths 87 = some (xLdA 88 0) := rfl
theorem kX6_moths_88 : lk LX6_moths 88 = some (xGf 91 6 5) := rfl
theorem kX6_moths_91 : lk LX6_moths 91 = some (xBin 92 f_ishl) := rfl
theorem kX6_moths_92 : lk LX6_moths 92 = some (xC_ge 207 95) := rfl
theorem kX6_moths_95 : lk LX6_moths 95 = some (xK 96 (nI 1)) := rfl
theorem kX6_moths_96 : lk LX6_moths 96 = some (xStI 98 7) := rfl
theorem kX6_moths_98 : lk LX6_moths 98 = some (xK 99 (nI 0)) := rfl
theorem kX6_moths_99 : lk LX6_moths 99 = some (xStI 101 8) := rfl
theorem kX6_moths_101 : lk LX6_moths 101 = some (xLdI 103 8) := rfl
theorem kX6_moths_103 : lk LX6_moths 103 = some (xLdA 104 0) := rfl
theorem kX6_moths_104 : lk LX6_moths 104 = some (xGf 107 6 5) := rfl
theorem kX6_moths_107 : lk LX6_moths 107 = some (xC_ge 171 110) := rfl
theorem kX6_moths_110 : lk LX6_moths 110 = some (xLdI 112 7) := rfl
theorem kX6_moths_112 : lk LX6_moths 112 = some (xLdA 113 0) := rfl
theorem kX6_moths_113 : lk LX6_moths 113 = some (xGf 116 6 0) := rfl
theorem kX6_moths_116 : lk LX6_moths 116 = some (xK 117 (nI 2)) := rfl
theorem kX6_moths_117 : lk LX6_moths 117 = some (xiaload 118) := rfl
theorem kX6_moths_118 : lk LX6_moths 118 = some (xLdI 120 8) := rfl
theorem kX6_moths_120 : lk LX6_moths 120 = some (xCallS MX6_has 2 123) := rfl
theorem kX6_moths_123 : lk LX6_moths 123 = some (xZ_ne 144 126) := rfl
theorem kX6_moths_126 : lk LX6_moths 126 = some (xLdI 128 6) := rfl
theorem kX6_moths_128 : lk LX6_moths 128 = some (xLdI 130 8) := rfl
theorem kX6_moths_130 : lk LX6_moths 130 = some (xCallS MX6_has 2 133) := rfl
theorem kX6_moths_133 : lk LX6_moths 133 = some (xZ_eq 140 136) := rfl
theorem kX6_moths_136 : lk LX6_moths 136 = some (xK 137 (nI 0)) := rfl
theorem kX6_moths_137 : lk LX6_moths 137 = some (xGo 162) := rfl
theorem kX6_moths_140 : lk LX6_moths 140 = some (xK 141 (nI 1)) := rfl
theorem kX6_moths_141 : lk LX6_moths 141 = some (xGo 162) := rfl
theorem kX6_moths_144 : lk LX6_moths 144 = some (xLdI 146 6) := rfl
theorem kX6_moths_146 : lk LX6_moths 146 = some (xLdI 148 8) := rfl
theorem kX6_moths_148 : lk LX6_moths 148 = some (xCallS MX6_has 2 151) := rfl
theorem kX6_moths_151 : lk LX6_moths 151 = some (xZ_eq 158 154) := rfl
theorem kX6_moths_154 : lk LX6_moths 154 = some (xLdI 155 2) := rfl
set_option maxRecDepth 20000 in
theorem kX6_moths_155 : lk LX6_moths 155 = some (xGo 162) := rfl
set_option maxRecDepth 20000 in
theorem kX6_moths_158 : lk LX6_moths 158 = some (xK 160 (nI 10)) := rfl
set_option maxRecDepth 20000 in
theorem kX6_moths_160 : lk LX6_moths 160 = some (xLdI 161 2) := rfl
set_option maxRecDepth 20000 in
theorem kX6_moths_161 : lk LX6_moths 161 = some (xBin 162 f_isub) := rfl
set_option maxRecDepth 20000 in
theorem kX6_moths_162 : lk LX6_moths 162 = some (xBin 163 f_imul) := rfl
set_option maxRecDepth 20000 in
theorem kX6_moths_163 : lk LX6_moths 163 = some (xStI 165 7) := rfl
set_option maxRecDepth 20000 in
theorem kX6_moths_165 : lk LX6_moths 165 = some (xInc 168 8 (nI 1)) := rfl
set_option maxRecDepth 20000 in
theorem kX6_moths_168 : lk LX6_moths 168 = some (xGo 101) := rfl
set_option maxRecDepth 20000 in
theorem kX6_moths_171 : lk LX6_moths 171 = some (xLdI 173 4) := rfl
set_option maxRecDepth 20000 in
theorem kX6_moths_173 : lk LX6_moths 173 = some (xLdA 174 0) := rfl
set_option maxRecDepth 20000 in
theorem kX6_moths_174 : lk LX6_moths 174 = some (xLdI 175 1) := rfl
set_option maxRecDepth 20000 in
theorem kX6_moths_175 : lk LX6_moths 175 = some (xLdA 176 0) := rfl
set_option maxRecDepth 20000 in
theorem kX6_moths_176 : lk LX6_moths 176 = some (xGf 179 6 0) := rfl
set_option maxRecDepth 20000 in
theorem kX6_moths_179 : lk LX6_moths 179 = some (xK 180 (nI 2)) := rfl
set_option maxRecDepth 20000 in
theorem kX6_moths_180 : lk LX6_moths 180 = some (xiaload 181) := rfl
set_option maxRecDepth 20000 in
theorem kX6_moths_181 : lk LX6_moths 181 = some (xLdI 183 6) := rfl
set_option maxRecDepth 20000 in
theorem kX6_moths_183 : lk LX6_moths 183 = some (xK 184 ((-1))) := rfl
set_option maxRecDepth 20000 in
theorem kX6_moths_184 : lk LX6_moths 184 = some (xBin 185 f_ixor) := rfl
set_option maxRecDepth 20000 in
theorem kX6_moths_185 : lk LX6_moths 185 = some (xBin 186 f_iand) := rfl
set_option maxRecDepth 20000 in
theorem kX6_moths_186 : lk LX6_moths 186 = some (xCallV MX6_canBy 6 2 189) := rfl
set_option maxRecDepth 20000 in
theorem kX6_moths_189 : lk LX6_moths 189 = some (xZ_eq 197 192) := rfl
set_option maxRecDepth 20000 in
theorem kX6_moths_192 : lk LX6_moths 192 = some (xLdI 194 7) := rfl
set_option maxRecDepth 20000 in
theorem kX6_moths_194 : lk LX6_moths 194 = some (xGo 198) := rfl
set_option maxRecDepth 20000 in
theorem kX6_moths_197 : lk LX6_moths 197 = some (xK 198 (nI 0)) := rfl
set_option maxRecDepth 20000 in
theorem kX6_moths_198 : lk LX6_moths 198 = some (xBin 199 f_iadd) := rfl
set_option maxRecDepth 20000 in
theorem kX6_moths_199 : lk LX6_moths 199 = some (xStI 201 4) := rfl
set_option maxRecDepth 20000 in
theorem kX6_moths_201 : lk LX6_moths 201 = some (xInc 204 6 (nI 1)) := rfl
set_option maxRecDepth 20000 in
theorem kX6_moths_204 : lk LX6_moths 204 = some (xGo 84) := rfl
set_option maxRecDepth 20000 in
theorem kX6_moths_207 : lk LX6_moths 207 = some (xLdA 208 0) := rfl
set_option maxRecDepth 20000 in
theorem kX6_moths_208 : lk LX6_moths 208 = some (xLdI 210 4) := rfl
set_option maxRecDepth 20000 in
theorem kX6_moths_210 : lk LX6_moths 210 = some (xLdI 212 5) := rfl
set_option maxRecDepth 20000 in
theorem kX6_moths_212 : lk LX6_moths 212 = some (xLdI 213 3) := rfl
set_option maxRecDepth 20000 in
theorem kX6_moths_213 : lk LX6_moths 213 = some (xCallV MX6_partOf 6 3 216) := rfl
set_option maxRecDepth 20000 in
theorem kX6_moths_216 : lk LX6_moths 216 = some (xRet) := rfl
def LX6_year : List (Nat × XI) := [(0, xLdI 1 1),
  (1, xI2l 2),
  (2, xKL 3 (lN 0)),
  (3, xKL 6 (lN 9999)),
  (6, xCallS MX6_in 3 9),
  (9, xZ_eq 34 12),
  (12, xLdI 13 2),
  (13, xI2l 14),
  (14, xKL 15 (lN 1)),
  (15, xKL 18 (lN 40)),
  (18, xCallS MX6_in 3 21),
  (21, xZ_eq 34 24),
  (24, xLdI 25 3),
  (25, xI2l 26),
  (26, xKL 27 (lN 0)),
  (27, xKL 28 (lN 1)),
  (28, xCallS MX6_in 3 31),
  (31, xZ_ne 36 34),
  (34, xK 35 ((-1))),
  (35, xRet),
  (36, xLdA 37 0),
  (37, xK 38 (nI 0)),
  (38, xK 39 (nI 4)),
  (39, xCallV MX6_copy 6 2 42),
  (42, xK 43 (nI 0)),
  (43, xStI 45 4),
  (45, xLdI 47 4),
  (47, xLdI 48 2),
  (48, xC_ge 188 51),
  (51, xKL 54 (lN 7919)),
  (54, xLdI 55 1),
  (55, xI2l 56),
  (56, xBinL 57 f_lmul),
  (57, xKL 60 (lN 6151)),
  (60, xLdI 62 4),
  (62, xI2l 63),
  (63, xBinL 64 f_lmul),
  (64, xBinL 65 f_ladd),
  (65, xKL 66 (lN 1)),
  (66, xBinL 67 f_ladd),
  (67, xStL 69 5),
  (69, xLdL 71 5),
  (71, xLdL 73 5),
  (73, xBinL 74 f_lmul),
  (74, xKL 77 (lN 65521)),
  (77, xDivL 78 f_lrem),
  (78, xL2i 79),
  (79, xStI 81 7),
  (81, xLdI 83 7),
  (83, xLdA 84 0),
  (84, xGf 87 6 5),
  (87, xDiv 88 f_irem),
  (88, xStI 90 8),
  (90, xLdI 92 7),
  (92, xK 94 (nI 32)),
  (94, xDiv 95 f_idiv),
  (95, xLdA 96 0),
  (96, xGf 99 6 9),
  (99, xDiv 100 f_irem),
  (100, xStI 102 9),
  (102, xLdA 103 0),
  (103, xK 104 (nI 4)),
  (104, xLdI 106 8),
  (106, xCallV MX6_canPut 6 2 109),
  (109, xZ_eq 122 112),
  (112, xLdA 113 0),
  (113, xK 114 (nI 4)),
  (114, xLdI 116 8),
  (116, xCallV MX6_puts 6 2 119),
  (119, xGo 148),
  (122, xLdI 124 7),
  (124, xK 126 (nI 8)),
  (126, xDiv 127 f_idiv),
  (127, xK 128 (nI 3)),
  (128, xDiv 129 f_irem),
  (129, xZ_ne 148 132),
  (132, xLdA 133 0),
  (133, xGf 136 6 0),
  (136, xK 138 (nI 6)),
  (138, xDup2 139),
  (139, xiaload 140),
  (140, xK 141 (nI 1)),
  (141, xLdI 143 8),
  (143, xBin 144 f_ishl),
  (144, xK 145 ((-1))),
  (145, xBin 146 f_ixor),
  (146, xBin 147 f_iand),
  (147, xiastore 148),
  (148, xLdA 149 0),
  (149, xK 150 (nI 4)),
  (150, xLdI 152 9),
  (152, xCallV MX6_canLive 6 2 155),
  (155, xZ_eq 177 158),
  (158, xLdI 160 7),
  (160, xK 163 (nI 256)),
  (163, xDiv 164 f_idiv),
  (164, xK 165 (nI 2)),
  (165, xDiv 166 f_irem),
  (166, xZ_ne 177 169),
  (169, xLdA 170 0),
  (170, xK 171 (nI 4)),
  (171, xLdI 173 9),
  (173, xCallV MX6_livesOne 6 2 176),
  (176, xPop 177),
  (177, xLdA 178 0),
  (178, xK 179 (nI 4)),
  (179, xCallV MX6_passes 6 1 182),
  (182, xInc 185 4 (nI 1)),
  (185, xGo 45),
  (188, xLdI 189 3),
  (189, xZ_ne 205 192),
  (192, xLdA 193 0),
  (193, xGf 196 6 0),
  (196, xK 198 (nI 7)),
  (198, xiaload 199),
  (199, xCallS MX6_ones 1 202),
  (202, xGo 211),
  (205, xLdA 206 0),
  (206, xGf 209 6 0),
  (209, xK 210 (nI 5)),
  (210, xiaload 211),
  (211, xRet)]
theorem sX6_year_0 : Snd MX6_year 0 (xLdI 1 1) := snd_iload_n (M := MX6_year) (pc := 0) dX6_year_0
theorem sX6_year_1 : Snd MX6_year 1 (xI2l 2) := snd_i2l (M := MX6_year) (pc := 1) dX6_year_1
theorem sX6_year_2 : Snd MX6_year 2 (xKL 3 (lN 0)) := snd_lconst (M := MX6_year) (pc := 2) dX6_year_2 rfl
theorem sX6_year_3 : Snd MX6_year 3 (xKL 6 (lN 9999)) := snd_ldc2 (M := MX6_year) (pc := 3) dX6_year_3 w627
theorem sX6_year_6 : Snd MX6_year 6 (xCallS MX6_in 3 9) := snd_callS (M := MX6_year) (pc := 6) (n := 3) dX6_year_6 w477 w478 ⟨w462, w476, ⟨by decide, by decide, by decide +kernel⟩, by decide⟩ ⟨rfl, rfl⟩
theorem sX6_year_9 : Snd MX6_year 9 (xZ_eq 34 12) := snd_if_eq (M := MX6_year) (pc := 9) dX6_year_9 (by decide)
theorem sX6_year_12 : Snd MX6_year 12 (xLdI 13 2) := snd_iload_n (M := MX6_year) (pc := 12) dX6_year_12
theorem sX6_year_13 : Snd MX6_year 13 (xI2l 14) := snd_i2l (M := MX6_year) (pc := 13) dX6_year_13
theorem sX6_year_14 : Snd MX6_year 14 (xKL 15 (lN 1)) := snd_lconst (M := MX6_year) (pc := 14) dX6_year_14 rfl
theorem sX6_year_15 : Snd MX6_year 15 (xKL 18 (lN 40)) := snd_ldc2 (M := MX6_year) (pc := 15) dX6_year_15 w628
theorem sX6_year_18 : Snd MX6_year 18 (xCallS MX6_in 3 21) := snd_callS (M := MX6_year) (pc := 18) (n := 3) dX6_year_18 w477 w478 ⟨w462, w476, ⟨by decide, by decide, by decide +kernel⟩, by decide⟩ ⟨rfl, rfl⟩
theorem sX6_year_21 : Snd MX6_year 21 (xZ_eq 34 24) := snd_if_eq (M := MX6_year) (pc := 21) dX6_year_21 (by decide)
theorem sX6_year_24 : Snd MX6_year 24 (xLdI 25 3) := snd_iload_n (M := MX6_year) (pc := 24) dX6_year_24
theorem sX6_year_25 : Snd MX6_year 25 (xI2l 26) := snd_i2l (M := MX6_year) (pc := 25) dX6_year_25
theorem sX6_year_26 : Snd MX6_year 26 (xKL 27 (lN 0)) := snd_lconst (M := MX6_year) (pc := 26) dX6_year_26 rfl
theorem sX6_year_27 : Snd MX6_year 27 (xKL 28 (lN 1)) := snd_lconst (M := MX6_year) (pc := 27) dX6_year_27 rfl
theorem sX6_year_28 : Snd MX6_year 28 (xCallS MX6_in 3 31) := snd_callS (M := MX6_year) (pc := 28) (n := 3) dX6_year_28 w477 w478 ⟨w462, w476, ⟨by decide, by decide, by decide +kernel⟩, by decide⟩ ⟨rfl, rfl⟩
theorem sX6_year_31 : Snd MX6_year 31 (xZ_ne 36 34) := snd_if_ne (M := MX6_year) (pc := 31) dX6_year_31 (by decide)
theorem sX6_year_34 : Snd MX6_year 34 (xK 35 ((-1))) := snd_iconst (M := MX6_year) (pc := 34) dX6_year_34 (by decide +kernel)
theorem sX6_year_35 : Snd MX6_year 35 (xRet) := snd_iret (M := MX6_year) (pc := 35) dX6_year_35 rfl
theorem sX6_year_36 : Snd MX6_year 36 (xLdA 37 0) := snd_aload_n (M := MX6_year) (pc := 36) dX6_year_36
theorem sX6_year_37 : Snd MX6_year 37 (xK 38 (nI 0)) := snd_iconst (M := MX6_year) (pc := 37) dX6_year_37 (by decide +kernel)
theorem sX6_year_38 : Snd MX6_year 38 (xK 39 (nI 4)) := snd_iconst (M := MX6_year) (pc := 38) dX6_year_38 (by decide +kernel)
theorem sX6_year_39 : Snd MX6_year 39 (xCallV MX6_copy 6 2 42) := snd_callV (M := MX6_year) (pc := 39) (n := 2) dX6_year_39 rfl w584 w585 w586 ⟨w462, w583, ⟨by decide, by decide, by decide +kernel⟩, by decide⟩ ⟨rfl, rfl⟩
theorem sX6_year_42 : Snd MX6_year 42 (xK 43 (nI 0)) := snd_iconst (M := MX6_year) (pc := 42) dX6_year_42 (by decide +kernel)
theorem sX6_year_43 : Snd MX6_year 43 (xStI 45 4) := snd_istore (M := MX6_year) (pc := 43) dX6_year_43 (by decide)
theorem sX6_year_45 : Snd MX6_year 45 (xLdI 47 4) := snd_iload (M := MX6_year) (pc := 45) dX6_year_45
theorem sX6_year_47 : Snd MX6_year 47 (xLdI 48 2) := snd_iload_n (M := MX6_year) (pc := 47) dX6_year_47
theorem sX6_year_48 : Snd MX6_year 48 (xC_ge 188 51) := snd_icmp_ge (M := MX6_year) (pc := 48) dX6_year_48 (by decide)
theorem sX6_year_51 : Snd MX6_year 51 (xKL 54 (lN 7919)) := snd_ldc2 (M := MX6_year) (pc := 51) dX6_year_51 w629
theorem sX6_year_54 : Snd MX6_year 54 (xLdI 55 1) := snd_iload_n (M := MX6_year) (pc := 54) dX6_year_54
theorem sX6_year_55 : Snd MX6_year 55 (xI2l 56) := snd_i2l (M := MX6_year) (pc := 55) dX6_year_55
theorem sX6_year_56 : Snd MX6_year 56 (xBinL 57 f_lmul) := snd_lmul (M := MX6_year) (pc := 56) dX6_year_56
theorem sX6_year_57 : Snd MX6_year 57 (xKL 60 (lN 6151)) := snd_ldc2 (M := MX6_year) (pc := 57) dX6_year_57 w630
theorem sX6_year_60 : Snd MX6_year 60 (xLdI 62 4) := snd_iload (M := MX6_year) (pc := 60) dX6_year_60
theorem sX6_year_62 : Snd MX6_year 62 (xI2l 63) := snd_i2l (M := MX6_year) (pc := 62) dX6_year_62
theorem sX6_year_63 : Snd MX6_year 63 (xBinL 64 f_lmul) := snd_lmul (M := MX6_year) (pc := 63) dX6_year_63
theorem sX6_year_64 : Snd MX6_year 64 (xBinL 65 f_ladd) := snd_ladd (M := MX6_year) (pc := 64) dX6_year_64
theorem sX6_year_65 : Snd MX6_year 65 (xKL 66 (lN 1)) := snd_lconst (M := MX6_year) (pc := 65) dX6_year_65 rfl
theorem sX6_year_66 : Snd MX6_year 66 (xBinL 67 f_ladd) := snd_ladd (M := MX6_year) (pc := 66) dX6_year_66
theorem sX6_year_67 : Snd MX6_year 67 (xStL 69 5) := snd_lstore (M := MX6_year) (pc := 67) dX6_year_67 (by decide)
theorem sX6_year_69 : Snd MX6_year 69 (xLdL 71 5) := snd_lload (M := MX6_year) (pc := 69) dX6_year_69
theorem sX6_year_71 : Snd MX6_year 71 (xLdL 73 5) := snd_lload (M := MX6_year) (pc := 71) dX6_year_71
theorem sX6_year_73 : Snd MX6_year 73 (xBinL 74 f_lmul) := snd_lmul (M := MX6_year) (pc := 73) dX6_year_73
theorem sX6_year_74 : Snd MX6_year 74 (xKL 77 (lN 65521)) := snd_ldc2 (M := MX6_year) (pc := 74) dX6_year_74 w631
theorem sX6_year_77 : Snd MX6_year 77 (xDivL 78 f_lrem) := snd_lrem (M := MX6_year) (pc := 77) dX6_year_77
theorem sX6_year_78 : Snd MX6_year 78 (xL2i 79) := snd_l2i (M := MX6_year) (pc := 78) dX6_year_78
theorem sX6_year_79 : Snd MX6_year 79 (xStI 81 7) := snd_istore (M := MX6_year) (pc := 79) dX6_year_79 (by decide)
theorem sX6_year_81 : Snd MX6_year 81 (xLdI 83 7) := snd_iload (M := MX6_year) (pc := 81) dX6_year_81
theorem sX6_year_83 : Snd MX6_year 83 (xLdA 84 0) := snd_aload_n (M := MX6_year) (pc := 83) dX6_year_83
theorem sX6_year_84 : Snd MX6_year 84 (xGf 87 6 5) := snd_gf (M := MX6_year) (pc := 84) (C0 := RX6) (T0 := TX6) (N := 32) dX6_year_84 rfl tbX6 (by decide) w475
theorem sX6_year_87 : Snd MX6_year 87 (xDiv 88 f_irem) := snd_irem (M := MX6_year) (pc := 87) dX6_year_87
theorem sX6_year_88 : Snd MX6_year 88 (xStI 90 8) := snd_istore (M := MX6_year) (pc := 88) dX6_year_88 (by decide)
theorem sX6_year_90 : Snd MX6_year 90 (xLdI 92 7) := snd_iload (M := MX6_year) (pc := 90) dX6_year_90
theorem sX6_year_92 : Snd MX6_year 92 (xK 94 (nI 32)) := snd_bipush (M := MX6_year) (pc := 92) dX6_year_92 (by decide +kernel)
theorem sX6_year_94 : Snd MX6_year 94 (xDiv 95 f_idiv) := snd_idiv (M := MX6_year) (pc := 94) dX6_year_94
theorem sX6_year_95 : Snd MX6_year 95 (xLdA 96 0) := snd_aload_n (M := MX6_year) (pc := 95) dX6_year_95
theorem sX6_year_96 : Snd MX6_year 96 (xGf 99 6 9) := snd_gf (M := MX6_year) (pc := 96) (C0 := RX6) (T0 := TX6) (N := 32) dX6_year_96 rfl tbX6 (by decide) w479
theorem sX6_year_99 : Snd MX6_year 99 (xDiv 100 f_irem) := snd_irem (M := MX6_year) (pc := 99) dX6_year_99
theorem sX6_year_100 : Snd MX6_year 100 (xStI 102 9) := snd_istore (M := MX6_year) (pc := 100) dX6_year_100 (by decide)
theorem sX6_year_102 : Snd MX6_year 102 (xLdA 103 0) := snd_aload_n (M := MX6_year) (pc := 102) dX6_year_102
theorem sX6_year_103 : Snd MX6_year 103 (xK 104 (nI 4)) := snd_iconst (M := MX6_year) (pc := 103) dX6_year_103 (by decide +kernel)
theorem sX6_year_104 : Snd MX6_year 104 (xLdI 106 8) := snd_iload (M := MX6_year) (pc := 104) dX6_year_104
theorem sX6_year_106 : Snd MX6_year 106 (xCallV MX6_canPut 6 2 109) := snd_callV (M := MX6_year) (pc := 106) (n := 2) dX6_year_106 rfl w564 w565 w566 ⟨w462, w563, ⟨by decide, by decide, by decide +kernel⟩, by decide⟩ ⟨rfl, rfl⟩
theorem sX6_year_109 : Snd MX6_year 109 (xZ_eq 122 112) := snd_if_eq (M := MX6_year) (pc := 109) dX6_year_109 (by decide)
theorem sX6_year_112 : Snd MX6_year 112 (xLdA 113 0) := snd_aload_n (M := MX6_year) (pc := 112) dX6_year_112
theorem sX6_year_113 : Snd MX6_year 113 (xK 114 (nI 4)) := snd_iconst (M := MX6_year) (pc := 113) dX6_year_113 (by decide +kernel)
theorem sX6_year_114 : Snd MX6_year 114 (xLdI 116 8) := snd_iload (M := MX6_year) (pc := 114) dX6_year_114
theorem sX6_year_116 : Snd MX6_year 116 (xCallV MX6_puts 6 2 119) := snd_callV (M := MX6_year) (pc := 116) (n := 2) dX6_year_116 rfl w592 w593 w594 ⟨w462, w591, ⟨by decide, by decide, by decide +kernel⟩, by decide⟩ ⟨rfl, rfl⟩
theorem sX6_year_119 : Snd MX6_year 119 (xGo 148) := snd_goto (M := MX6_year) (pc := 119) dX6_year_119 (by decide)
theorem sX6_year_122 : Snd MX6_year 122 (xLdI 124 7) := snd_iload (M := MX6_year) (pc := 122) dX6_year_122
theorem sX6_year_124 : Snd MX6_year 124 (xK 126 (nI 8)) := snd_bipush (M := MX6_year) (pc := 124) dX6_year_124 (by decide +kernel)
theorem sX6_year_126 : Snd MX6_year 126 (xDiv 127 f_idiv) := snd_idiv (M := MX6_year) (pc := 126) dX6_year_126
theorem sX6_year_127 : Snd MX6_year 127 (xK 128 (nI 3)) := snd_iconst (M := MX6_year) (pc := 127) dX6_year_127 (by decide +kernel)
theorem sX6_year_128 : Snd MX6_year 128 (xDiv 129 f_irem) := snd_irem (M := MX6_year) (pc := 128) dX6_year_128
theorem sX6_year_129 : Snd MX6_year 129 (xZ_ne 148 132) := snd_if_ne (M := MX6_year) (pc := 129) dX6_year_129 (by decide)
theorem sX6_year_132 : Snd MX6_year 132 (xLdA 133 0) := snd_aload_n (M := MX6_year) (pc := 132) dX6_year_132
theorem sX6_year_133 : Snd MX6_year 133 (xGf 136 6 0) := snd_gf (M := MX6_year) (pc := 133) (C0 := RX6) (T0 := TX6) (N := 32) dX6_year_133 rfl tbX6 (by decide) w444
theorem sX6_year_136 : Snd MX6_year 136 (xK 138 (nI 6)) := snd_bipush (M := MX6_year) (pc := 136) dX6_year_136 (by decide +kernel)
theorem sX6_year_138 : Snd MX6_year 138 (xDup2 139) := snd_dup2 (M := MX6_year) (pc := 138) dX6_year_138
theorem sX6_year_139 : Snd MX6_year 139 (xiaload 140) := snd_iaload (M := MX6_year) (pc := 139) dX6_year_139
theorem sX6_year_140 : Snd MX6_year 140 (xK 141 (nI 1)) := snd_iconst (M := MX6_year) (pc := 140) dX6_year_140 (by decide +kernel)
theorem sX6_year_141 : Snd MX6_year 141 (xLdI 143 8) := snd_iload (M := MX6_year) (pc := 141) dX6_year_141
theorem sX6_year_143 : Snd MX6_year 143 (xBin 144 f_ishl) := snd_ishl (M := MX6_year) (pc := 143) dX6_year_143
theorem sX6_year_144 : Snd MX6_year 144 (xK 145 ((-1))) := snd_iconst (M := MX6_year) (pc := 144) dX6_year_144 (by decide +kernel)
theorem sX6_year_145 : Snd MX6_year 145 (xBin 146 f_ixor) := snd_ixor (M := MX6_year) (pc := 145) dX6_year_145
theorem sX6_year_146 : Snd MX6_year 146 (xBin 147 f_iand) := snd_iand (M := MX6_year) (pc := 146) dX6_year_146
theorem sX6_year_147 : Snd MX6_year 147 (xiastore 148) := snd_iastore (M := MX6_year) (pc := 147) dX6_year_147
theorem sX6_year_148 : Snd MX6_year 148 (xLdA 149 0) := snd_aload_n (M := MX6_year) (pc := 148) dX6_year_148
theorem sX6_year_149 : Snd MX6_year 149 (xK 150 (nI 4)) := snd_iconst (M := MX6_year) (pc := 149) dX6_year_149 (by decide +kernel)
theorem sX6_year_150 : Snd MX6_year 150 (xLdI 152 9) := snd_iload (M := MX6_year) (pc := 150) dX6_year_150
theorem sX6_year_152 : Snd MX6_year 152 (xCallV MX6_canLive 6 2 155) := snd_callV (M := MX6_year) (pc := 152) (n := 2) dX6_year_152 rfl w596 w597 w598 ⟨w462, w595, ⟨by decide, by decide, by decide +kernel⟩, by decide⟩ ⟨rfl, rfl⟩
theorem sX6_year_155 : Snd MX6_year 155 (xZ_eq 177 158) := snd_if_eq (M := MX6_year) (pc := 155) dX6_year_155 (by decide)
theorem sX6_year_158 : Snd MX6_year 158 (xLdI 160 7) := snd_iload (M := MX6_year) (pc := 158) dX6_year_158
theorem sX6_year_160 : Snd MX6_year 160 (xK 163 (nI 256)) := snd_sipush (M := MX6_year) (pc := 160) dX6_year_160 (by decide +kernel)
theorem sX6_year_163 : Snd MX6_year 163 (xDiv 164 f_idiv) := snd_idiv (M := MX6_year) (pc := 163) dX6_year_163
theorem sX6_year_164 : Snd MX6_year 164 (xK 165 (nI 2)) := snd_iconst (M := MX6_year) (pc := 164) dX6_year_164 (by decide +kernel)
theorem sX6_year_165 : Snd MX6_year 165 (xDiv 166 f_irem) := snd_irem (M := MX6_year) (pc := 165) dX6_year_165
theorem sX6_year_166 : Snd MX6_year 166 (xZ_ne 177 169) := snd_if_ne (M := MX6_year) (pc := 166) dX6_year_166 (by decide)
theorem sX6_year_169 : Snd MX6_year 169 (xLdA 170 0) := snd_aload_n (M := MX6_year) (pc := 169) dX6_year_169
theorem sX6_year_170 : Snd MX6_year 170 (xK 171 (nI 4)) := snd_iconst (M := MX6_year) (pc := 170) dX6_year_170 (by decide +kernel)
theorem sX6_year_171 : Snd MX6_year 171 (xLdI 173 9) := snd_iload (M := MX6_year) (pc := 171) dX6_year_171
theorem sX6_year_173 : Snd MX6_year 173 (xCallV MX6_livesOne 6 2 176) := snd_callV (M := MX6_year) (pc := 173) (n := 2) dX6_year_173 rfl w600 w601 w602 ⟨w462, w599, ⟨by decide, by decide, by decide +kernel⟩, by decide⟩ ⟨rfl, rfl⟩
theorem sX6_year_176 : Snd MX6_year 176 (xPop 177) := snd_pop (M := MX6_year) (pc := 176) dX6_year_176
theorem sX6_year_177 : Snd MX6_year 177 (xLdA 178 0) := snd_aload_n (M := MX6_year) (pc := 177) dX6_year_177
theorem sX6_year_178 : Snd MX6_year 178 (xK 179 (nI 4)) := snd_iconst (M := MX6_year) (pc := 178) dX6_year_178 (by decide +kernel)
theorem sX6_year_179 : Snd MX6_year 179 (xCallV MX6_passes 6 1 182) := snd_callV (M := MX6_year) (pc := 179) (n := 1) dX6_year_179 rfl w605 w606 w607 ⟨w462, w604, ⟨by decide, by decide, by decide +kernel⟩, by decide⟩ ⟨rfl, rfl⟩
theorem sX6_year_182 : Snd MX6_year 182 (xInc 185 4 (nI 1)) := snd_iinc (M := MX6_year) (pc := 182) dX6_year_182 (by decide +kernel) (by decide)
theorem sX6_year_185 : Snd MX6_year 185 (xGo 45) := snd_goto (M := MX6_year) (pc := 185) dX6_year_185 (by decide)
theorem sX6_year_188 : Snd MX6_year 188 (xLdI 189 3) := snd_iload_n (M := MX6_year) (pc := 188) dX6_year_188
theorem sX6_year_189 : Snd MX6_year 189 (xZ_ne 205 192) := snd_if_ne (M := MX6_year) (pc := 189) dX6_year_189 (by decide)
theorem sX6_year_192 : Snd MX6_year 192 (xLdA 193 0) := snd_aload_n (M := MX6_year) (pc := 192) dX6_year_192
theorem sX6_year_193 : Snd MX6_year 193 (xGf 196 6 0) := snd_gf (M := MX6_year) (pc := 193) (C0 := RX6) (T0 := TX6) (N := 32) dX6_year_193 rfl tbX6 (by decide) w444
theorem sX6_year_196 : Snd MX6_year 196 (xK 198 (nI 7)) := snd_bipush (M := MX6_year) (pc := 196) dX6_year_196 (by decide +kernel)
theorem sX6_year_198 : Snd MX6_year 198 (xiaload 199) := snd_iaload (M := MX6_year) (pc := 198) dX6_year_198
theorem sX6_year_199 : Snd MX6_year 199 (xCallS MX6_ones 1 202) := snd_callS (M := MX6_year) (pc := 199) (n := 1) dX6_year_199 w533 w534 ⟨w462, w532, ⟨by decide, by decide, by decide +kernel⟩, by decide⟩ ⟨rfl, rfl⟩
theorem sX6_year_202 : Snd MX6_year 202 (xGo 211) := snd_goto (M := MX6_year) (pc := 202) dX6_year_202 (by decide)
theorem sX6_year_205 : Snd MX6_year 205 (xLdA 206 0) := snd_aload_n (M := MX6_year) (pc := 205) dX6_year_205
theorem sX6_year_206 : Snd MX6_year 206 (xGf 209 6 0) := snd_gf (M := MX6_year) (pc := 206) (C0 := RX6) (T0 := TX6) (N := 32) dX6_year_206 rfl tbX6 (by decide) w444
theorem sX6_year_209 : Snd MX6_year 209 (xK 210 (nI 5)) := snd_iconst (M := MX6_year) (pc := 209) dX6_year_209 (by decide +kernel)
theorem sX6_year_210 : Snd MX6_year 210 (xiaload 211) := snd_iaload (M := MX6_year) (pc := 210) dX6_year_210
theorem sX6_year_211 : Snd MX6_year 211 (xRet) := snd_iret (M := MX6_year) (pc := 211) dX6_year_211 rfl
theorem VX6_year : Valid MX6_year LX6_year := va_lid sX6_year_0 (va_lid sX6_year_1 (va_lid sX6_year_2 (va_lid sX6_year_3 (va_lid sX6_year_6 (va_lid sX6_year_9 (va_lid sX6_year_12 (va_lid sX6_year_13 (va_lid sX6_year_14 (va_lid sX6_year_15 (va_lid sX6_year_18 (va_lid sX6_year_21 (va_lid sX6_year_24 (va_lid sX6_year_25 (va_lid sX6_year_26 (va_lid sX6_year_27 (va_lid sX6_year_28 (va_lid sX6_year_31 (va_lid sX6_year_34 (va_lid sX6_year_35 (va_lid sX6_year_36 (va_lid sX6_year_37 (va_lid sX6_year_38 (va_lid sX6_year_39 (va_lid sX6_year_42 (va_lid sX6_year_43 (va_lid sX6_year_45 (va_lid sX6_year_47 (va_lid sX6_year_48 (va_lid sX6_year_51 (va_lid sX6_year_54 (va_lid sX6_year_55 (va_lid sX6_year_56 (va_lid sX6_year_57 (va_lid sX6_year_60 (va_lid sX6_year_62 (va_lid sX6_year_63 (va_lid sX6_year_64 (va_lid sX6_year_65 (va_lid sX6_year_66 (va_lid sX6_year_67 (va_lid sX6_year_69 (va_lid sX6_year_71 (va_lid sX6_year_73 (va_lid sX6_year_74 (va_lid sX6_year_77 (va_lid sX6_year_78 (va_lid sX6_year_79 (va_lid sX6_year_81 (va_lid sX6_year_83 (va_lid sX6_year_84 (va_lid sX6_year_87 (va_lid sX6_year_88 (va_lid sX6_year_90 (va_lid sX6_year_92 (va_lid sX6_year_94 (va_lid sX6_year_95 (va_lid sX6_year_96 (va_lid sX6_year_99 (va_lid sX6_year_100 (va_lid sX6_year_102 (va_lid sX6_year_103 (va_lid sX6_year_104 (va_lid sX6_year_106 (va_lid sX6_year_109 (va_lid sX6_year_112 (va_lid sX6_year_113 (va_lid sX6_year_114 (va_lid sX6_year_116 (va_lid sX6_year_119 (va_lid sX6_year_122 (va_lid sX6_year_124 (va_lid sX6_year_126 (va_lid sX6_year_127 (va_lid sX6_year_128 (va_lid sX6_year_129 (va_lid sX6_year_132 (va_lid sX6_year_133 (va_lid sX6_year_136 (va_lid sX6_year_138 (va_lid sX6_year_139 (va_lid sX6_year_140 (va_lid sX6_year_141 (va_lid sX6_year_143 (va_lid sX6_year_144 (va_lid sX6_year_145 (va_lid sX6_year_146 (va_lid sX6_year_147 (va_lid sX6_year_148 (va_lid sX6_year_149 (va_lid sX6_year_150 (va_lid sX6_year_152 (va_lid sX6_year_155 (va_lid sX6_year_158 (va_lid sX6_year_160 (va_lid sX6_year_163 (va_lid sX6_year_164 (va_lid sX6_year_165 (va_lid sX6_year_166 (va_lid sX6_year_169 (va_lid sX6_year_170 (va_lid sX6_year_171 (va_lid sX6_year_173 (va_lid sX6_year_176 (va_lid sX6_year_177 (va_lid sX6_year_178 (va_lid sX6_year_179 (va_lid sX6_year_182 (va_lid sX6_year_185 (va_lid sX6_year_188 (va_lid sX6_year_189 (va_lid sX6_year_192 (va_lid sX6_year_193 (va_lid sX6_year_196 (va_lid sX6_year_198 (va_lid sX6_year_199 (va_lid sX6_year_202 (va_lid sX6_year_205 (va_lid sX6_year_206 (va_lid sX6_year_209 (va_lid sX6_year_210 (va_lid sX6_year_211 (va_lid0))))))))))))))))))))))))))))))))))))))))))))))))))))))))))))))))))))))))))))))))))))))))))))))))))))))))))))))))))))))))))
theorem kX6_year_0 : lk LX6_year 0 = some (xLdI 1 1) := rfl
theorem kX6_year_1 : lk LX6_year 1 = some (xI2l 2) := rfl
theorem kX6_year_2 : lk LX6_year 2 = some (xKL 3 (lN 0)) := rfl
theorem kX6_year_3 : lk LX6_year 3 = some (xKL 6 (lN 9999)) := rfl
theorem kX6_year_6 : lk LX6_year 6 = some (xCallS MX6_in 3 9) := rfl
theorem kX6_year_9 : lk LX6_year 9 = some (xZ_eq 34 12) := rfl
theorem kX6_year_12 : lk LX6_year 12 = some (xLdI 13 2) := rfl
theorem kX6_year_13 : lk LX6_year 13 = some (xI2l 14) := rfl
theorem kX6_year_14 : lk LX6_year 14 = some (xKL 15 (lN 1)) := rfl
theorem kX6_year_15 : lk LX6_year 15 = some (xKL 18 (lN 40)) := rfl
theorem kX6_year_18 : lk LX6_year 18 = some (xCallS MX6_in 3 21) := rfl
theorem kX6_year_21 : lk LX6_year 21 = some (xZ_eq 34 24) := rfl
theorem kX6_year_24 : lk LX6_year 24 = some (xLdI 25 3) := rfl
theorem kX6_year_25 : lk LX6_year 25 = some (xI2l 26) := rfl
theorem kX6_year_26 : lk LX6_year 26 = some (xKL 27 (lN 0)) := rfl
theorem kX6_year_27 : lk LX6_year 27 = some (xKL 28 (lN 1)) := rfl
theorem kX6_year_28 : lk LX6_year 28 = some (xCallS MX6_in 3 31) := rfl
theorem kX6_year_31 : lk LX6_year 31 = some (xZ_ne 36 34) := rfl
theorem kX6_year_34 : lk LX6_year 34 = some (xK 35 ((-1))) := rfl
theorem kX6_year_35 : lk LX6_year 35 = some (xRet) := rfl
theorem kX6_year_36 : lk LX6_year 36 = some (xLdA 37 0) := rfl
theorem kX6_year_37 : lk LX6_year 37 = some (xK 38 (nI 0)) := rfl
theorem kX6_year_38 : lk LX6_year 38 = some (xK 39 (nI 4)) := rfl
theorem kX6_year_39 : lk LX6_year 39 = some (xCallV MX6_copy 6 2 42) := rfl
theorem kX6_year_42 : lk LX6_year 42 = some (xK 43 (nI 0)) := rfl
theorem kX6_year_43 : lk LX6_year 43 = some (xStI 45 4) := rfl
theorem kX6_year_45 : lk LX6_year 45 = some (xLdI 47 4) := rfl
theorem kX6_year_47 : lk LX6_year 47 = some (xLdI 48 2) := rfl
theorem kX6_year_48 : lk LX6_year 48 = some (xC_ge 188 51) := rfl
theorem kX6_year_51 : lk LX6_year 51 = some (xKL 54 (lN 7919)) := rfl
theorem kX6_year_54 : lk LX6_year 54 = some (xLdI 55 1) := rfl
theorem kX6_year_55 : lk LX6_year 55 = some (xI2l 56) := rfl
theorem kX6_year_56 : lk LX6_year 56 = some (xBinL 57 f_lmul) := rfl
theorem kX6_year_57 : lk LX6_year 57 = some (xKL 60 (lN 6151)) := rfl
theorem kX6_year_60 : lk LX6_year 60 = some (xLdI 62 4) := rfl
theorem kX6_year_62 : lk LX6_year 62 = some (xI2l 63) := rfl
theorem kX6_year_63 : lk LX6_year 63 = some (xBinL 64 f_lmul) := rfl
theorem kX6_year_64 : lk LX6_year 64 = some (xBinL 65 f_ladd) := rfl
theorem kX6_year_65 : lk LX6_year 65 = some (xKL 66 (lN 1)) := rfl
theorem kX6_year_66 : lk LX6_year 66 = some (xBinL 67 f_ladd) := rfl
theorem kX6_year_67 : lk LX6_year 67 = some (xStL 69 5) := rfl
theorem kX6_year_69 : lk LX6_year 69 = some (xLdL 71 5) := rfl
theorem kX6_year_71 : lk LX6_year 71 = some (xLdL 73 5) := rfl
theorem kX6_year_73 : lk LX6_year 73 = some (xBinL 74 f_lmul) := rfl
theorem kX6_year_74 : lk LX6_year 74 = some (xKL 77 (lN 65521)) := rfl
theorem kX6_year_77 : lk LX6_year 77 = some (xDivL 78 f_lrem) := rfl
theorem kX6_year_78 : lk LX6_year 78 = some (xL2i 79) := rfl
theorem kX6_year_79 : lk LX6_year 79 = some (xStI 81 7) := rfl
theorem kX6_year_81 : lk LX6_year 81 = some (xLdI 83 7) := rfl
theorem kX6_year_83 : lk LX6_year 83 = some (xLdA 84 0) := rfl
theorem kX6_year_84 : lk LX6_year 84 = some (xGf 87 6 5) := rfl
theorem kX6_year_87 : lk LX6_year 87 = some (xDiv 88 f_irem) := rfl
theorem kX6_year_88 : lk LX6_year 88 = some (xStI 90 8) := rfl
theorem kX6_year_90 : lk LX6_year 90 = some (xLdI 92 7) := rfl
theorem kX6_year_92 : lk LX6_year 92 = some (xK 94 (nI 32)) := rfl
theorem kX6_year_94 : lk LX6_year 94 = some (xDiv 95 f_idiv) := rfl
theorem kX6_year_95 : lk LX6_year 95 = some (xLdA 96 0) := rfl
theorem kX6_year_96 : lk LX6_year 96 = some (xGf 99 6 9) := rfl
theorem kX6_year_99 : lk LX6_year 99 = some (xDiv 100 f_irem) := rfl
theorem kX6_year_100 : lk LX6_year 100 = some (xStI 102 9) := rfl
theorem kX6_year_102 : lk LX6_year 102 = some (xLdA 103 0) := rfl
theorem kX6_year_103 : lk LX6_year 103 = some (xK 104 (nI 4)) := rfl
theorem kX6_year_104 : lk LX6_year 104 = some (xLdI 106 8) := rfl
theorem kX6_year_106 : lk LX6_year 106 = some (xCallV MX6_canPut 6 2 109) := rfl
theorem kX6_year_109 : lk LX6_year 109 = some (xZ_eq 122 112) := rfl
theorem kX6_year_112 : lk LX6_year 112 = some (xLdA 113 0) := rfl
theorem kX6_year_113 : lk LX6_year 113 = some (xK 114 (nI 4)) := rfl
theorem kX6_year_114 : lk LX6_year 114 = some (xLdI 116 8) := rfl
theorem kX6_year_116 : lk LX6_year 116 = some (xCallV MX6_puts 6 2 119) := rfl
theorem kX6_year_119 : lk LX6_year 119 = some (xGo 148) := rfl
theorem kX6_year_122 : lk LX6_year 122 = some (xLdI 124 7) := rfl
theorem kX6_year_124 : lk LX6_year 124 = some (xK 126 (nI 8)) := rfl
theorem kX6_year_126 : lk LX6_year 126 = some (xDiv 127 f_idiv) := rfl
theorem kX6_year_127 : lk LX6_year 127 = some (xK 128 (nI 3)) := rfl
theorem kX6_year_128 : lk LX6_year 128 = some (xDiv 129 f_irem) := rfl
theorem kX6_year_129 : lk LX6_year 129 = some (xZ_ne 148 132) := rfl
theorem kX6_year_132 : lk LX6_year 132 = some (xLdA 133 0) := rfl
theorem kX6_year_133 : lk LX6_year 133 = some (xGf 136 6 0) := rfl
theorem kX6_year_136 : lk LX6_year 136 = some (xK 138 (nI 6)) := rfl
theorem kX6_year_138 : lk LX6_year 138 = some (xDup2 139) := rfl
set_option maxRecDepth 20000 in
theorem kX6_year_139 : lk LX6_year 139 = some (xiaload 140) := rfl
set_option maxRecDepth 20000 in
theorem kX6_year_140 : lk LX6_year 140 = some (xK 141 (nI 1)) := rfl
set_option maxRecDepth 20000 in
theorem kX6_year_141 : lk LX6_year 141 = some (xLdI 143 8) := rfl
set_option maxRecDepth 20000 in
theorem kX6_year_143 : lk LX6_year 143 = some (xBin 144 f_ishl) := rfl
set_option maxRecDepth 20000 in
theorem kX6_year_144 : lk LX6_year 144 = some (xK 145 ((-1))) := rfl
set_option maxRecDepth 20000 in
theorem kX6_year_145 : lk LX6_year 145 = some (xBin 146 f_ixor) := rfl
set_option maxRecDepth 20000 in
theorem kX6_year_146 : lk LX6_year 146 = some (xBin 147 f_iand) := rfl
set_option maxRecDepth 20000 in
theorem kX6_year_147 : lk LX6_year 147 = some (xiastore 148) := rfl
set_option maxRecDepth 20000 in
theorem kX6_year_148 : lk LX6_year 148 = some (xLdA 149 0) := rfl
set_option maxRecDepth 20000 in
theorem kX6_year_149 : lk LX6_year 149 = some (xK 150 (nI 4)) := rfl
set_option maxRecDepth 20000 in
theorem kX6_year_150 : lk LX6_year 150 = some (xLdI 152 9) := rfl
set_option maxRecDepth 20000 in
theorem kX6_year_152 : lk LX6_year 152 = some (xCallV MX6_canLive 6 2 155) := rfl
set_option maxRecDepth 20000 in
theorem kX6_year_155 : lk LX6_year 155 = some (xZ_eq 177 158) := rfl
set_option maxRecDepth 20000 in
theorem kX6_year_158 : lk LX6_year 158 = some (xLdI 160 7) := rfl
set_option maxRecDepth 20000 in
theorem kX6_year_160 : lk LX6_year 160 = some (xK 163 (nI 256)) := rfl
set_option maxRecDepth 20000 in
theorem kX6_year_163 : lk LX6_year 163 = some (xDiv 164 f_idiv) := rfl
set_option maxRecDepth 20000 in
theorem kX6_year_164 : lk LX6_year 164 = some (xK 165 (nI 2)) := rfl
set_option maxRecDepth 20000 in
theorem kX6_year_165 : lk LX6_year 165 = some (xDiv 166 f_irem) := rfl
set_option maxRecDepth 20000 in
theorem kX6_year_166 : lk LX6_year 166 = some (xZ_ne 177 169) := rfl
set_option maxRecDepth 20000 in
theorem kX6_year_169 : lk LX6_year 169 = some (xLdA 170 0) := rfl
set_option maxRecDepth 20000 in
theorem kX6_year_170 : lk LX6_year 170 = some (xK 171 (nI 4)) := rfl
set_option maxRecDepth 20000 in
theorem kX6_year_171 : lk LX6_year 171 = some (xLdI 173 9) := rfl
set_option maxRecDepth 20000 in
theorem kX6_year_173 : lk LX6_year 173 = some (xCallV MX6_livesOne 6 2 176) := rfl
set_option maxRecDepth 20000 in
theorem kX6_year_176 : lk LX6_year 176 = some (xPop 177) := rfl
set_option maxRecDepth 20000 in
theorem kX6_year_177 : lk LX6_year 177 = some (xLdA 178 0) := rfl
set_option maxRecDepth 20000 in
theorem kX6_year_178 : lk LX6_year 178 = some (xK 179 (nI 4)) := rfl
set_option maxRecDepth 20000 in
theorem kX6_year_179 : lk LX6_year 179 = some (xCallV MX6_passes 6 1 182) := rfl
set_option maxRecDepth 20000 in
theorem kX6_year_182 : lk LX6_year 182 = some (xInc 185 4 (nI 1)) := rfl
set_option maxRecDepth 20000 in
theorem kX6_year_185 : lk LX6_year 185 = some (xGo 45) := rfl
set_option maxRecDepth 20000 in
theorem kX6_year_188 : lk LX6_year 188 = some (xLdI 189 3) := rfl
set_option maxRecDepth 20000 in
theorem kX6_year_189 : lk LX6_year 189 = some (xZ_ne 205 192) := rfl
set_option maxRecDepth 20000 in
theorem kX6_year_192 : lk LX6_year 192 = some (xLdA 193 0) := rfl
set_option maxRecDepth 20000 in
theorem kX6_year_193 : lk LX6_year 193 = some (xGf 196 6 0) := rfl
set_option maxRecDepth 20000 in
theorem kX6_year_196 : lk LX6_year 196 = some (xK 198 (nI 7)) := rfl
set_option maxRecDepth 20000 in
theorem kX6_year_198 : lk LX6_year 198 = some (xiaload 199) := rfl
set_option maxRecDepth 20000 in
theorem kX6_year_199 : lk LX6_year 199 = some (xCallS MX6_ones 1 202) := rfl
set_option maxRecDepth 20000 in
theorem kX6_year_202 : lk LX6_year 202 = some (xGo 211) := rfl
set_option maxRecDepth 20000 in
theorem kX6_year_205 : lk LX6_year 205 = some (xLdA 206 0) := rfl
set_option maxRecDepth 20000 in
theorem kX6_year_206 : lk LX6_year 206 = some (xGf 209 6 0) := rfl
set_option maxRecDepth 20000 in
theorem kX6_year_209 : lk LX6_year 209 = some (xK 210 (nI 5)) := rfl
set_option maxRecDepth 20000 in
theorem kX6_year_210 : lk LX6_year 210 = some (xiaload 211) := rfl
set_option maxRecDepth 20000 in
theorem kX6_year_211 : lk LX6_year 211 = some (xRet) := rfl
def LX6_keep : List (Nat × XI) := [(0, xLdA 1 0),
  (1, xGf 4 6 2),
  (4, xK 5 (nI 2)),
  (5, xC_ne 11 8),
  (8, xK 10 ((-3))),
  (10, xRet),
  (11, xLdA 12 0),
  (12, xK 13 (nI 0)),
  (13, xK 15 (nI 8)),
  (15, xK 16 (nI 4)),
  (16, xLdA 17 0),
  (17, xGf 20 6 2),
  (20, xBin 21 f_imul),
  (21, xBin 22 f_iadd),
  (22, xCallV MX6_copy 6 2 25),
  (25, xLdA 26 0),
  (26, xDup 27),
  (27, xGf 30 6 2),
  (30, xK 31 (nI 1)),
  (31, xBin 32 f_iadd),
  (32, xPfI 35 6 2),
  (35, xLdA 36 0),
  (36, xGf 39 6 2),
  (39, xRet)]
theorem sX6_keep_0 : Snd MX6_keep 0 (xLdA 1 0) := snd_aload_n (M := MX6_keep) (pc := 0) dX6_keep_0
theorem sX6_keep_1 : Snd MX6_keep 1 (xGf 4 6 2) := snd_gf (M := MX6_keep) (pc := 1) (C0 := RX6) (T0 := TX6) (N := 32) dX6_keep_1 rfl tbX6 (by decide) w485
theorem sX6_keep_4 : Snd MX6_keep 4 (xK 5 (nI 2)) := snd_iconst (M := MX6_keep) (pc := 4) dX6_keep_4 (by decide +kernel)
theorem sX6_keep_5 : Snd MX6_keep 5 (xC_ne 11 8) := snd_icmp_ne (M := MX6_keep) (pc := 5) dX6_keep_5 (by decide)
theorem sX6_keep_8 : Snd MX6_keep 8 (xK 10 ((-3))) := snd_bipush (M := MX6_keep) (pc := 8) dX6_keep_8 (by decide +kernel)
theorem sX6_keep_10 : Snd MX6_keep 10 (xRet) := snd_iret (M := MX6_keep) (pc := 10) dX6_keep_10 rfl
theorem sX6_keep_11 : Snd MX6_keep 11 (xLdA 12 0) := snd_aload_n (M := MX6_keep) (pc := 11) dX6_keep_11
theorem sX6_keep_12 : Snd MX6_keep 12 (xK 13 (nI 0)) := snd_iconst (M := MX6_keep) (pc := 12) dX6_keep_12 (by decide +kernel)
theorem sX6_keep_13 : Snd MX6_keep 13 (xK 15 (nI 8)) := snd_bipush (M := MX6_keep) (pc := 13) dX6_keep_13 (by decide +kernel)
theorem sX6_keep_15 : Snd MX6_keep 15 (xK 16 (nI 4)) := snd_iconst (M := MX6_keep) (pc := 15) dX6_keep_15 (by decide +kernel)
theorem sX6_keep_16 : Snd MX6_keep 16 (xLdA 17 0) := snd_aload_n (M := MX6_keep) (pc := 16) dX6_keep_16
theorem sX6_keep_17 : Snd MX6_keep 17 (xGf 20 6 2) := snd_gf (M := MX6_keep) (pc := 17) (C0 := RX6) (T0 := TX6) (N := 32) dX6_keep_17 rfl tbX6 (by decide) w485
theorem sX6_keep_20 : Snd MX6_keep 20 (xBin 21 f_imul) := snd_imul (M := MX6_keep) (pc := 20) dX6_keep_20
theorem sX6_keep_21 : Snd MX6_keep 21 (xBin 22 f_iadd) := snd_iadd (M := MX6_keep) (pc := 21) dX6_keep_21
theorem sX6_keep_22 : Snd MX6_keep 22 (xCallV MX6_copy 6 2 25) := snd_callV (M := MX6_keep) (pc := 22) (n := 2) dX6_keep_22 rfl w584 w585 w586 ⟨w462, w583, ⟨by decide, by decide, by decide +kernel⟩, by decide⟩ ⟨rfl, rfl⟩
theorem sX6_keep_25 : Snd MX6_keep 25 (xLdA 26 0) := snd_aload_n (M := MX6_keep) (pc := 25) dX6_keep_25
theorem sX6_keep_26 : Snd MX6_keep 26 (xDup 27) := snd_dup (M := MX6_keep) (pc := 26) dX6_keep_26
theorem sX6_keep_27 : Snd MX6_keep 27 (xGf 30 6 2) := snd_gf (M := MX6_keep) (pc := 27) (C0 := RX6) (T0 := TX6) (N := 32) dX6_keep_27 rfl tbX6 (by decide) w485
theorem sX6_keep_30 : Snd MX6_keep 30 (xK 31 (nI 1)) := snd_iconst (M := MX6_keep) (pc := 30) dX6_keep_30 (by decide +kernel)
theorem sX6_keep_31 : Snd MX6_keep 31 (xBin 32 f_iadd) := snd_iadd (M := MX6_keep) (pc := 31) dX6_keep_31
theorem sX6_keep_32 : Snd MX6_keep 32 (xPfI 35 6 2) := snd_pfI (M := MX6_keep) (pc := 32) (C0 := RX6) (T0 := TX6) (N := 32) dX6_keep_32 rfl tbX6 tyX6 tyX6_ok nmX6 (by decide) w485 rfl (by decide +kernel)
theorem sX6_keep_35 : Snd MX6_keep 35 (xLdA 36 0) := snd_aload_n (M := MX6_keep) (pc := 35) dX6_keep_35
theorem sX6_keep_36 : Snd MX6_keep 36 (xGf 39 6 2) := snd_gf (M := MX6_keep) (pc := 36) (C0 := RX6) (T0 := TX6) (N := 32) dX6_keep_36 rfl tbX6 (by decide) w485
theorem sX6_keep_39 : Snd MX6_keep 39 (xRet) := snd_iret (M := MX6_keep) (pc := 39) dX6_keep_39 rfl
theorem VX6_keep : Valid MX6_keep LX6_keep := va_lid sX6_keep_0 (va_lid sX6_keep_1 (va_lid sX6_keep_4 (va_lid sX6_keep_5 (va_lid sX6_keep_8 (va_lid sX6_keep_10 (va_lid sX6_keep_11 (va_lid sX6_keep_12 (va_lid sX6_keep_13 (va_lid sX6_keep_15 (va_lid sX6_keep_16 (va_lid sX6_keep_17 (va_lid sX6_keep_20 (va_lid sX6_keep_21 (va_lid sX6_keep_22 (va_lid sX6_keep_25 (va_lid sX6_keep_26 (va_lid sX6_keep_27 (va_lid sX6_keep_30 (va_lid sX6_keep_31 (va_lid sX6_keep_32 (va_lid sX6_keep_35 (va_lid sX6_keep_36 (va_lid sX6_keep_39 (va_lid0))))))))))))))))))))))))
theorem kX6_keep_0 : lk LX6_keep 0 = some (xLdA 1 0) := rfl
theorem kX6_keep_1 : lk LX6_keep 1 = some (xGf 4 6 2) := rfl
theorem kX6_keep_4 : lk LX6_keep 4 = some (xK 5 (nI 2)) := rfl
theorem kX6_keep_5 : lk LX6_keep 5 = some (xC_ne 11 8) := rfl
theorem kX6_keep_8 : lk LX6_keep 8 = some (xK 10 ((-3))) := rfl
theorem kX6_keep_10 : lk LX6_keep 10 = some (xRet) := rfl
theorem kX6_keep_11 : lk LX6_keep 11 = some (xLdA 12 0) := rfl
theorem kX6_keep_12 : lk LX6_keep 12 = some (xK 13 (nI 0)) := rfl
theorem kX6_keep_13 : lk LX6_keep 13 = some (xK 15 (nI 8)) := rfl
theorem kX6_keep_15 : lk LX6_keep 15 = some (xK 16 (nI 4)) := rfl
theorem kX6_keep_16 : lk LX6_keep 16 = some (xLdA 17 0) := rfl
theorem kX6_keep_17 : lk LX6_keep 17 = some (xGf 20 6 2) := rfl
theorem kX6_keep_20 : lk LX6_keep 20 = some (xBin 21 f_imul) := rfl
theorem kX6_keep_21 : lk LX6_keep 21 = some (xBin 22 f_iadd) := rfl
theorem kX6_keep_22 : lk LX6_keep 22 = some (xCallV MX6_copy 6 2 25) := rfl
theorem kX6_keep_25 : lk LX6_keep 25 = some (xLdA 26 0) := rfl
theorem kX6_keep_26 : lk LX6_keep 26 = some (xDup 27) := rfl
theorem kX6_keep_27 : lk LX6_keep 27 = some (xGf 30 6 2) := rfl
theorem kX6_keep_30 : lk LX6_keep 30 = some (xK 31 (nI 1)) := rfl
theorem kX6_keep_31 : lk LX6_keep 31 = some (xBin 32 f_iadd) := rfl
theorem kX6_keep_32 : lk LX6_keep 32 = some (xPfI 35 6 2) := rfl
theorem kX6_keep_35 : lk LX6_keep 35 = some (xLdA 36 0) := rfl
theorem kX6_keep_36 : lk LX6_keep 36 = some (xGf 39 6 2) := rfl
theorem kX6_keep_39 : lk LX6_keep 39 = some (xRet) := rfl
def LX6_back : List (Nat × XI) := [(0, xLdA 1 0),
  (1, xGf 4 6 2),
  (4, xZ_ne 10 7),
  (7, xK 9 ((-2))),
  (9, xRet),
  (10, xLdA 11 0),
  (11, xDup 12),
  (12, xGf 15 6 2),
  (15, xK 16 (nI 1)),
  (16, xBin 17 f_isub),
  (17, xPfI 20 6 2),
  (20, xLdA 21 0),
  (21, xK 23 (nI 8)),
  (23, xK 24 (nI 4)),
  (24, xLdA 25 0),
  (25, xGf 28 6 2),
  (28, xBin 29 f_imul),
  (29, xBin 30 f_iadd),
  (30, xK 31 (nI 0)),
  (31, xCallV MX6_copy 6 2 34),
  (34, xLdA 35 0),
  (35, xK 36 (nI 0)),
  (36, xPfI 39 6 1),
  (39, xLdA 40 0),
  (40, xGf 43 6 2),
  (43, xRet)]
theorem sX6_back_0 : Snd MX6_back 0 (xLdA 1 0) := snd_aload_n (M := MX6_back) (pc := 0) dX6_back_0
theorem sX6_back_1 : Snd MX6_back 1 (xGf 4 6 2) := snd_gf (M := MX6_back) (pc := 1) (C0 := RX6) (T0 := TX6) (N := 32) dX6_back_1 rfl tbX6 (by decide) w485
theorem sX6_back_4 : Snd MX6_back 4 (xZ_ne 10 7) := snd_if_ne (M := MX6_back) (pc := 4) dX6_back_4 (by decide)
theorem sX6_back_7 : Snd MX6_back 7 (xK 9 ((-2))) := snd_bipush (M := MX6_back) (pc := 7) dX6_back_7 (by decide +kernel)
theorem sX6_back_9 : Snd MX6_back 9 (xRet) := snd_iret (M := MX6_back) (pc := 9) dX6_back_9 rfl
theorem sX6_back_10 : Snd MX6_back 10 (xLdA 11 0) := snd_aload_n (M := MX6_back) (pc := 10) dX6_back_10
theorem sX6_back_11 : Snd MX6_back 11 (xDup 12) := snd_dup (M := MX6_back) (pc := 11) dX6_back_11
theorem sX6_back_12 : Snd MX6_back 12 (xGf 15 6 2) := snd_gf (M := MX6_back) (pc := 12) (C0 := RX6) (T0 := TX6) (N := 32) dX6_back_12 rfl tbX6 (by decide) w485
theorem sX6_back_15 : Snd MX6_back 15 (xK 16 (nI 1)) := snd_iconst (M := MX6_back) (pc := 15) dX6_back_15 (by decide +kernel)
theorem sX6_back_16 : Snd MX6_back 16 (xBin 17 f_isub) := snd_isub (M := MX6_back) (pc := 16) dX6_back_16
theorem sX6_back_17 : Snd MX6_back 17 (xPfI 20 6 2) := snd_pfI (M := MX6_back) (pc := 17) (C0 := RX6) (T0 := TX6) (N := 32) dX6_back_17 rfl tbX6 tyX6 tyX6_ok nmX6 (by decide) w485 rfl (by decide +kernel)
theorem sX6_back_20 : Snd MX6_back 20 (xLdA 21 0) := snd_aload_n (M := MX6_back) (pc := 20) dX6_back_20
theorem sX6_back_21 : Snd MX6_back 21 (xK 23 (nI 8)) := snd_bipush (M := MX6_back) (pc := 21) dX6_back_21 (by decide +kernel)
theorem sX6_back_23 : Snd MX6_back 23 (xK 24 (nI 4)) := snd_iconst (M := MX6_back) (pc := 23) dX6_back_23 (by decide +kernel)
theorem sX6_back_24 : Snd MX6_back 24 (xLdA 25 0) := snd_aload_n (M := MX6_back) (pc := 24) dX6_back_24
theorem sX6_back_25 : Snd MX6_back 25 (xGf 28 6 2) := snd_gf (M := MX6_back) (pc := 25) (C0 := RX6) (T0 := TX6) (N := 32) dX6_back_25 rfl tbX6 (by decide) w485
theorem sX6_back_28 : Snd MX6_back 28 (xBin 29 f_imul) := snd_imul (M := MX6_back) (pc := 28) dX6_back_28
theorem sX6_back_29 : Snd MX6_back 29 (xBin 30 f_iadd) := snd_iadd (M := MX6_back) (pc := 29) dX6_back_29
theorem sX6_back_30 : Snd MX6_back 30 (xK 31 (nI 0)) := snd_iconst (M := MX6_back) (pc := 30) dX6_back_30 (by decide +kernel)
theorem sX6_back_31 : Snd MX6_back 31 (xCallV MX6_copy 6 2 34) := snd_callV (M := MX6_back) (pc := 31) (n := 2) dX6_back_31 rfl w584 w585 w586 ⟨w462, w583, ⟨by decide, by decide, by decide +kernel⟩, by decide⟩ ⟨rfl, rfl⟩
theorem sX6_back_34 : Snd MX6_back 34 (xLdA 35 0) := snd_aload_n (M := MX6_back) (pc := 34) dX6_back_34
theorem sX6_back_35 : Snd MX6_back 35 (xK 36 (nI 0)) := snd_iconst (M := MX6_back) (pc := 35) dX6_back_35 (by decide +kernel)
theorem sX6_back_36 : Snd MX6_back 36 (xPfI 39 6 1) := snd_pfI (M := MX6_back) (pc := 36) (C0 := RX6) (T0 := TX6) (N := 32) dX6_back_36 rfl tbX6 tyX6 tyX6_ok nmX6 (by decide) w484 rfl (by decide +kernel)
theorem sX6_back_39 : Snd MX6_back 39 (xLdA 40 0) := snd_aload_n (M := MX6_back) (pc := 39) dX6_back_39
theorem sX6_back_40 : Snd MX6_back 40 (xGf 43 6 2) := snd_gf (M := MX6_back) (pc := 40) (C0 := RX6) (T0 := TX6) (N := 32) dX6_back_40 rfl tbX6 (by decide) w485
theorem sX6_back_43 : Snd MX6_back 43 (xRet) := snd_iret (M := MX6_back) (pc := 43) dX6_back_43 rfl
theorem VX6_back : Valid MX6_back LX6_back := va_lid sX6_back_0 (va_lid sX6_back_1 (va_lid sX6_back_4 (va_lid sX6_back_7 (va_lid sX6_back_9 (va_lid sX6_back_10 (va_lid sX6_back_11 (va_lid sX6_back_12 (va_lid sX6_back_15 (va_lid sX6_back_16 (va_lid sX6_back_17 (va_lid sX6_back_20 (va_lid sX6_back_21 (va_lid sX6_back_23 (va_lid sX6_back_24 (va_lid sX6_back_25 (va_lid sX6_back_28 (va_lid sX6_back_29 (va_lid sX6_back_30 (va_lid sX6_back_31 (va_lid sX6_back_34 (va_lid sX6_back_35 (va_lid sX6_back_36 (va_lid sX6_back_39 (va_lid sX6_back_40 (va_lid sX6_back_43 (va_lid0))))))))))))))))))))))))))
theorem kX6_back_0 : lk LX6_back 0 = some (xLdA 1 0) := rfl
theorem kX6_back_1 : lk LX6_back 1 = some (xGf 4 6 2) := rfl
theorem kX6_back_4 : lk LX6_back 4 = some (xZ_ne 10 7) := rfl
theorem kX6_back_7 : lk LX6_back 7 = some (xK 9 ((-2))) := rfl
theorem kX6_back_9 : lk LX6_back 9 = some (xRet) := rfl
theorem kX6_back_10 : lk LX6_back 10 = some (xLdA 11 0) := rfl
theorem kX6_back_11 : lk LX6_back 11 = some (xDup 12) := rfl
theorem kX6_back_12 : lk LX6_back 12 = some (xGf 15 6 2) := rfl
theorem kX6_back_15 : lk LX6_back 15 = some (xK 16 (nI 1)) := rfl
theorem kX6_back_16 : lk LX6_back 16 = some (xBin 17 f_isub) := rfl
theorem kX6_back_17 : lk LX6_back 17 = some (xPfI 20 6 2) := rfl
theorem kX6_back_20 : lk LX6_back 20 = some (xLdA 21 0) := rfl
theorem kX6_back_21 : lk LX6_back 21 = some (xK 23 (nI 8)) := rfl
theorem kX6_back_23 : lk LX6_back 23 = some (xK 24 (nI 4)) := rfl
theorem kX6_back_24 : lk LX6_back 24 = some (xLdA 25 0) := rfl
theorem kX6_back_25 : lk LX6_back 25 = some (xGf 28 6 2) := rfl
theorem kX6_back_28 : lk LX6_back 28 = some (xBin 29 f_imul) := rfl
theorem kX6_back_29 : lk LX6_back 29 = some (xBin 30 f_iadd) := rfl
theorem kX6_back_30 : lk LX6_back 30 = some (xK 31 (nI 0)) := rfl
theorem kX6_back_31 : lk LX6_back 31 = some (xCallV MX6_copy 6 2 34) := rfl
theorem kX6_back_34 : lk LX6_back 34 = some (xLdA 35 0) := rfl
theorem kX6_back_35 : lk LX6_back 35 = some (xK 36 (nI 0)) := rfl
theorem kX6_back_36 : lk LX6_back 36 = some (xPfI 39 6 1) := rfl
theorem kX6_back_39 : lk LX6_back 39 = some (xLdA 40 0) := rfl
theorem kX6_back_40 : lk LX6_back 40 = some (xGf 43 6 2) := rfl
theorem kX6_back_43 : lk LX6_back 43 = some (xRet) := rfl
def LX6_count : List (Nat × XI) := [(0, xLdI 1 1),
  (1, xTsw 147 0 [64, 69, 74, 79, 89, 103, 113, 120, 127, 132, 137, 142]),
  (64, xLdA 65 0),
  (65, xGf 68 6 5),
  (68, xRet),
  (69, xLdA 70 0),
  (70, xGf 73 6 9),
  (73, xRet),
  (74, xLdA 75 0),
  (75, xGf 78 6 3),
  (78, xRet),
  (79, xLdA 80 0),
  (80, xGf 83 6 0),
  (83, xK 84 (nI 2)),
  (84, xiaload 85),
  (85, xCallS MX6_ones 1 88),
  (88, xRet),
  (89, xLdA 90 0),
  (90, xLdA 91 0),
  (91, xGf 94 6 0),
  (94, xK 95 (nI 2)),
  (95, xiaload 96),
  (96, xCallV MX6_livesBy 6 1 99),
  (99, xCallS MX6_ones 1 102),
  (102, xRet),
  (103, xLdA 104 0),
  (104, xGf 107 6 0),
  (107, xK 108 (nI 3)),
  (108, xiaload 109),
  (109, xCallS MX6_ones 1 112),
  (112, xRet),
  (113, xLdA 114 0),
  (114, xGf 117 6 0),
  (117, xK 118 (nI 1)),
  (118, xiaload 119),
  (119, xRet),
  (120, xLdA 121 0),
  (121, xGf 124 6 0),
  (124, xK 125 (nI 0)),
  (125, xiaload 126),
  (126, xRet),
  (127, xLdA 128 0),
  (128, xGf 131 6 16),
  (131, xRet),
  (132, xLdA 133 0),
  (133, xGf 136 6 1),
  (136, xRet),
  (137, xLdA 138 0),
  (138, xGf 141 6 2),
  (141, xRet),
  (142, xLdA 143 0),
  (143, xGf 146 6 18),
  (146, xRet),
  (147, xK 148 ((-1))),
  (148, xRet)]
theorem sX6_count_0 : Snd MX6_count 0 (xLdI 1 1) := snd_iload_n (M := MX6_count) (pc := 0) dX6_count_0
theorem sX6_count_1 : Snd MX6_count 1 (xTsw 147 0 [64, 69, 74, 79, 89, 103, 113, 120, 127, 132, 137, 142]) := snd_tsw (M := MX6_count) (pc := 1) dX6_count_1 rfl (by decide) (by decide) (by decide) (by decide +kernel)
theorem sX6_count_64 : Snd MX6_count 64 (xLdA 65 0) := snd_aload_n (M := MX6_count) (pc := 64) dX6_count_64
theorem sX6_count_65 : Snd MX6_count 65 (xGf 68 6 5) := snd_gf (M := MX6_count) (pc := 65) (C0 := RX6) (T0 := TX6) (N := 32) dX6_count_65 rfl tbX6 (by decide) w475
theorem sX6_count_68 : Snd MX6_count 68 (xRet) := snd_iret (M := MX6_count) (pc := 68) dX6_count_68 rfl
theorem sX6_count_69 : Snd MX6_count 69 (xLdA 70 0) := snd_aload_n (M := MX6_count) (pc := 69) dX6_count_69
theorem sX6_count_70 : Snd MX6_count 70 (xGf 73 6 9) := snd_gf (M := MX6_count) (pc := 70) (C0 := RX6) (T0 := TX6) (N := 32) dX6_count_70 rfl tbX6 (by decide) w479
theorem sX6_count_73 : Snd MX6_count 73 (xRet) := snd_iret (M := MX6_count) (pc := 73) dX6_count_73 rfl
theorem sX6_count_74 : Snd MX6_count 74 (xLdA 75 0) := snd_aload_n (M := MX6_count) (pc := 74) dX6_count_74
theorem sX6_count_75 : Snd MX6_count 75 (xGf 78 6 3) := snd_gf (M := MX6_count) (pc := 75) (C0 := RX6) (T0 := TX6) (N := 32) dX6_count_75 rfl tbX6 (by decide) w482
theorem sX6_count_78 : Snd MX6_count 78 (xRet) := snd_iret (M := MX6_count) (pc := 78) dX6_count_78 rfl
theorem sX6_count_79 : Snd MX6_count 79 (xLdA 80 0) := snd_aload_n (M := MX6_count) (pc := 79) dX6_count_79
theorem sX6_count_80 : Snd MX6_count 80 (xGf 83 6 0) := snd_gf (M := MX6_count) (pc := 80) (C0 := RX6) (T0 := TX6) (N := 32) dX6_count_80 rfl tbX6 (by decide) w444
theorem sX6_count_83 : Snd MX6_count 83 (xK 84 (nI 2)) := snd_iconst (M := MX6_count) (pc := 83) dX6_count_83 (by decide +kernel)
theorem sX6_count_84 : Snd MX6_count 84 (xiaload 85) := snd_iaload (M := MX6_count) (pc := 84) dX6_count_84
theorem sX6_count_85 : Snd MX6_count 85 (xCallS MX6_ones 1 88) := snd_callS (M := MX6_count) (pc := 85) (n := 1) dX6_count_85 w533 w534 ⟨w462, w532, ⟨by decide, by decide, by decide +kernel⟩, by decide⟩ ⟨rfl, rfl⟩
theorem sX6_count_88 : Snd MX6_count 88 (xRet) := snd_iret (M := MX6_count) (pc := 88) dX6_count_88 rfl
theorem sX6_count_89 : Snd MX6_count 89 (xLdA 90 0) := snd_aload_n (M := MX6_count) (pc := 89) dX6_count_89
theorem sX6_count_90 : Snd MX6_count 90 (xLdA 91 0) := snd_aload_n (M := MX6_count) (pc := 90) dX6_count_90
theorem sX6_count_91 : Snd MX6_count 91 (xGf 94 6 0) := snd_gf (M := MX6_count) (pc := 91) (C0 := RX6) (T0 := TX6) (N := 32) dX6_count_91 rfl tbX6 (by decide) w444
theorem sX6_count_94 : Snd MX6_count 94 (xK 95 (nI 2)) := snd_iconst (M := MX6_count) (pc := 94) dX6_count_94 (by decide +kernel)
theorem sX6_count_95 : Snd MX6_count 95 (xiaload 96) := snd_iaload (M := MX6_count) (pc := 95) dX6_count_95
theorem sX6_count_96 : Snd MX6_count 96 (xCallV MX6_livesBy 6 1 99) := snd_callV (M := MX6_count) (pc := 96) (n := 1) dX6_count_96 rfl w614 w615 w616 ⟨w462, w613, ⟨by decide, by decide, by decide +kernel⟩, by decide⟩ ⟨rfl, rfl⟩
theorem sX6_count_99 : Snd MX6_count 99 (xCallS MX6_ones 1 102) := snd_callS (M := MX6_count) (pc := 99) (n := 1) dX6_count_99 w533 w534 ⟨w462, w532, ⟨by decide, by decide, by decide +kernel⟩, by decide⟩ ⟨rfl, rfl⟩
theorem sX6_count_102 : Snd MX6_count 102 (xRet) := snd_iret (M := MX6_count) (pc := 102) dX6_count_102 rfl
theorem sX6_count_103 : Snd MX6_count 103 (xLdA 104 0) := snd_aload_n (M := MX6_count) (pc := 103) dX6_count_103
theorem sX6_count_104 : Snd MX6_count 104 (xGf 107 6 0) := snd_gf (M := MX6_count) (pc := 104) (C0 := RX6) (T0 := TX6) (N := 32) dX6_count_104 rfl tbX6 (by decide) w444
theorem sX6_count_107 : Snd MX6_count 107 (xK 108 (nI 3)) := snd_iconst (M := MX6_count) (pc := 107) dX6_count_107 (by decide +kernel)
theorem sX6_count_108 : Snd MX6_count 108 (xiaload 109) := snd_iaload (M := MX6_count) (pc := 108) dX6_count_108
theorem sX6_count_109 : Snd MX6_count 109 (xCallS MX6_ones 1 112) := snd_callS (M := MX6_count) (pc := 109) (n := 1) dX6_count_109 w533 w534 ⟨w462, w532, ⟨by decide, by decide, by decide +kernel⟩, by decide⟩ ⟨rfl, rfl⟩
theorem sX6_count_112 : Snd MX6_count 112 (xRet) := snd_iret (M := MX6_count) (pc := 112) dX6_count_112 rfl
theorem sX6_count_113 : Snd MX6_count 113 (xLdA 114 0) := snd_aload_n (M := MX6_count) (pc := 113) dX6_count_113
theorem sX6_count_114 : Snd MX6_count 114 (xGf 117 6 0) := snd_gf (M := MX6_count) (pc := 114) (C0 := RX6) (T0 := TX6) (N := 32) dX6_count_114 rfl tbX6 (by decide) w444
theorem sX6_count_117 : Snd MX6_count 117 (xK 118 (nI 1)) := snd_iconst (M := MX6_count) (pc := 117) dX6_count_117 (by decide +kernel)
theorem sX6_count_118 : Snd MX6_count 118 (xiaload 119) := snd_iaload (M := MX6_count) (pc := 118) dX6_count_118
theorem sX6_count_119 : Snd MX6_count 119 (xRet) := snd_iret (M := MX6_count) (pc := 119) dX6_count_119 rfl
theorem sX6_count_120 : Snd MX6_count 120 (xLdA 121 0) := snd_aload_n (M := MX6_count) (pc := 120) dX6_count_120
theorem sX6_count_121 : Snd MX6_count 121 (xGf 124 6 0) := snd_gf (M := MX6_count) (pc := 121) (C0 := RX6) (T0 := TX6) (N := 32) dX6_count_121 rfl tbX6 (by decide) w444
theorem sX6_count_124 : Snd MX6_count 124 (xK 125 (nI 0)) := snd_iconst (M := MX6_count) (pc := 124) dX6_count_124 (by decide +kernel)
theorem sX6_count_125 : Snd MX6_count 125 (xiaload 126) := snd_iaload (M := MX6_count) (pc := 125) dX6_count_125
theorem sX6_count_126 : Snd MX6_count 126 (xRet) := snd_iret (M := MX6_count) (pc := 126) dX6_count_126 rfl
theorem sX6_count_127 : Snd MX6_count 127 (xLdA 128 0) := snd_aload_n (M := MX6_count) (pc := 127) dX6_count_127
theorem sX6_count_128 : Snd MX6_count 128 (xGf 131 6 16) := snd_gf (M := MX6_count) (pc := 128) (C0 := RX6) (T0 := TX6) (N := 32) dX6_count_128 rfl tbX6 (by decide) w623
theorem sX6_count_131 : Snd MX6_count 131 (xRet) := snd_iret (M := MX6_count) (pc := 131) dX6_count_131 rfl
theorem sX6_count_132 : Snd MX6_count 132 (xLdA 133 0) := snd_aload_n (M := MX6_count) (pc := 132) dX6_count_132
theorem sX6_count_133 : Snd MX6_count 133 (xGf 136 6 1) := snd_gf (M := MX6_count) (pc := 133) (C0 := RX6) (T0 := TX6) (N := 32) dX6_count_133 rfl tbX6 (by decide) w484
theorem sX6_count_136 : Snd MX6_count 136 (xRet) := snd_iret (M := MX6_count) (pc := 136) dX6_count_136 rfl
theorem sX6_count_137 : Snd MX6_count 137 (xLdA 138 0) := snd_aload_n (M := MX6_count) (pc := 137) dX6_count_137
theorem sX6_count_138 : Snd MX6_count 138 (xGf 141 6 2) := snd_gf (M := MX6_count) (pc := 138) (C0 := RX6) (T0 := TX6) (N := 32) dX6_count_138 rfl tbX6 (by decide) w485
theorem sX6_count_141 : Snd MX6_count 141 (xRet) := snd_iret (M := MX6_count) (pc := 141) dX6_count_141 rfl
theorem sX6_count_142 : Snd MX6_count 142 (xLdA 143 0) := snd_aload_n (M := MX6_count) (pc := 142) dX6_count_142
theorem sX6_count_143 : Snd MX6_count 143 (xGf 146 6 18) := snd_gf (M := MX6_count) (pc := 143) (C0 := RX6) (T0 := TX6) (N := 32) dX6_count_143 rfl tbX6 (by decide) w492
theorem sX6_count_146 : Snd MX6_count 146 (xRet) := snd_iret (M := MX6_count) (pc := 146) dX6_count_146 rfl
theorem sX6_count_147 : Snd MX6_count 147 (xK 148 ((-1))) := snd_iconst (M := MX6_count) (pc := 147) dX6_count_147 (by decide +kernel)
theorem sX6_count_148 : Snd MX6_count 148 (xRet) := snd_iret (M := MX6_count) (pc := 148) dX6_count_148 rfl
theorem VX6_count : Valid MX6_count LX6_count := va_lid sX6_count_0 (va_lid sX6_count_1 (va_lid sX6_count_64 (va_lid sX6_count_65 (va_lid sX6_count_68 (va_lid sX6_count_69 (va_lid sX6_count_70 (va_lid sX6_count_73 (va_lid sX6_count_74 (va_lid sX6_count_75 (va_lid sX6_count_78 (va_lid sX6_count_79 (va_lid sX6_count_80 (va_lid sX6_count_83 (va_lid sX6_count_84 (va_lid sX6_count_85 (va_lid sX6_count_88 (va_lid sX6_count_89 (va_lid sX6_count_90 (va_lid sX6_count_91 (va_lid sX6_count_94 (va_lid sX6_count_95 (va_lid sX6_count_96 (va_lid sX6_count_99 (va_lid sX6_count_102 (va_lid sX6_count_103 (va_lid sX6_count_104 (va_lid sX6_count_107 (va_lid sX6_count_108 (va_lid sX6_count_109 (va_lid sX6_count_112 (va_lid sX6_count_113 (va_lid sX6_count_114 (va_lid sX6_count_117 (va_lid sX6_count_118 (va_lid sX6_count_119 (va_lid sX6_count_120 (va_lid sX6_count_121 (va_lid sX6_count_124 (va_lid sX6_count_125 (va_lid sX6_count_126 (va_lid sX6_count_127 (va_lid sX6_count_128 (va_lid sX6_count_131 (va_lid sX6_count_132 (va_lid sX6_count_133 (va_lid sX6_count_136 (va_lid sX6_count_137 (va_lid sX6_count_138 (va_lid sX6_count_141 (va_lid sX6_count_142 (va_lid sX6_count_143 (va_lid sX6_count_146 (va_lid sX6_count_147 (va_lid sX6_count_148 (va_lid0)))))))))))))))))))))))))))))))))))))))))))))))))))))))
theorem kX6_count_0 : lk LX6_count 0 = some (xLdI 1 1) := rfl
theorem kX6_count_1 : lk LX6_count 1 = some (xTsw 147 0 [64, 69, 74, 79, 89, 103, 113, 120, 127, 132, 137, 142]) := rfl
theorem kX6_count_64 : lk LX6_count 64 = some (xLdA 65 0) := rfl
theorem kX6_count_65 : lk LX6_count 65 = some (xGf 68 6 5) := rfl
theorem kX6_count_68 : lk LX6_count 68 = some (xRet) := rfl
theorem kX6_count_69 : lk LX6_count 69 = some (xLdA 70 0) := rfl
theorem kX6_count_70 : lk LX6_count 70 = some (xGf 73 6 9) := rfl
theorem kX6_count_73 : lk LX6_count 73 = some (xRet) := rfl
theorem kX6_count_74 : lk LX6_count 74 = some (xLdA 75 0) := rfl
theorem kX6_count_75 : lk LX6_count 75 = some (xGf 78 6 3) := rfl
theorem kX6_count_78 : lk LX6_count 78 = some (xRet) := rfl
theorem kX6_count_79 : lk LX6_count 79 = some (xLdA 80 0) := rfl
theorem kX6_count_80 : lk LX6_count 80 = some (xGf 83 6 0) := rfl
theorem kX6_count_83 : lk LX6_count 83 = some (xK 84 (nI 2)) := rfl
theorem kX6_count_84 : lk LX6_count 84 = some (xiaload 85) := rfl
theorem kX6_count_85 : lk LX6_count 85 = some (xCallS MX6_ones 1 88) := rfl
theorem kX6_count_88 : lk LX6_count 88 = some (xRet) := rfl
theorem kX6_count_89 : lk LX6_count 89 = some (xLdA 90 0) := rfl
theorem kX6_count_90 : lk LX6_count 90 = some (xLdA 91 0) := rfl
theorem kX6_count_91 : lk LX6_count 91 = some (xGf 94 6 0) := rfl
theorem kX6_count_94 : lk LX6_count 94 = some (xK 95 (nI 2)) := rfl
theorem kX6_count_95 : lk LX6_count 95 = some (xiaload 96) := rfl
theorem kX6_count_96 : lk LX6_count 96 = some (xCallV MX6_livesBy 6 1 99) := rfl
theorem kX6_count_99 : lk LX6_count 99 = some (xCallS MX6_ones 1 102) := rfl
theorem kX6_count_102 : lk LX6_count 102 = some (xRet) := rfl
theorem kX6_count_103 : lk LX6_count 103 = some (xLdA 104 0) := rfl
theorem kX6_count_104 : lk LX6_count 104 = some (xGf 107 6 0) := rfl
theorem kX6_count_107 : lk LX6_count 107 = some (xK 108 (nI 3)) := rfl
theorem kX6_count_108 : lk LX6_count 108 = some (xiaload 109) := rfl
theorem kX6_count_109 : lk LX6_count 109 = some (xCallS MX6_ones 1 112) := rfl
theorem kX6_count_112 : lk LX6_count 112 = some (xRet) := rfl
theorem kX6_count_113 : lk LX6_count 113 = some (xLdA 114 0) := rfl
theorem kX6_count_114 : lk LX6_count 114 = some (xGf 117 6 0) := rfl
theorem kX6_count_117 : lk LX6_count 117 = some (xK 118 (nI 1)) := rfl
theorem kX6_count_118 : lk LX6_count 118 = some (xiaload 119) := rfl
theorem kX6_count_119 : lk LX6_count 119 = some (xRet) := rfl
theorem kX6_count_120 : lk LX6_count 120 = some (xLdA 121 0) := rfl
theorem kX6_count_121 : lk LX6_count 121 = some (xGf 124 6 0) := rfl
theorem kX6_count_124 : lk LX6_count 124 = some (xK 125 (nI 0)) := rfl
theorem kX6_count_125 : lk LX6_count 125 = some (xiaload 126) := rfl
theorem kX6_count_126 : lk LX6_count 126 = some (xRet) := rfl
theorem kX6_count_127 : lk LX6_count 127 = some (xLdA 128 0) := rfl
theorem kX6_count_128 : lk LX6_count 128 = some (xGf 131 6 16) := rfl
theorem kX6_count_131 : lk LX6_count 131 = some (xRet) := rfl
theorem kX6_count_132 : lk LX6_count 132 = some (xLdA 133 0) := rfl
theorem kX6_count_133 : lk LX6_count 133 = some (xGf 136 6 1) := rfl
theorem kX6_count_136 : lk LX6_count 136 = some (xRet) := rfl
theorem kX6_count_137 : lk LX6_count 137 = some (xLdA 138 0) := rfl
theorem kX6_count_138 : lk LX6_count 138 = some (xGf 141 6 2) := rfl
theorem kX6_count_141 : lk LX6_count 141 = some (xRet) := rfl
theorem kX6_count_142 : lk LX6_count 142 = some (xLdA 143 0) := rfl
theorem kX6_count_143 : lk LX6_count 143 = some (xGf 146 6 18) := rfl
theorem kX6_count_146 : lk LX6_count 146 = some (xRet) := rfl
theorem kX6_count_147 : lk LX6_count 147 = some (xK 148 ((-1))) := rfl
theorem kX6_count_148 : lk LX6_count 148 = some (xRet) := rfl
