/-! The tables are right: methods, by and by. -/
set_option maxRecDepth 100000 in
theorem hq_87 : hP1 87 hc_87 := hP1_of (n := 39) (fun pc h => by unfold hc_87; rw [h]; rfl) (by decide +kernel) (by decide +kernel)
set_option maxRecDepth 100000 in
theorem hq_88 : hP1 88 hc_88 := hP1_of (n := 46) (fun pc h => by unfold hc_88; rw [h]; rfl) (by decide +kernel) (by decide +kernel)
set_option maxRecDepth 100000 in
theorem hq_89 : hP1 89 hc_89 := hP1_of (n := 37) (fun pc h => by unfold hc_89; rw [h]; rfl) (by decide +kernel) (by decide +kernel)
set_option maxRecDepth 100000 in
theorem hq_90 : hP1 90 hc_90 := hP1_of (n := 47) (fun pc h => by unfold hc_90; rw [h]; rfl) (by decide +kernel) (by decide +kernel)
set_option maxRecDepth 100000 in
theorem hq_91 : hP1 91 hc_91 := hP1_of (n := 140) (fun pc h => by unfold hc_91; rw [h]; rfl) (by decide +kernel) (by decide +kernel)
set_option maxRecDepth 100000 in
theorem hq_92 : hP1 92 hc_92 := hP1_of (n := 81) (fun pc h => by unfold hc_92; rw [h]; rfl) (by decide +kernel) (by decide +kernel)
set_option maxRecDepth 100000 in
theorem hq_93 : hP1 93 hc_93 := hP1_of (n := 54) (fun pc h => by unfold hc_93; rw [h]; rfl) (by decide +kernel) (by decide +kernel)
set_option maxRecDepth 100000 in
theorem hq_94 : hP1 94 hc_94 := hP1_of (n := 48) (fun pc h => by unfold hc_94; rw [h]; rfl) (by decide +kernel) (by decide +kernel)
set_option maxRecDepth 100000 in
theorem hq_95 : hP1 95 hc_95 := hP1_of (n := 48) (fun pc h => by unfold hc_95; rw [h]; rfl) (by decide +kernel) (by decide +kernel)
set_option maxRecDepth 100000 in
theorem hq_96 : hP1 96 hc_96 := hP1_of (n := 606) (fun pc h => by unfold hc_96; rw [h]; rfl) (by decide +kernel) (by decide +kernel)
set_option maxRecDepth 100000 in
theorem hq_97 : hP1 97 hc_97 := hP1_of (n := 43) (fun pc h => by unfold hc_97; rw [h]; rfl) (by decide +kernel) (by decide +kernel)
set_option maxRecDepth 100000 in
theorem hq_98 : hP1 98 hc_98 := hP1_of (n := 40) (fun pc h => by unfold hc_98; rw [h]; rfl) (by decide +kernel) (by decide +kernel)
set_option maxRecDepth 100000 in
theorem hq_99 : hP1 99 hc_99 := hP1_of (n := 20) (fun pc h => by unfold hc_99; rw [h]; rfl) (by decide +kernel) (by decide +kernel)
set_option maxRecDepth 100000 in
theorem hq_100 : hP1 100 hc_100 := hP1_of (n := 141) (fun pc h => by unfold hc_100; rw [h]; rfl) (by decide +kernel) (by decide +kernel)
set_option maxRecDepth 100000 in
theorem hq_101 : hP1 101 hc_101 := hP1_of (n := 144) (fun pc h => by unfold hc_101; rw [h]; rfl) (by decide +kernel) (by decide +kernel)
set_option maxRecDepth 100000 in
theorem hq_102 : hP1 102 hc_102 := hP1_of (n := 120) (fun pc h => by unfold hc_102; rw [h]; rfl) (by decide +kernel) (by decide +kernel)
set_option maxRecDepth 100000 in
theorem hq_103 : hP1 103 hc_103 := hP1_of (n := 41) (fun pc h => by unfold hc_103; rw [h]; rfl) (by decide +kernel) (by decide +kernel)
set_option maxRecDepth 100000 in
theorem hq_104 : hP1 104 hc_104 := hP1_of (n := 32) (fun pc h => by unfold hc_104; rw [h]; rfl) (by decide +kernel) (by decide +kernel)
set_option maxRecDepth 100000 in
theorem hq_105 : hP1 105 hc_105 := hP1_of (n := 12) (fun pc h => by unfold hc_105; rw [h]; rfl) (by decide +kernel) (by decide +kernel)
set_option maxRecDepth 100000 in
theorem hq_106 : hP1 106 hc_106 := hP1_of (n := 32) (fun pc h => by unfold hc_106; rw [h]; rfl) (by decide +kernel) (by decide +kernel)
set_option maxRecDepth 100000 in
theorem hq_107 : hP1 107 hc_107 := hP1_of (n := 21) (fun pc h => by unfold hc_107; rw [h]; rfl) (by decide +kernel) (by decide +kernel)
set_option maxRecDepth 100000 in
theorem hq_108 : hP1 108 hc_108 := hP1_of (n := 50) (fun pc h => by unfold hc_108; rw [h]; rfl) (by decide +kernel) (by decide +kernel)
set_option maxRecDepth 100000 in
theorem hq_109 : hP1 109 hc_109 := hP1_of (n := 134) (fun pc h => by unfold hc_109; rw [h]; rfl) (by decide +kernel) (by decide +kernel)
set_option maxRecDepth 100000 in
theorem hq_110 : hP1 110 hc_110 := hP1_of (n := 46) (fun pc h => by unfold hc_110; rw [h]; rfl) (by decide +kernel) (by decide +kernel)
set_option maxRecDepth 100000 in
theorem hq_111 : hP1 111 hc_111 := hP1_of (n := 195) (fun pc h => by unfold hc_111; rw [h]; rfl) (by decide +kernel) (by decide +kernel)
set_option maxRecDepth 100000 in
theorem hq_112 : hP1 112 hc_112 := hP1_of (n := 115) (fun pc h => by unfold hc_112; rw [h]; rfl) (by decide +kernel) (by decide +kernel)
set_option maxRecDepth 100000 in
theorem hq_113 : hP1 113 hc_113 := hP1_of (n := 49) (fun pc h => by unfold hc_113; rw [h]; rfl) (by decide +kernel) (by decide +kernel)
set_option maxRecDepth 100000 in
theorem hq_114 : hP1 114 hc_114 := hP1_of (n := 384) (fun pc h => by unfold hc_114; rw [h]; rfl) (by decide +kernel) (by decide +kernel)
set_option maxRecDepth 100000 in
theorem hq_115 : hP1 115 hc_115 := hP1_of (n := 35) (fun pc h => by unfold hc_115; rw [h]; rfl) (by decide +kernel) (by decide +kernel)
set_option maxRecDepth 100000 in
theorem hq_116 : hP1 116 hc_116 := hP1_of (n := 85) (fun pc h => by unfold hc_116; rw [h]; rfl) (by decide +kernel) (by decide +kernel)
set_option maxRecDepth 100000 in
theorem hq_117 : hP1 117 hc_117 := hP1_of (n := 33) (fun pc h => by unfold hc_117; rw [h]; rfl) (by decide +kernel) (by decide +kernel)
set_option maxRecDepth 100000 in
theorem hq_118 : hP1 118 hc_118 := hP1_of (n := 271) (fun pc h => by unfold hc_118; rw [h]; rfl) (by decide +kernel) (by decide +kernel)
set_option maxRecDepth 100000 in
theorem hq_119 : hP1 119 hc_119 := hP1_of (n := 95) (fun pc h => by unfold hc_119; rw [h]; rfl) (by decide +kernel) (by decide +kernel)
set_option maxRecDepth 100000 in
theorem hq_120 : hP1 120 hc_120 := hP1_of (n := 158) (fun pc h => by unfold hc_120; rw [h]; rfl) (by decide +kernel) (by decide +kernel)
set_option maxRecDepth 100000 in
theorem hq_121 : hP1 121 hc_121 := hP1_of (n := 452) (fun pc h => by unfold hc_121; rw [h]; rfl) (by decide +kernel) (by decide +kernel)
set_option maxRecDepth 100000 in
theorem hq_122 : hP1 122 hc_122 := hP1_of (n := 20) (fun pc h => by unfold hc_122; rw [h]; rfl) (by decide +kernel) (by decide +kernel)
set_option maxRecDepth 100000 in
theorem hq_123 : hP1 123 hc_123 := hP1_of (n := 84) (fun pc h => by unfold hc_123; rw [h]; rfl) (by decide +kernel) (by decide +kernel)
set_option maxRecDepth 100000 in
theorem hq_124 : hP1 124 hc_124 := hP1_of (n := 71) (fun pc h => by unfold hc_124; rw [h]; rfl) (by decide +kernel) (by decide +kernel)
set_option maxRecDepth 100000 in
theorem hq_125 : hP1 125 hc_125 := hP1_of (n := 20) (fun pc h => by unfold hc_125; rw [h]; rfl) (by decide +kernel) (by decide +kernel)
set_option maxRecDepth 100000 in
theorem hq_126 : hP1 126 hc_126 := hP1_of (n := 68) (fun pc h => by unfold hc_126; rw [h]; rfl) (by decide +kernel) (by decide +kernel)
set_option maxRecDepth 100000 in
theorem hq_127 : hP1 127 hc_127 := hP1_of (n := 90) (fun pc h => by unfold hc_127; rw [h]; rfl) (by decide +kernel) (by decide +kernel)
set_option maxRecDepth 100000 in
theorem hq_128 : hP1 128 hc_128 := hP1_of (n := 42) (fun pc h => by unfold hc_128; rw [h]; rfl) (by decide +kernel) (by decide +kernel)
set_option maxRecDepth 100000 in
theorem hq_129 : hP1 129 hc_129 := hP1_of (n := 57) (fun pc h => by unfold hc_129; rw [h]; rfl) (by decide +kernel) (by decide +kernel)
set_option maxRecDepth 100000 in
theorem hq_130 : hP1 130 hc_130 := hP1_of (n := 29) (fun pc h => by unfold hc_130; rw [h]; rfl) (by decide +kernel) (by decide +kernel)
set_option maxRecDepth 100000 in
theorem hq_131 : hP1 131 hc_131 := hP1_of (n := 18) (fun pc h => by unfold hc_131; rw [h]; rfl) (by decide +kernel) (by decide +kernel)
set_option maxRecDepth 100000 in
theorem hq_132 : hP1 132 hc_132 := hP1_of (n := 27) (fun pc h => by unfold hc_132; rw [h]; rfl) (by decide +kernel) (by decide +kernel)
set_option maxRecDepth 100000 in
theorem hq_133 : hP1 133 hc_133 := hP1_of (n := 44) (fun pc h => by unfold hc_133; rw [h]; rfl) (by decide +kernel) (by decide +kernel)
set_option maxRecDepth 100000 in
theorem hq_134 : hP1 134 hc_134 := hP1_of (n := 158) (fun pc h => by unfold hc_134; rw [h]; rfl) (by decide +kernel) (by decide +kernel)
set_option maxRecDepth 100000 in
theorem hq_135 : hP1 135 hc_135 := hP1_of (n := 29) (fun pc h => by unfold hc_135; rw [h]; rfl) (by decide +kernel) (by decide +kernel)
set_option maxRecDepth 100000 in
theorem hq_136 : hP1 136 hc_136 := hP1_of (n := 24) (fun pc h => by unfold hc_136; rw [h]; rfl) (by decide +kernel) (by decide +kernel)
set_option maxRecDepth 100000 in
theorem hq_137 : hP1 137 hc_137 := hP1_of (n := 40) (fun pc h => by unfold hc_137; rw [h]; rfl) (by decide +kernel) (by decide +kernel)
set_option maxRecDepth 100000 in
theorem hq_138 : hP1 138 hc_138 := hP1_of (n := 165) (fun pc h => by unfold hc_138; rw [h]; rfl) (by decide +kernel) (by decide +kernel)
set_option maxRecDepth 100000 in
theorem hq_139 : hP1 139 hc_139 := hP1_of (n := 134) (fun pc h => by unfold hc_139; rw [h]; rfl) (by decide +kernel) (by decide +kernel)
set_option maxRecDepth 100000 in
theorem hq_140 : hP1 140 hc_140 := hP1_of (n := 99) (fun pc h => by unfold hc_140; rw [h]; rfl) (by decide +kernel) (by decide +kernel)
set_option maxRecDepth 100000 in
theorem hq_141 : hP1 141 hc_141 := hP1_of (n := 56) (fun pc h => by unfold hc_141; rw [h]; rfl) (by decide +kernel) (by decide +kernel)
set_option maxRecDepth 100000 in
theorem hq_142 : hP1 142 hc_142 := hP1_of (n := 388) (fun pc h => by unfold hc_142; rw [h]; rfl) (by decide +kernel) (by decide +kernel)
set_option maxRecDepth 100000 in
theorem hq_143 : hP1 143 hc_143 := hP1_of (n := 182) (fun pc h => by unfold hc_143; rw [h]; rfl) (by decide +kernel) (by decide +kernel)
set_option maxRecDepth 100000 in
theorem hq_144 : hP1 144 hc_144 := hP1_of (n := 43) (fun pc h => by unfold hc_144; rw [h]; rfl) (by decide +kernel) (by decide +kernel)
set_option maxRecDepth 100000 in
theorem hq_145 : hP1 145 hc_145 := hP1_of (n := 49) (fun pc h => by unfold hc_145; rw [h]; rfl) (by decide +kernel) (by decide +kernel)
set_option maxRecDepth 100000 in
theorem hq_146 : hP1 146 hc_146 := hP1_of (n := 57) (fun pc h => by unfold hc_146; rw [h]; rfl) (by decide +kernel) (by decide +kernel)
set_option maxRecDepth 100000 in
theorem hq_147 : hP1 147 hc_147 := hP1_of (n := 41) (fun pc h => by unfold hc_147; rw [h]; rfl) (by decide +kernel) (by decide +kernel)
set_option maxRecDepth 100000 in
theorem hq_148 : hP1 148 hc_148 := hP1_of (n := 77) (fun pc h => by unfold hc_148; rw [h]; rfl) (by decide +kernel) (by decide +kernel)
set_option maxRecDepth 100000 in
theorem hq_149 : hP1 149 hc_149 := hP1_of (n := 9) (fun pc h => by unfold hc_149; rw [h]; rfl) (by decide +kernel) (by decide +kernel)
set_option maxRecDepth 100000 in
theorem hq_150 : hP1 150 hc_150 := hP1_of (n := 93) (fun pc h => by unfold hc_150; rw [h]; rfl) (by decide +kernel) (by decide +kernel)
set_option maxRecDepth 100000 in
theorem hq_151 : hP1 151 hc_151 := hP1_of (n := 9) (fun pc h => by unfold hc_151; rw [h]; rfl) (by decide +kernel) (by decide +kernel)
set_option maxRecDepth 100000 in
theorem hq_152 : hP1 152 hc_152 := hP1_of (n := 27) (fun pc h => by unfold hc_152; rw [h]; rfl) (by decide +kernel) (by decide +kernel)
set_option maxRecDepth 100000 in
theorem hq_153 : hP1 153 hc_153 := hP1_of (n := 76) (fun pc h => by unfold hc_153; rw [h]; rfl) (by decide +kernel) (by decide +kernel)
set_option maxRecDepth 100000 in
theorem hq_154 : hP1 154 hc_154 := hP1_of (n := 43) (fun pc h => by unfold hc_154; rw [h]; rfl) (by decide +kernel) (by decide +kernel)
set_option maxRecDepth 100000 in
theorem hq_155 : hP1 155 hc_155 := hP1_of (n := 18) (fun pc h => by unfold hc_155; rw [h]; rfl) (by decide +kernel) (by decide +kernel)
set_option maxRecDepth 100000 in
theorem hq_156 : hP1 156 hc_156 := hP1_of (n := 60) (fun pc h => by unfold hc_156; rw [h]; rfl) (by decide +kernel) (by decide +kernel)
set_option maxRecDepth 100000 in
theorem hq_157 : hP1 157 hc_157 := hP1_of (n := 88) (fun pc h => by unfold hc_157; rw [h]; rfl) (by decide +kernel) (by decide +kernel)
set_option maxRecDepth 100000 in
theorem hq_158 : hP1 158 hc_158 := hP1_of (n := 158) (fun pc h => by unfold hc_158; rw [h]; rfl) (by decide +kernel) (by decide +kernel)
set_option maxRecDepth 100000 in
theorem hq_159 : hP1 159 hc_159 := hP1_of (n := 94) (fun pc h => by unfold hc_159; rw [h]; rfl) (by decide +kernel) (by decide +kernel)
set_option maxRecDepth 100000 in
theorem hq_160 : hP1 160 hc_160 := hP1_of (n := 9) (fun pc h => by unfold hc_160; rw [h]; rfl) (by decide +kernel) (by decide +kernel)
set_option maxRecDepth 100000 in
theorem hq_161 : hP1 161 hc_161 := hP1_of (n := 150) (fun pc h => by unfold hc_161; rw [h]; rfl) (by decide +kernel) (by decide +kernel)
set_option maxRecDepth 100000 in
theorem hq_162 : hP1 162 hc_162 := hP1_of (n := 84) (fun pc h => by unfold hc_162; rw [h]; rfl) (by decide +kernel) (by decide +kernel)
set_option maxRecDepth 100000 in
theorem hq_163 : hP1 163 hc_163 := hP1_of (n := 184) (fun pc h => by unfold hc_163; rw [h]; rfl) (by decide +kernel) (by decide +kernel)
