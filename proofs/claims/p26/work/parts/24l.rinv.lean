theorem dX10_go_107 : decode cX10_go 107 = .ok (.iload_n 3, 1) := by decide +kernel
theorem dX10_go_108 : decode cX10_go 108 = .ok (.aload_n 0, 1) := by decide +kernel
theorem dX10_go_109 : decode cX10_go 109 = .ok (.getfield 109, 3) := by decide +kernel
theorem dX10_go_112 : decode cX10_go 112 = .ok (.if_icmp .ge 48, 3) := by decide +kernel
theorem dX10_go_115 : decode cX10_go 115 = .ok (.aload_n 0, 1) := by decide +kernel
theorem dX10_go_116 : decode cX10_go 116 = .ok (.getfield 22, 3) := by decide +kernel
theorem dX10_go_119 : decode cX10_go 119 = .ok (.iload_n 3, 1) := by decide +kernel
theorem dX10_go_120 : decode cX10_go 120 = .ok (.aload_n 0, 1) := by decide +kernel
theorem dX10_go_121 : decode cX10_go 121 = .ok (.getfield 37, 3) := by decide +kernel
theorem dX10_go_124 : decode cX10_go 124 = .ok (.iload_n 3, 1) := by decide +kernel
theorem dX10_go_125 : decode cX10_go 125 = .ok (.iaload, 1) := by decide +kernel
theorem dX10_go_126 : decode cX10_go 126 = .ok (.iastore, 1) := by decide +kernel
theorem dX10_go_127 : decode cX10_go 127 = .ok (.aload_n 0, 1) := by decide +kernel
theorem dX10_go_128 : decode cX10_go 128 = .ok (.getfield 9, 3) := by decide +kernel
theorem dX10_go_131 : decode cX10_go 131 = .ok (.bipush 10, 2) := by decide +kernel
theorem dX10_go_133 : decode cX10_go 133 = .ok (.iload_n 3, 1) := by decide +kernel
theorem dX10_go_134 : decode cX10_go 134 = .ok (.iadd, 1) := by decide +kernel
theorem dX10_go_135 : decode cX10_go 135 = .ok (.aload_n 0, 1) := by decide +kernel
theorem dX10_go_136 : decode cX10_go 136 = .ok (.getfield 40, 3) := by decide +kernel
theorem dX10_go_139 : decode cX10_go 139 = .ok (.iload_n 3, 1) := by decide +kernel
theorem dX10_go_140 : decode cX10_go 140 = .ok (.iaload, 1) := by decide +kernel
theorem dX10_go_141 : decode cX10_go 141 = .ok (.iastore, 1) := by decide +kernel
theorem dX10_go_142 : decode cX10_go 142 = .ok (.aload_n 0, 1) := by decide +kernel
theorem dX10_go_143 : decode cX10_go 143 = .ok (.getfield 25, 3) := by decide +kernel
theorem dX10_go_146 : decode cX10_go 146 = .ok (.iload_n 3, 1) := by decide +kernel
theorem dX10_go_147 : decode cX10_go 147 = .ok (.aload_n 0, 1) := by decide +kernel
theorem dX10_go_148 : decode cX10_go 148 = .ok (.getfield 43, 3) := by decide +kernel
theorem dX10_go_151 : decode cX10_go 151 = .ok (.iload_n 3, 1) := by decide +kernel
theorem dX10_go_152 : decode cX10_go 152 = .ok (.iaload, 1) := by decide +kernel
theorem dX10_go_153 : decode cX10_go 153 = .ok (.iastore, 1) := by decide +kernel
theorem dX10_go_154 : decode cX10_go 154 = .ok (.iinc 3 1, 3) := by decide +kernel
theorem dX10_go_157 : decode cX10_go 157 = .ok (.goto (-50), 3) := by decide +kernel