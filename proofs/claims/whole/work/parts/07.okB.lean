theorem ok_145_0 : ∀ e ∈ (pg145.drop 0).take 60, okb 145 e = true := by decide +kernel
theorem ok_145 : ∀ e ∈ pg145, okb 145 e = true := fun e h => ok_145_0 e (by rw [List.drop_zero, List.take_of_length_le (by decide)]; exact h)
theorem ok_146_0 : ∀ e ∈ (pg146.drop 0).take 60, okb 146 e = true := by decide +kernel
theorem ok_146 : ∀ e ∈ pg146, okb 146 e = true := fun e h => ok_146_0 e (by rw [List.drop_zero, List.take_of_length_le (by decide)]; exact h)
theorem ok_147_0 : ∀ e ∈ (pg147.drop 0).take 60, okb 147 e = true := by decide +kernel
theorem ok_147 : ∀ e ∈ pg147, okb 147 e = true := fun e h => ok_147_0 e (by rw [List.drop_zero, List.take_of_length_le (by decide)]; exact h)
theorem ok_148_0 : ∀ e ∈ (pg148.drop 0).take 60, okb 148 e = true := by decide +kernel
theorem ok_148 : ∀ e ∈ pg148, okb 148 e = true := fun e h => ok_148_0 e (by rw [List.drop_zero, List.take_of_length_le (by decide)]; exact h)
theorem ok_149_0 : ∀ e ∈ (pg149.drop 0).take 60, okb 149 e = true := by decide +kernel
theorem ok_149 : ∀ e ∈ pg149, okb 149 e = true := fun e h => ok_149_0 e (by rw [List.drop_zero, List.take_of_length_le (by decide)]; exact h)
theorem ok_150_0 : ∀ e ∈ (pg150.drop 0).take 60, okb 150 e = true := by decide +kernel
theorem ok_150 : ∀ e ∈ pg150, okb 150 e = true := fun e h => ok_150_0 e (by rw [List.drop_zero, List.take_of_length_le (by decide)]; exact h)
theorem ok_151_0 : ∀ e ∈ (pg151.drop 0).take 60, okb 151 e = true := by decide +kernel
theorem ok_151_60 : ∀ e ∈ (pg151.drop 60).take 60, okb 151 e = true := by decide +kernel
theorem ok_151_120 : ∀ e ∈ (pg151.drop 120).take 60, okb 151 e = true := by decide +kernel
theorem ok_151_180 : ∀ e ∈ (pg151.drop 180).take 60, okb 151 e = true := by decide +kernel
theorem ok_151_240 : ∀ e ∈ (pg151.drop 240).take 60, okb 151 e = true := by decide +kernel
theorem ok_151_300 : ∀ e ∈ (pg151.drop 300).take 60, okb 151 e = true := by decide +kernel
theorem ok_151_360 : ∀ e ∈ (pg151.drop 360).take 60, okb 151 e = true := by decide +kernel
theorem ok_151_420 : ∀ e ∈ (pg151.drop 420).take 60, okb 151 e = true := by decide +kernel
theorem ok_151_480 : ∀ e ∈ (pg151.drop 480).take 60, okb 151 e = true := by decide +kernel
theorem ok_151_540 : ∀ e ∈ (pg151.drop 540).take 60, okb 151 e = true := by decide +kernel
theorem ok_151_600 : ∀ e ∈ (pg151.drop 600).take 60, okb 151 e = true := by decide +kernel
set_option maxRecDepth 100000 in
theorem ok_151 : ∀ e ∈ pg151, okb 151 e = true := by
  intro q hq
  obtain ⟨i, hi⟩ := List.getElem?_of_mem hq
  by_cases h0 : i < 60
  · exact ok_151_0 q (List.mem_of_getElem? (i := i - 0) (by rw [List.getElem?_take, if_pos (by omega), List.getElem?_drop, show 0 + (i - 0) = i by omega]; exact hi))
  by_cases h60 : i < 120
  · exact ok_151_60 q (List.mem_of_getElem? (i := i - 60) (by rw [List.getElem?_take, if_pos (by omega), List.getElem?_drop, show 60 + (i - 60) = i by omega]; exact hi))
  by_cases h120 : i < 180
  · exact ok_151_120 q (List.mem_of_getElem? (i := i - 120) (by rw [List.getElem?_take, if_pos (by omega), List.getElem?_drop, show 120 + (i - 120) = i by omega]; exact hi))
  by_cases h180 : i < 240
  · exact ok_151_180 q (List.mem_of_getElem? (i := i - 180) (by rw [List.getElem?_take, if_pos (by omega), List.getElem?_drop, show 180 + (i - 180) = i by omega]; exact hi))
  by_cases h240 : i < 300
  · exact ok_151_240 q (List.mem_of_getElem? (i := i - 240) (by rw [List.getElem?_take, if_pos (by omega), List.getElem?_drop, show 240 + (i - 240) = i by omega]; exact hi))
  by_cases h300 : i < 360
  · exact ok_151_300 q (List.mem_of_getElem? (i := i - 300) (by rw [List.getElem?_take, if_pos (by omega), List.getElem?_drop, show 300 + (i - 300) = i by omega]; exact hi))
  by_cases h360 : i < 420
  · exact ok_151_360 q (List.mem_of_getElem? (i := i - 360) (by rw [List.getElem?_take, if_pos (by omega), List.getElem?_drop, show 360 + (i - 360) = i by omega]; exact hi))
  by_cases h420 : i < 480
  · exact ok_151_420 q (List.mem_of_getElem? (i := i - 420) (by rw [List.getElem?_take, if_pos (by omega), List.getElem?_drop, show 420 + (i - 420) = i by omega]; exact hi))
  by_cases h480 : i < 540
  · exact ok_151_480 q (List.mem_of_getElem? (i := i - 480) (by rw [List.getElem?_take, if_pos (by omega), List.getElem?_drop, show 480 + (i - 480) = i by omega]; exact hi))
  by_cases h540 : i < 600
  · exact ok_151_540 q (List.mem_of_getElem? (i := i - 540) (by rw [List.getElem?_take, if_pos (by omega), List.getElem?_drop, show 540 + (i - 540) = i by omega]; exact hi))
  by_cases h600 : i < 660
  · exact ok_151_600 q (List.mem_of_getElem? (i := i - 600) (by rw [List.getElem?_take, if_pos (by omega), List.getElem?_drop, show 600 + (i - 600) = i by omega]; exact hi))
  exact absurd (List.getElem?_eq_some_iff.mp hi).1 (by rw [show pg151.length = 618 from rfl]; omega)
theorem ok_152_0 : ∀ e ∈ (pg152.drop 0).take 60, okb 152 e = true := by decide +kernel
theorem ok_152 : ∀ e ∈ pg152, okb 152 e = true := fun e h => ok_152_0 e (by rw [List.drop_zero, List.take_of_length_le (by decide)]; exact h)
theorem ok_153_0 : ∀ e ∈ (pg153.drop 0).take 60, okb 153 e = true := by decide +kernel
theorem ok_153 : ∀ e ∈ pg153, okb 153 e = true := fun e h => ok_153_0 e (by rw [List.drop_zero, List.take_of_length_le (by decide)]; exact h)
theorem ok_154_0 : ∀ e ∈ (pg154.drop 0).take 60, okb 154 e = true := by decide +kernel
theorem ok_154 : ∀ e ∈ pg154, okb 154 e = true := fun e h => ok_154_0 e (by rw [List.drop_zero, List.take_of_length_le (by decide)]; exact h)
theorem ok_155_0 : ∀ e ∈ (pg155.drop 0).take 60, okb 155 e = true := by decide +kernel
theorem ok_155 : ∀ e ∈ pg155, okb 155 e = true := fun e h => ok_155_0 e (by rw [List.drop_zero, List.take_of_length_le (by decide)]; exact h)
theorem ok_156_0 : ∀ e ∈ (pg156.drop 0).take 60, okb 156 e = true := by decide +kernel
theorem ok_156 : ∀ e ∈ pg156, okb 156 e = true := fun e h => ok_156_0 e (by rw [List.drop_zero, List.take_of_length_le (by decide)]; exact h)
theorem ok_157_0 : ∀ e ∈ (pg157.drop 0).take 60, okb 157 e = true := by decide +kernel
theorem ok_157 : ∀ e ∈ pg157, okb 157 e = true := fun e h => ok_157_0 e (by rw [List.drop_zero, List.take_of_length_le (by decide)]; exact h)
theorem ok_158_0 : ∀ e ∈ (pg158.drop 0).take 60, okb 158 e = true := by decide +kernel
theorem ok_158 : ∀ e ∈ pg158, okb 158 e = true := fun e h => ok_158_0 e (by rw [List.drop_zero, List.take_of_length_le (by decide)]; exact h)
theorem ok_159_0 : ∀ e ∈ (pg159.drop 0).take 60, okb 159 e = true := by decide +kernel
theorem ok_159 : ∀ e ∈ pg159, okb 159 e = true := fun e h => ok_159_0 e (by rw [List.drop_zero, List.take_of_length_le (by decide)]; exact h)
theorem ok_160_0 : ∀ e ∈ (pg160.drop 0).take 60, okb 160 e = true := by decide +kernel
theorem ok_160 : ∀ e ∈ pg160, okb 160 e = true := fun e h => ok_160_0 e (by rw [List.drop_zero, List.take_of_length_le (by decide)]; exact h)
theorem ok_161_0 : ∀ e ∈ (pg161.drop 0).take 60, okb 161 e = true := by decide +kernel
theorem ok_161 : ∀ e ∈ pg161, okb 161 e = true := fun e h => ok_161_0 e (by rw [List.drop_zero, List.take_of_length_le (by decide)]; exact h)
theorem ok_162_0 : ∀ e ∈ (pg162.drop 0).take 60, okb 162 e = true := by decide +kernel
theorem ok_162 : ∀ e ∈ pg162, okb 162 e = true := fun e h => ok_162_0 e (by rw [List.drop_zero, List.take_of_length_le (by decide)]; exact h)
theorem ok_163_0 : ∀ e ∈ (pg163.drop 0).take 60, okb 163 e = true := by decide +kernel
theorem ok_163 : ∀ e ∈ pg163, okb 163 e = true := fun e h => ok_163_0 e (by rw [List.drop_zero, List.take_of_length_le (by decide)]; exact h)
theorem ok_164_0 : ∀ e ∈ (pg164.drop 0).take 60, okb 164 e = true := by decide +kernel
theorem ok_164 : ∀ e ∈ pg164, okb 164 e = true := fun e h => ok_164_0 e (by rw [List.drop_zero, List.take_of_length_le (by decide)]; exact h)
theorem ok_165_0 : ∀ e ∈ (pg165.drop 0).take 60, okb 165 e = true := by decide +kernel
theorem ok_165_60 : ∀ e ∈ (pg165.drop 60).take 60, okb 165 e = true := by decide +kernel
set_option maxRecDepth 100000 in
theorem ok_165 : ∀ e ∈ pg165, okb 165 e = true := by
  intro q hq
  obtain ⟨i, hi⟩ := List.getElem?_of_mem hq
  by_cases h0 : i < 60
  · exact ok_165_0 q (List.mem_of_getElem? (i := i - 0) (by rw [List.getElem?_take, if_pos (by omega), List.getElem?_drop, show 0 + (i - 0) = i by omega]; exact hi))
  by_cases h60 : i < 120
  · exact ok_165_60 q (List.mem_of_getElem? (i := i - 60) (by rw [List.getElem?_take, if_pos (by omega), List.getElem?_drop, show 60 + (i - 60) = i by omega]; exact hi))
  exact absurd (List.getElem?_eq_some_iff.mp hi).1 (by rw [show pg165.length = 110 from rfl]; omega)
theorem ok_166_0 : ∀ e ∈ (pg166.drop 0).take 60, okb 166 e = true := by decide +kernel
theorem ok_166_60 : ∀ e ∈ (pg166.drop 60).take 60, okb 166 e = true := by decide +kernel
set_option maxRecDepth 100000 in
theorem ok_166 : ∀ e ∈ pg166, okb 166 e = true := by
  intro q hq
  obtain ⟨i, hi⟩ := List.getElem?_of_mem hq
  by_cases h0 : i < 60
  · exact ok_166_0 q (List.mem_of_getElem? (i := i - 0) (by rw [List.getElem?_take, if_pos (by omega), List.getElem?_drop, show 0 + (i - 0) = i by omega]; exact hi))
  by_cases h60 : i < 120
  · exact ok_166_60 q (List.mem_of_getElem? (i := i - 60) (by rw [List.getElem?_take, if_pos (by omega), List.getElem?_drop, show 60 + (i - 60) = i by omega]; exact hi))
  exact absurd (List.getElem?_eq_some_iff.mp hi).1 (by rw [show pg166.length = 67 from rfl]; omega)
theorem ok_167_0 : ∀ e ∈ (pg167.drop 0).take 60, okb 167 e = true := by decide +kernel
theorem ok_167 : ∀ e ∈ pg167, okb 167 e = true := fun e h => ok_167_0 e (by rw [List.drop_zero, List.take_of_length_le (by decide)]; exact h)
theorem ok_168_0 : ∀ e ∈ (pg168.drop 0).take 60, okb 168 e = true := by decide +kernel
theorem ok_168 : ∀ e ∈ pg168, okb 168 e = true := fun e h => ok_168_0 e (by rw [List.drop_zero, List.take_of_length_le (by decide)]; exact h)
theorem ok_169_0 : ∀ e ∈ (pg169.drop 0).take 60, okb 169 e = true := by decide +kernel
theorem ok_169 : ∀ e ∈ pg169, okb 169 e = true := fun e h => ok_169_0 e (by rw [List.drop_zero, List.take_of_length_le (by decide)]; exact h)
theorem ok_170_0 : ∀ e ∈ (pg170.drop 0).take 60, okb 170 e = true := by decide +kernel
theorem ok_170 : ∀ e ∈ pg170, okb 170 e = true := fun e h => ok_170_0 e (by rw [List.drop_zero, List.take_of_length_le (by decide)]; exact h)
theorem ok_171_0 : ∀ e ∈ (pg171.drop 0).take 60, okb 171 e = true := by decide +kernel
theorem ok_171 : ∀ e ∈ pg171, okb 171 e = true := fun e h => ok_171_0 e (by rw [List.drop_zero, List.take_of_length_le (by decide)]; exact h)
theorem ok_172_0 : ∀ e ∈ (pg172.drop 0).take 60, okb 172 e = true := by decide +kernel
theorem ok_172_60 : ∀ e ∈ (pg172.drop 60).take 60, okb 172 e = true := by decide +kernel
set_option maxRecDepth 100000 in
theorem ok_172 : ∀ e ∈ pg172, okb 172 e = true := by
  intro q hq
  obtain ⟨i, hi⟩ := List.getElem?_of_mem hq
  by_cases h0 : i < 60
  · exact ok_172_0 q (List.mem_of_getElem? (i := i - 0) (by rw [List.getElem?_take, if_pos (by omega), List.getElem?_drop, show 0 + (i - 0) = i by omega]; exact hi))
  by_cases h60 : i < 120
  · exact ok_172_60 q (List.mem_of_getElem? (i := i - 60) (by rw [List.getElem?_take, if_pos (by omega), List.getElem?_drop, show 60 + (i - 60) = i by omega]; exact hi))
  exact absurd (List.getElem?_eq_some_iff.mp hi).1 (by rw [show pg172.length = 107 from rfl]; omega)
theorem ok_173_0 : ∀ e ∈ (pg173.drop 0).take 60, okb 173 e = true := by decide +kernel
theorem ok_173 : ∀ e ∈ pg173, okb 173 e = true := fun e h => ok_173_0 e (by rw [List.drop_zero, List.take_of_length_le (by decide)]; exact h)
theorem ok_174_0 : ∀ e ∈ (pg174.drop 0).take 60, okb 174 e = true := by decide +kernel
theorem ok_174_60 : ∀ e ∈ (pg174.drop 60).take 60, okb 174 e = true := by decide +kernel
set_option maxRecDepth 100000 in
theorem ok_174 : ∀ e ∈ pg174, okb 174 e = true := by
  intro q hq
  obtain ⟨i, hi⟩ := List.getElem?_of_mem hq
  by_cases h0 : i < 60
  · exact ok_174_0 q (List.mem_of_getElem? (i := i - 0) (by rw [List.getElem?_take, if_pos (by omega), List.getElem?_drop, show 0 + (i - 0) = i by omega]; exact hi))
  by_cases h60 : i < 120
  · exact ok_174_60 q (List.mem_of_getElem? (i := i - 60) (by rw [List.getElem?_take, if_pos (by omega), List.getElem?_drop, show 60 + (i - 60) = i by omega]; exact hi))
  exact absurd (List.getElem?_eq_some_iff.mp hi).1 (by rw [show pg174.length = 71 from rfl]; omega)
theorem ok_175_0 : ∀ e ∈ (pg175.drop 0).take 60, okb 175 e = true := by decide +kernel
theorem ok_175 : ∀ e ∈ pg175, okb 175 e = true := fun e h => ok_175_0 e (by rw [List.drop_zero, List.take_of_length_le (by decide)]; exact h)
theorem ok_176_0 : ∀ e ∈ (pg176.drop 0).take 60, okb 176 e = true := by decide +kernel
theorem ok_176 : ∀ e ∈ pg176, okb 176 e = true := fun e h => ok_176_0 e (by rw [List.drop_zero, List.take_of_length_le (by decide)]; exact h)
theorem ok_177_0 : ∀ e ∈ (pg177.drop 0).take 60, okb 177 e = true := by decide +kernel
theorem ok_177 : ∀ e ∈ pg177, okb 177 e = true := fun e h => ok_177_0 e (by rw [List.drop_zero, List.take_of_length_le (by decide)]; exact h)
theorem ok_178_0 : ∀ e ∈ (pg178.drop 0).take 60, okb 178 e = true := by decide +kernel
theorem ok_178_60 : ∀ e ∈ (pg178.drop 60).take 60, okb 178 e = true := by decide +kernel
set_option maxRecDepth 100000 in
theorem ok_178 : ∀ e ∈ pg178, okb 178 e = true := by
  intro q hq
  obtain ⟨i, hi⟩ := List.getElem?_of_mem hq
  by_cases h0 : i < 60
  · exact ok_178_0 q (List.mem_of_getElem? (i := i - 0) (by rw [List.getElem?_take, if_pos (by omega), List.getElem?_drop, show 0 + (i - 0) = i by omega]; exact hi))
  by_cases h60 : i < 120
  · exact ok_178_60 q (List.mem_of_getElem? (i := i - 60) (by rw [List.getElem?_take, if_pos (by omega), List.getElem?_drop, show 60 + (i - 60) = i by omega]; exact hi))
  exact absurd (List.getElem?_eq_some_iff.mp hi).1 (by rw [show pg178.length = 70 from rfl]; omega)
theorem ok_179_0 : ∀ e ∈ (pg179.drop 0).take 60, okb 179 e = true := by decide +kernel
theorem ok_179_60 : ∀ e ∈ (pg179.drop 60).take 60, okb 179 e = true := by decide +kernel
theorem ok_179_120 : ∀ e ∈ (pg179.drop 120).take 60, okb 179 e = true := by decide +kernel
set_option maxRecDepth 100000 in
theorem ok_179 : ∀ e ∈ pg179, okb 179 e = true := by
  intro q hq
  obtain ⟨i, hi⟩ := List.getElem?_of_mem hq
  by_cases h0 : i < 60
  · exact ok_179_0 q (List.mem_of_getElem? (i := i - 0) (by rw [List.getElem?_take, if_pos (by omega), List.getElem?_drop, show 0 + (i - 0) = i by omega]; exact hi))
  by_cases h60 : i < 120
  · exact ok_179_60 q (List.mem_of_getElem? (i := i - 60) (by rw [List.getElem?_take, if_pos (by omega), List.getElem?_drop, show 60 + (i - 60) = i by omega]; exact hi))
  by_cases h120 : i < 180
  · exact ok_179_120 q (List.mem_of_getElem? (i := i - 120) (by rw [List.getElem?_take, if_pos (by omega), List.getElem?_drop, show 120 + (i - 120) = i by omega]; exact hi))
  exact absurd (List.getElem?_eq_some_iff.mp hi).1 (by rw [show pg179.length = 155 from rfl]; omega)
theorem ok_180_0 : ∀ e ∈ (pg180.drop 0).take 60, okb 180 e = true := by decide +kernel
theorem ok_180 : ∀ e ∈ pg180, okb 180 e = true := fun e h => ok_180_0 e (by rw [List.drop_zero, List.take_of_length_le (by decide)]; exact h)
theorem ok_181_0 : ∀ e ∈ (pg181.drop 0).take 60, okb 181 e = true := by decide +kernel
theorem ok_181 : ∀ e ∈ pg181, okb 181 e = true := fun e h => ok_181_0 e (by rw [List.drop_zero, List.take_of_length_le (by decide)]; exact h)
theorem ok_182_0 : ∀ e ∈ (pg182.drop 0).take 60, okb 182 e = true := by decide +kernel
theorem ok_182 : ∀ e ∈ pg182, okb 182 e = true := fun e h => ok_182_0 e (by rw [List.drop_zero, List.take_of_length_le (by decide)]; exact h)
theorem ok_183_0 : ∀ e ∈ (pg183.drop 0).take 60, okb 183 e = true := by decide +kernel
theorem ok_183 : ∀ e ∈ pg183, okb 183 e = true := fun e h => ok_183_0 e (by rw [List.drop_zero, List.take_of_length_le (by decide)]; exact h)
theorem ok_184_0 : ∀ e ∈ (pg184.drop 0).take 60, okb 184 e = true := by decide +kernel
theorem ok_184 : ∀ e ∈ pg184, okb 184 e = true := fun e h => ok_184_0 e (by rw [List.drop_zero, List.take_of_length_le (by decide)]; exact h)
theorem ok_185_0 : ∀ e ∈ (pg185.drop 0).take 60, okb 185 e = true := by decide +kernel
theorem ok_185 : ∀ e ∈ pg185, okb 185 e = true := fun e h => ok_185_0 e (by rw [List.drop_zero, List.take_of_length_le (by decide)]; exact h)
theorem ok_186_0 : ∀ e ∈ (pg186.drop 0).take 60, okb 186 e = true := by decide +kernel
theorem ok_186 : ∀ e ∈ pg186, okb 186 e = true := fun e h => ok_186_0 e (by rw [List.drop_zero, List.take_of_length_le (by decide)]; exact h)
theorem ok_187_0 : ∀ e ∈ (pg187.drop 0).take 60, okb 187 e = true := by decide +kernel
theorem ok_187 : ∀ e ∈ pg187, okb 187 e = true := fun e h => ok_187_0 e (by rw [List.drop_zero, List.take_of_length_le (by decide)]; exact h)
theorem ok_188_0 : ∀ e ∈ (pg188.drop 0).take 60, okb 188 e = true := by decide +kernel
theorem ok_188 : ∀ e ∈ pg188, okb 188 e = true := fun e h => ok_188_0 e (by rw [List.drop_zero, List.take_of_length_le (by decide)]; exact h)
theorem ok_189_0 : ∀ e ∈ (pg189.drop 0).take 60, okb 189 e = true := by decide +kernel
theorem ok_189 : ∀ e ∈ pg189, okb 189 e = true := fun e h => ok_189_0 e (by rw [List.drop_zero, List.take_of_length_le (by decide)]; exact h)
theorem ok_190_0 : ∀ e ∈ (pg190.drop 0).take 60, okb 190 e = true := by decide +kernel
theorem ok_190 : ∀ e ∈ pg190, okb 190 e = true := fun e h => ok_190_0 e (by rw [List.drop_zero, List.take_of_length_le (by decide)]; exact h)
theorem ok_191_0 : ∀ e ∈ (pg191.drop 0).take 60, okb 191 e = true := by decide +kernel
theorem ok_191 : ∀ e ∈ pg191, okb 191 e = true := fun e h => ok_191_0 e (by rw [List.drop_zero, List.take_of_length_le (by decide)]; exact h)
theorem ok_192_0 : ∀ e ∈ (pg192.drop 0).take 60, okb 192 e = true := by decide +kernel
theorem ok_192_60 : ∀ e ∈ (pg192.drop 60).take 60, okb 192 e = true := by decide +kernel
set_option maxRecDepth 100000 in
theorem ok_192 : ∀ e ∈ pg192, okb 192 e = true := by
  intro q hq
  obtain ⟨i, hi⟩ := List.getElem?_of_mem hq
  by_cases h0 : i < 60
  · exact ok_192_0 q (List.mem_of_getElem? (i := i - 0) (by rw [List.getElem?_take, if_pos (by omega), List.getElem?_drop, show 0 + (i - 0) = i by omega]; exact hi))
  by_cases h60 : i < 120
  · exact ok_192_60 q (List.mem_of_getElem? (i := i - 60) (by rw [List.getElem?_take, if_pos (by omega), List.getElem?_drop, show 60 + (i - 60) = i by omega]; exact hi))
  exact absurd (List.getElem?_eq_some_iff.mp hi).1 (by rw [show pg192.length = 69 from rfl]; omega)
theorem ok_193_0 : ∀ e ∈ (pg193.drop 0).take 60, okb 193 e = true := by decide +kernel
theorem ok_193 : ∀ e ∈ pg193, okb 193 e = true := fun e h => ok_193_0 e (by rw [List.drop_zero, List.take_of_length_le (by decide)]; exact h)
theorem ok_194_0 : ∀ e ∈ (pg194.drop 0).take 60, okb 194 e = true := by decide +kernel
theorem ok_194 : ∀ e ∈ pg194, okb 194 e = true := fun e h => ok_194_0 e (by rw [List.drop_zero, List.take_of_length_le (by decide)]; exact h)
theorem ok_195_0 : ∀ e ∈ (pg195.drop 0).take 60, okb 195 e = true := by decide +kernel
theorem ok_195_60 : ∀ e ∈ (pg195.drop 60).take 60, okb 195 e = true := by decide +kernel
set_option maxRecDepth 100000 in
theorem ok_195 : ∀ e ∈ pg195, okb 195 e = true := by
  intro q hq
  obtain ⟨i, hi⟩ := List.getElem?_of_mem hq
  by_cases h0 : i < 60
  · exact ok_195_0 q (List.mem_of_getElem? (i := i - 0) (by rw [List.getElem?_take, if_pos (by omega), List.getElem?_drop, show 0 + (i - 0) = i by omega]; exact hi))
  by_cases h60 : i < 120
  · exact ok_195_60 q (List.mem_of_getElem? (i := i - 60) (by rw [List.getElem?_take, if_pos (by omega), List.getElem?_drop, show 60 + (i - 60) = i by omega]; exact hi))
  exact absurd (List.getElem?_eq_some_iff.mp hi).1 (by rw [show pg195.length = 86 from rfl]; omega)
theorem ok_196_0 : ∀ e ∈ (pg196.drop 0).take 60, okb 196 e = true := by decide +kernel
theorem ok_196 : ∀ e ∈ pg196, okb 196 e = true := fun e h => ok_196_0 e (by rw [List.drop_zero, List.take_of_length_le (by decide)]; exact h)
theorem ok_197_0 : ∀ e ∈ (pg197.drop 0).take 60, okb 197 e = true := by decide +kernel
theorem ok_197 : ∀ e ∈ pg197, okb 197 e = true := fun e h => ok_197_0 e (by rw [List.drop_zero, List.take_of_length_le (by decide)]; exact h)
theorem ok_198_0 : ∀ e ∈ (pg198.drop 0).take 60, okb 198 e = true := by decide +kernel
theorem ok_198 : ∀ e ∈ pg198, okb 198 e = true := fun e h => ok_198_0 e (by rw [List.drop_zero, List.take_of_length_le (by decide)]; exact h)
theorem ok_199_0 : ∀ e ∈ (pg199.drop 0).take 60, okb 199 e = true := by decide +kernel
theorem ok_199 : ∀ e ∈ pg199, okb 199 e = true := fun e h => ok_199_0 e (by rw [List.drop_zero, List.take_of_length_le (by decide)]; exact h)
theorem ok_200_0 : ∀ e ∈ (pg200.drop 0).take 60, okb 200 e = true := by decide +kernel
theorem ok_200 : ∀ e ∈ pg200, okb 200 e = true := fun e h => ok_200_0 e (by rw [List.drop_zero, List.take_of_length_le (by decide)]; exact h)
theorem ok_201_0 : ∀ e ∈ (pg201.drop 0).take 60, okb 201 e = true := by decide +kernel
theorem ok_201 : ∀ e ∈ pg201, okb 201 e = true := fun e h => ok_201_0 e (by rw [List.drop_zero, List.take_of_length_le (by decide)]; exact h)
theorem ok_202_0 : ∀ e ∈ (pg202.drop 0).take 60, okb 202 e = true := by decide +kernel
theorem ok_202 : ∀ e ∈ pg202, okb 202 e = true := fun e h => ok_202_0 e (by rw [List.drop_zero, List.take_of_length_le (by decide)]; exact h)
theorem ok_203_0 : ∀ e ∈ (pg203.drop 0).take 60, okb 203 e = true := by decide +kernel
theorem ok_203 : ∀ e ∈ pg203, okb 203 e = true := fun e h => ok_203_0 e (by rw [List.drop_zero, List.take_of_length_le (by decide)]; exact h)
theorem ok_204_0 : ∀ e ∈ (pg204.drop 0).take 60, okb 204 e = true := by decide +kernel
theorem ok_204 : ∀ e ∈ pg204, okb 204 e = true := fun e h => ok_204_0 e (by rw [List.drop_zero, List.take_of_length_le (by decide)]; exact h)
theorem ok_205_0 : ∀ e ∈ (pg205.drop 0).take 60, okb 205 e = true := by decide +kernel
theorem ok_205 : ∀ e ∈ pg205, okb 205 e = true := fun e h => ok_205_0 e (by rw [List.drop_zero, List.take_of_length_le (by decide)]; exact h)
theorem ok_206_0 : ∀ e ∈ (pg206.drop 0).take 60, okb 206 e = true := by decide +kernel
theorem ok_206_60 : ∀ e ∈ (pg206.drop 60).take 60, okb 206 e = true := by decide +kernel
set_option maxRecDepth 100000 in
theorem ok_206 : ∀ e ∈ pg206, okb 206 e = true := by
  intro q hq
  obtain ⟨i, hi⟩ := List.getElem?_of_mem hq
  by_cases h0 : i < 60
  · exact ok_206_0 q (List.mem_of_getElem? (i := i - 0) (by rw [List.getElem?_take, if_pos (by omega), List.getElem?_drop, show 0 + (i - 0) = i by omega]; exact hi))
  by_cases h60 : i < 120
  · exact ok_206_60 q (List.mem_of_getElem? (i := i - 60) (by rw [List.getElem?_take, if_pos (by omega), List.getElem?_drop, show 60 + (i - 60) = i by omega]; exact hi))
  exact absurd (List.getElem?_eq_some_iff.mp hi).1 (by rw [show pg206.length = 86 from rfl]; omega)
theorem ok_207_0 : ∀ e ∈ (pg207.drop 0).take 60, okb 207 e = true := by decide +kernel
theorem ok_207_60 : ∀ e ∈ (pg207.drop 60).take 60, okb 207 e = true := by decide +kernel
set_option maxRecDepth 100000 in
theorem ok_207 : ∀ e ∈ pg207, okb 207 e = true := by
  intro q hq
  obtain ⟨i, hi⟩ := List.getElem?_of_mem hq
  by_cases h0 : i < 60
  · exact ok_207_0 q (List.mem_of_getElem? (i := i - 0) (by rw [List.getElem?_take, if_pos (by omega), List.getElem?_drop, show 0 + (i - 0) = i by omega]; exact hi))
  by_cases h60 : i < 120
  · exact ok_207_60 q (List.mem_of_getElem? (i := i - 60) (by rw [List.getElem?_take, if_pos (by omega), List.getElem?_drop, show 60 + (i - 60) = i by omega]; exact hi))
  exact absurd (List.getElem?_eq_some_iff.mp hi).1 (by rw [show pg207.length = 94 from rfl]; omega)
theorem ok_208_0 : ∀ e ∈ (pg208.drop 0).take 60, okb 208 e = true := by decide +kernel
theorem ok_208 : ∀ e ∈ pg208, okb 208 e = true := fun e h => ok_208_0 e (by rw [List.drop_zero, List.take_of_length_le (by decide)]; exact h)
theorem ok_209_0 : ∀ e ∈ (pg209.drop 0).take 60, okb 209 e = true := by decide +kernel
theorem ok_209 : ∀ e ∈ pg209, okb 209 e = true := fun e h => ok_209_0 e (by rw [List.drop_zero, List.take_of_length_le (by decide)]; exact h)
theorem ok_210_0 : ∀ e ∈ (pg210.drop 0).take 60, okb 210 e = true := by decide +kernel
theorem ok_210 : ∀ e ∈ pg210, okb 210 e = true := fun e h => ok_210_0 e (by rw [List.drop_zero, List.take_of_length_le (by decide)]; exact h)
theorem ok_211_0 : ∀ e ∈ (pg211.drop 0).take 60, okb 211 e = true := by decide +kernel
theorem ok_211 : ∀ e ∈ pg211, okb 211 e = true := fun e h => ok_211_0 e (by rw [List.drop_zero, List.take_of_length_le (by decide)]; exact h)
theorem ok_212_0 : ∀ e ∈ (pg212.drop 0).take 60, okb 212 e = true := by decide +kernel
theorem ok_212_60 : ∀ e ∈ (pg212.drop 60).take 60, okb 212 e = true := by decide +kernel
set_option maxRecDepth 100000 in
theorem ok_212 : ∀ e ∈ pg212, okb 212 e = true := by
  intro q hq
  obtain ⟨i, hi⟩ := List.getElem?_of_mem hq
  by_cases h0 : i < 60
  · exact ok_212_0 q (List.mem_of_getElem? (i := i - 0) (by rw [List.getElem?_take, if_pos (by omega), List.getElem?_drop, show 0 + (i - 0) = i by omega]; exact hi))
  by_cases h60 : i < 120
  · exact ok_212_60 q (List.mem_of_getElem? (i := i - 60) (by rw [List.getElem?_take, if_pos (by omega), List.getElem?_drop, show 60 + (i - 60) = i by omega]; exact hi))
  exact absurd (List.getElem?_eq_some_iff.mp hi).1 (by rw [show pg212.length = 67 from rfl]; omega)
theorem ok_213_0 : ∀ e ∈ (pg213.drop 0).take 60, okb 213 e = true := by decide +kernel
theorem ok_213_60 : ∀ e ∈ (pg213.drop 60).take 60, okb 213 e = true := by decide +kernel
theorem ok_213_120 : ∀ e ∈ (pg213.drop 120).take 60, okb 213 e = true := by decide +kernel
theorem ok_213_180 : ∀ e ∈ (pg213.drop 180).take 60, okb 213 e = true := by decide +kernel
set_option maxRecDepth 100000 in
theorem ok_213 : ∀ e ∈ pg213, okb 213 e = true := by
  intro q hq
  obtain ⟨i, hi⟩ := List.getElem?_of_mem hq
  by_cases h0 : i < 60
  · exact ok_213_0 q (List.mem_of_getElem? (i := i - 0) (by rw [List.getElem?_take, if_pos (by omega), List.getElem?_drop, show 0 + (i - 0) = i by omega]; exact hi))
  by_cases h60 : i < 120
  · exact ok_213_60 q (List.mem_of_getElem? (i := i - 60) (by rw [List.getElem?_take, if_pos (by omega), List.getElem?_drop, show 60 + (i - 60) = i by omega]; exact hi))
  by_cases h120 : i < 180
  · exact ok_213_120 q (List.mem_of_getElem? (i := i - 120) (by rw [List.getElem?_take, if_pos (by omega), List.getElem?_drop, show 120 + (i - 120) = i by omega]; exact hi))
  by_cases h180 : i < 240
  · exact ok_213_180 q (List.mem_of_getElem? (i := i - 180) (by rw [List.getElem?_take, if_pos (by omega), List.getElem?_drop, show 180 + (i - 180) = i by omega]; exact hi))
  exact absurd (List.getElem?_eq_some_iff.mp hi).1 (by rw [show pg213.length = 209 from rfl]; omega)
theorem ok_214_0 : ∀ e ∈ (pg214.drop 0).take 60, okb 214 e = true := by decide +kernel
theorem ok_214 : ∀ e ∈ pg214, okb 214 e = true := fun e h => ok_214_0 e (by rw [List.drop_zero, List.take_of_length_le (by decide)]; exact h)
theorem ok_215_0 : ∀ e ∈ (pg215.drop 0).take 60, okb 215 e = true := by decide +kernel
theorem ok_215 : ∀ e ∈ pg215, okb 215 e = true := fun e h => ok_215_0 e (by rw [List.drop_zero, List.take_of_length_le (by decide)]; exact h)
theorem ok_216_0 : ∀ e ∈ (pg216.drop 0).take 60, okb 216 e = true := by decide +kernel
theorem ok_216 : ∀ e ∈ pg216, okb 216 e = true := fun e h => ok_216_0 e (by rw [List.drop_zero, List.take_of_length_le (by decide)]; exact h)
theorem ok_217_0 : ∀ e ∈ (pg217.drop 0).take 60, okb 217 e = true := by decide +kernel
theorem ok_217 : ∀ e ∈ pg217, okb 217 e = true := fun e h => ok_217_0 e (by rw [List.drop_zero, List.take_of_length_le (by decide)]; exact h)
theorem ok_218_0 : ∀ e ∈ (pg218.drop 0).take 60, okb 218 e = true := by decide +kernel
theorem ok_218 : ∀ e ∈ pg218, okb 218 e = true := fun e h => ok_218_0 e (by rw [List.drop_zero, List.take_of_length_le (by decide)]; exact h)
theorem ok_219_0 : ∀ e ∈ (pg219.drop 0).take 60, okb 219 e = true := by decide +kernel
theorem ok_219 : ∀ e ∈ pg219, okb 219 e = true := fun e h => ok_219_0 e (by rw [List.drop_zero, List.take_of_length_le (by decide)]; exact h)
theorem ok_220_0 : ∀ e ∈ (pg220.drop 0).take 60, okb 220 e = true := by decide +kernel
theorem ok_220 : ∀ e ∈ pg220, okb 220 e = true := fun e h => ok_220_0 e (by rw [List.drop_zero, List.take_of_length_le (by decide)]; exact h)
theorem ok_221_0 : ∀ e ∈ (pg221.drop 0).take 60, okb 221 e = true := by decide +kernel
theorem ok_221 : ∀ e ∈ pg221, okb 221 e = true := fun e h => ok_221_0 e (by rw [List.drop_zero, List.take_of_length_le (by decide)]; exact h)
theorem ok_222_0 : ∀ e ∈ (pg222.drop 0).take 60, okb 222 e = true := by decide +kernel
theorem ok_222 : ∀ e ∈ pg222, okb 222 e = true := fun e h => ok_222_0 e (by rw [List.drop_zero, List.take_of_length_le (by decide)]; exact h)
theorem ok_223_0 : ∀ e ∈ (pg223.drop 0).take 60, okb 223 e = true := by decide +kernel
theorem ok_223 : ∀ e ∈ pg223, okb 223 e = true := fun e h => ok_223_0 e (by rw [List.drop_zero, List.take_of_length_le (by decide)]; exact h)
theorem ok_224_0 : ∀ e ∈ (pg224.drop 0).take 60, okb 224 e = true := by decide +kernel
theorem ok_224_60 : ∀ e ∈ (pg224.drop 60).take 60, okb 224 e = true := by decide +kernel
set_option maxRecDepth 100000 in
theorem ok_224 : ∀ e ∈ pg224, okb 224 e = true := by
  intro q hq
  obtain ⟨i, hi⟩ := List.getElem?_of_mem hq
  by_cases h0 : i < 60
  · exact ok_224_0 q (List.mem_of_getElem? (i := i - 0) (by rw [List.getElem?_take, if_pos (by omega), List.getElem?_drop, show 0 + (i - 0) = i by omega]; exact hi))
  by_cases h60 : i < 120
  · exact ok_224_60 q (List.mem_of_getElem? (i := i - 60) (by rw [List.getElem?_take, if_pos (by omega), List.getElem?_drop, show 60 + (i - 60) = i by omega]; exact hi))
  exact absurd (List.getElem?_eq_some_iff.mp hi).1 (by rw [show pg224.length = 68 from rfl]; omega)
theorem ok_225_0 : ∀ e ∈ (pg225.drop 0).take 60, okb 225 e = true := by decide +kernel
theorem ok_225 : ∀ e ∈ pg225, okb 225 e = true := fun e h => ok_225_0 e (by rw [List.drop_zero, List.take_of_length_le (by decide)]; exact h)
theorem ok_226_0 : ∀ e ∈ (pg226.drop 0).take 60, okb 226 e = true := by decide +kernel
theorem ok_226 : ∀ e ∈ pg226, okb 226 e = true := fun e h => ok_226_0 e (by rw [List.drop_zero, List.take_of_length_le (by decide)]; exact h)
theorem ok_227_0 : ∀ e ∈ (pg227.drop 0).take 60, okb 227 e = true := by decide +kernel
theorem ok_227 : ∀ e ∈ pg227, okb 227 e = true := fun e h => ok_227_0 e (by rw [List.drop_zero, List.take_of_length_le (by decide)]; exact h)
theorem ok_228_0 : ∀ e ∈ (pg228.drop 0).take 60, okb 228 e = true := by decide +kernel
theorem ok_228 : ∀ e ∈ pg228, okb 228 e = true := fun e h => ok_228_0 e (by rw [List.drop_zero, List.take_of_length_le (by decide)]; exact h)
theorem ok_229_0 : ∀ e ∈ (pg229.drop 0).take 60, okb 229 e = true := by decide +kernel
theorem ok_229_60 : ∀ e ∈ (pg229.drop 60).take 60, okb 229 e = true := by decide +kernel
set_option maxRecDepth 100000 in
theorem ok_229 : ∀ e ∈ pg229, okb 229 e = true := by
  intro q hq
  obtain ⟨i, hi⟩ := List.getElem?_of_mem hq
  by_cases h0 : i < 60
  · exact ok_229_0 q (List.mem_of_getElem? (i := i - 0) (by rw [List.getElem?_take, if_pos (by omega), List.getElem?_drop, show 0 + (i - 0) = i by omega]; exact hi))
  by_cases h60 : i < 120
  · exact ok_229_60 q (List.mem_of_getElem? (i := i - 60) (by rw [List.getElem?_take, if_pos (by omega), List.getElem?_drop, show 60 + (i - 60) = i by omega]; exact hi))
  exact absurd (List.getElem?_eq_some_iff.mp hi).1 (by rw [show pg229.length = 64 from rfl]; omega)
theorem ok_230_0 : ∀ e ∈ (pg230.drop 0).take 60, okb 230 e = true := by decide +kernel
theorem ok_230 : ∀ e ∈ pg230, okb 230 e = true := fun e h => ok_230_0 e (by rw [List.drop_zero, List.take_of_length_le (by decide)]; exact h)
theorem ok_231_0 : ∀ e ∈ (pg231.drop 0).take 60, okb 231 e = true := by decide +kernel
theorem ok_231 : ∀ e ∈ pg231, okb 231 e = true := fun e h => ok_231_0 e (by rw [List.drop_zero, List.take_of_length_le (by decide)]; exact h)
theorem ok_232_0 : ∀ e ∈ (pg232.drop 0).take 60, okb 232 e = true := by decide +kernel
theorem ok_232 : ∀ e ∈ pg232, okb 232 e = true := fun e h => ok_232_0 e (by rw [List.drop_zero, List.take_of_length_le (by decide)]; exact h)
theorem ok_233_0 : ∀ e ∈ (pg233.drop 0).take 60, okb 233 e = true := by decide +kernel
theorem ok_233 : ∀ e ∈ pg233, okb 233 e = true := fun e h => ok_233_0 e (by rw [List.drop_zero, List.take_of_length_le (by decide)]; exact h)
theorem ok_234_0 : ∀ e ∈ (pg234.drop 0).take 60, okb 234 e = true := by decide +kernel
theorem ok_234 : ∀ e ∈ pg234, okb 234 e = true := fun e h => ok_234_0 e (by rw [List.drop_zero, List.take_of_length_le (by decide)]; exact h)
theorem ok_235_0 : ∀ e ∈ (pg235.drop 0).take 60, okb 235 e = true := by decide +kernel
theorem ok_235 : ∀ e ∈ pg235, okb 235 e = true := fun e h => ok_235_0 e (by rw [List.drop_zero, List.take_of_length_le (by decide)]; exact h)
theorem ok_236_0 : ∀ e ∈ (pg236.drop 0).take 60, okb 236 e = true := by decide +kernel
theorem ok_236 : ∀ e ∈ pg236, okb 236 e = true := fun e h => ok_236_0 e (by rw [List.drop_zero, List.take_of_length_le (by decide)]; exact h)
theorem ok_237_0 : ∀ e ∈ (pg237.drop 0).take 60, okb 237 e = true := by decide +kernel
theorem ok_237 : ∀ e ∈ pg237, okb 237 e = true := fun e h => ok_237_0 e (by rw [List.drop_zero, List.take_of_length_le (by decide)]; exact h)
theorem ok_238_0 : ∀ e ∈ (pg238.drop 0).take 60, okb 238 e = true := by decide +kernel
theorem ok_238 : ∀ e ∈ pg238, okb 238 e = true := fun e h => ok_238_0 e (by rw [List.drop_zero, List.take_of_length_le (by decide)]; exact h)
theorem ok_239_0 : ∀ e ∈ (pg239.drop 0).take 60, okb 239 e = true := by decide +kernel
theorem ok_239 : ∀ e ∈ pg239, okb 239 e = true := fun e h => ok_239_0 e (by rw [List.drop_zero, List.take_of_length_le (by decide)]; exact h)
theorem ok_240_0 : ∀ e ∈ (pg240.drop 0).take 60, okb 240 e = true := by decide +kernel
theorem ok_240_60 : ∀ e ∈ (pg240.drop 60).take 60, okb 240 e = true := by decide +kernel
set_option maxRecDepth 100000 in
theorem ok_240 : ∀ e ∈ pg240, okb 240 e = true := by
  intro q hq
  obtain ⟨i, hi⟩ := List.getElem?_of_mem hq
  by_cases h0 : i < 60
  · exact ok_240_0 q (List.mem_of_getElem? (i := i - 0) (by rw [List.getElem?_take, if_pos (by omega), List.getElem?_drop, show 0 + (i - 0) = i by omega]; exact hi))
  by_cases h60 : i < 120
  · exact ok_240_60 q (List.mem_of_getElem? (i := i - 60) (by rw [List.getElem?_take, if_pos (by omega), List.getElem?_drop, show 60 + (i - 60) = i by omega]; exact hi))
  exact absurd (List.getElem?_eq_some_iff.mp hi).1 (by rw [show pg240.length = 102 from rfl]; omega)
theorem ok_241_0 : ∀ e ∈ (pg241.drop 0).take 60, okb 241 e = true := by decide +kernel
theorem ok_241 : ∀ e ∈ pg241, okb 241 e = true := fun e h => ok_241_0 e (by rw [List.drop_zero, List.take_of_length_le (by decide)]; exact h)
theorem ok_242_0 : ∀ e ∈ (pg242.drop 0).take 60, okb 242 e = true := by decide +kernel
theorem ok_242 : ∀ e ∈ pg242, okb 242 e = true := fun e h => ok_242_0 e (by rw [List.drop_zero, List.take_of_length_le (by decide)]; exact h)
theorem ok_243_0 : ∀ e ∈ (pg243.drop 0).take 60, okb 243 e = true := by decide +kernel
theorem ok_243 : ∀ e ∈ pg243, okb 243 e = true := fun e h => ok_243_0 e (by rw [List.drop_zero, List.take_of_length_le (by decide)]; exact h)
theorem ok_244_0 : ∀ e ∈ (pg244.drop 0).take 60, okb 244 e = true := by decide +kernel
theorem ok_244 : ∀ e ∈ pg244, okb 244 e = true := fun e h => ok_244_0 e (by rw [List.drop_zero, List.take_of_length_le (by decide)]; exact h)
theorem ok_245_0 : ∀ e ∈ (pg245.drop 0).take 60, okb 245 e = true := by decide +kernel
theorem ok_245 : ∀ e ∈ pg245, okb 245 e = true := fun e h => ok_245_0 e (by rw [List.drop_zero, List.take_of_length_le (by decide)]; exact h)
theorem ok_246_0 : ∀ e ∈ (pg246.drop 0).take 60, okb 246 e = true := by decide +kernel
theorem ok_246 : ∀ e ∈ pg246, okb 246 e = true := fun e h => ok_246_0 e (by rw [List.drop_zero, List.take_of_length_le (by decide)]; exact h)
theorem ok_247_0 : ∀ e ∈ (pg247.drop 0).take 60, okb 247 e = true := by decide +kernel
theorem ok_247 : ∀ e ∈ pg247, okb 247 e = true := fun e h => ok_247_0 e (by rw [List.drop_zero, List.take_of_length_le (by decide)]; exact h)
theorem ok_248_0 : ∀ e ∈ (pg248.drop 0).take 60, okb 248 e = true := by decide +kernel
theorem ok_248 : ∀ e ∈ pg248, okb 248 e = true := fun e h => ok_248_0 e (by rw [List.drop_zero, List.take_of_length_le (by decide)]; exact h)
theorem ok_249_0 : ∀ e ∈ (pg249.drop 0).take 60, okb 249 e = true := by decide +kernel
theorem ok_249_60 : ∀ e ∈ (pg249.drop 60).take 60, okb 249 e = true := by decide +kernel
set_option maxRecDepth 100000 in
theorem ok_249 : ∀ e ∈ pg249, okb 249 e = true := by
  intro q hq
  obtain ⟨i, hi⟩ := List.getElem?_of_mem hq
  by_cases h0 : i < 60
  · exact ok_249_0 q (List.mem_of_getElem? (i := i - 0) (by rw [List.getElem?_take, if_pos (by omega), List.getElem?_drop, show 0 + (i - 0) = i by omega]; exact hi))
  by_cases h60 : i < 120
  · exact ok_249_60 q (List.mem_of_getElem? (i := i - 60) (by rw [List.getElem?_take, if_pos (by omega), List.getElem?_drop, show 60 + (i - 60) = i by omega]; exact hi))
  exact absurd (List.getElem?_eq_some_iff.mp hi).1 (by rw [show pg249.length = 106 from rfl]; omega)
theorem ok_250_0 : ∀ e ∈ (pg250.drop 0).take 60, okb 250 e = true := by decide +kernel
theorem ok_250 : ∀ e ∈ pg250, okb 250 e = true := fun e h => ok_250_0 e (by rw [List.drop_zero, List.take_of_length_le (by decide)]; exact h)
theorem ok_251_0 : ∀ e ∈ (pg251.drop 0).take 60, okb 251 e = true := by decide +kernel
theorem ok_251 : ∀ e ∈ pg251, okb 251 e = true := fun e h => ok_251_0 e (by rw [List.drop_zero, List.take_of_length_le (by decide)]; exact h)
theorem ok_252_0 : ∀ e ∈ (pg252.drop 0).take 60, okb 252 e = true := by decide +kernel
theorem ok_252_60 : ∀ e ∈ (pg252.drop 60).take 60, okb 252 e = true := by decide +kernel
set_option maxRecDepth 100000 in
theorem ok_252 : ∀ e ∈ pg252, okb 252 e = true := by
  intro q hq
  obtain ⟨i, hi⟩ := List.getElem?_of_mem hq
  by_cases h0 : i < 60
  · exact ok_252_0 q (List.mem_of_getElem? (i := i - 0) (by rw [List.getElem?_take, if_pos (by omega), List.getElem?_drop, show 0 + (i - 0) = i by omega]; exact hi))
  by_cases h60 : i < 120
  · exact ok_252_60 q (List.mem_of_getElem? (i := i - 60) (by rw [List.getElem?_take, if_pos (by omega), List.getElem?_drop, show 60 + (i - 60) = i by omega]; exact hi))
  exact absurd (List.getElem?_eq_some_iff.mp hi).1 (by rw [show pg252.length = 83 from rfl]; omega)
theorem ok_253_0 : ∀ e ∈ (pg253.drop 0).take 60, okb 253 e = true := by decide +kernel
theorem ok_253 : ∀ e ∈ pg253, okb 253 e = true := fun e h => ok_253_0 e (by rw [List.drop_zero, List.take_of_length_le (by decide)]; exact h)
theorem ok_254_0 : ∀ e ∈ (pg254.drop 0).take 60, okb 254 e = true := by decide +kernel
theorem ok_254 : ∀ e ∈ pg254, okb 254 e = true := fun e h => ok_254_0 e (by rw [List.drop_zero, List.take_of_length_le (by decide)]; exact h)
theorem ok_255_0 : ∀ e ∈ (pg255.drop 0).take 60, okb 255 e = true := by decide +kernel
theorem ok_255_60 : ∀ e ∈ (pg255.drop 60).take 60, okb 255 e = true := by decide +kernel
set_option maxRecDepth 100000 in
theorem ok_255 : ∀ e ∈ pg255, okb 255 e = true := by
  intro q hq
  obtain ⟨i, hi⟩ := List.getElem?_of_mem hq
  by_cases h0 : i < 60
  · exact ok_255_0 q (List.mem_of_getElem? (i := i - 0) (by rw [List.getElem?_take, if_pos (by omega), List.getElem?_drop, show 0 + (i - 0) = i by omega]; exact hi))
  by_cases h60 : i < 120
  · exact ok_255_60 q (List.mem_of_getElem? (i := i - 60) (by rw [List.getElem?_take, if_pos (by omega), List.getElem?_drop, show 60 + (i - 60) = i by omega]; exact hi))
  exact absurd (List.getElem?_eq_some_iff.mp hi).1 (by rw [show pg255.length = 75 from rfl]; omega)
theorem ok_256_0 : ∀ e ∈ (pg256.drop 0).take 60, okb 256 e = true := by decide +kernel
theorem ok_256_60 : ∀ e ∈ (pg256.drop 60).take 60, okb 256 e = true := by decide +kernel
set_option maxRecDepth 100000 in
theorem ok_256 : ∀ e ∈ pg256, okb 256 e = true := by
  intro q hq
  obtain ⟨i, hi⟩ := List.getElem?_of_mem hq
  by_cases h0 : i < 60
  · exact ok_256_0 q (List.mem_of_getElem? (i := i - 0) (by rw [List.getElem?_take, if_pos (by omega), List.getElem?_drop, show 0 + (i - 0) = i by omega]; exact hi))
  by_cases h60 : i < 120
  · exact ok_256_60 q (List.mem_of_getElem? (i := i - 60) (by rw [List.getElem?_take, if_pos (by omega), List.getElem?_drop, show 60 + (i - 60) = i by omega]; exact hi))
  exact absurd (List.getElem?_eq_some_iff.mp hi).1 (by rw [show pg256.length = 62 from rfl]; omega)
theorem ok_257_0 : ∀ e ∈ (pg257.drop 0).take 60, okb 257 e = true := by decide +kernel
theorem ok_257 : ∀ e ∈ pg257, okb 257 e = true := fun e h => ok_257_0 e (by rw [List.drop_zero, List.take_of_length_le (by decide)]; exact h)
theorem ok_258_0 : ∀ e ∈ (pg258.drop 0).take 60, okb 258 e = true := by decide +kernel
theorem ok_258 : ∀ e ∈ pg258, okb 258 e = true := fun e h => ok_258_0 e (by rw [List.drop_zero, List.take_of_length_le (by decide)]; exact h)
theorem ok_259_0 : ∀ e ∈ (pg259.drop 0).take 60, okb 259 e = true := by decide +kernel
theorem ok_259 : ∀ e ∈ pg259, okb 259 e = true := fun e h => ok_259_0 e (by rw [List.drop_zero, List.take_of_length_le (by decide)]; exact h)
theorem ok_260_0 : ∀ e ∈ (pg260.drop 0).take 60, okb 260 e = true := by decide +kernel
theorem ok_260_60 : ∀ e ∈ (pg260.drop 60).take 60, okb 260 e = true := by decide +kernel
set_option maxRecDepth 100000 in
theorem ok_260 : ∀ e ∈ pg260, okb 260 e = true := by
  intro q hq
  obtain ⟨i, hi⟩ := List.getElem?_of_mem hq
  by_cases h0 : i < 60
  · exact ok_260_0 q (List.mem_of_getElem? (i := i - 0) (by rw [List.getElem?_take, if_pos (by omega), List.getElem?_drop, show 0 + (i - 0) = i by omega]; exact hi))
  by_cases h60 : i < 120
  · exact ok_260_60 q (List.mem_of_getElem? (i := i - 60) (by rw [List.getElem?_take, if_pos (by omega), List.getElem?_drop, show 60 + (i - 60) = i by omega]; exact hi))
  exact absurd (List.getElem?_eq_some_iff.mp hi).1 (by rw [show pg260.length = 98 from rfl]; omega)
theorem ok_261_0 : ∀ e ∈ (pg261.drop 0).take 60, okb 261 e = true := by decide +kernel
theorem ok_261_60 : ∀ e ∈ (pg261.drop 60).take 60, okb 261 e = true := by decide +kernel
theorem ok_261_120 : ∀ e ∈ (pg261.drop 120).take 60, okb 261 e = true := by decide +kernel
set_option maxRecDepth 100000 in
theorem ok_261 : ∀ e ∈ pg261, okb 261 e = true := by
  intro q hq
  obtain ⟨i, hi⟩ := List.getElem?_of_mem hq
  by_cases h0 : i < 60
  · exact ok_261_0 q (List.mem_of_getElem? (i := i - 0) (by rw [List.getElem?_take, if_pos (by omega), List.getElem?_drop, show 0 + (i - 0) = i by omega]; exact hi))
  by_cases h60 : i < 120
  · exact ok_261_60 q (List.mem_of_getElem? (i := i - 60) (by rw [List.getElem?_take, if_pos (by omega), List.getElem?_drop, show 60 + (i - 60) = i by omega]; exact hi))
  by_cases h120 : i < 180
  · exact ok_261_120 q (List.mem_of_getElem? (i := i - 120) (by rw [List.getElem?_take, if_pos (by omega), List.getElem?_drop, show 120 + (i - 120) = i by omega]; exact hi))
  exact absurd (List.getElem?_eq_some_iff.mp hi).1 (by rw [show pg261.length = 131 from rfl]; omega)
theorem ok_262_0 : ∀ e ∈ (pg262.drop 0).take 60, okb 262 e = true := by decide +kernel
theorem ok_262 : ∀ e ∈ pg262, okb 262 e = true := fun e h => ok_262_0 e (by rw [List.drop_zero, List.take_of_length_le (by decide)]; exact h)
theorem ok_263_0 : ∀ e ∈ (pg263.drop 0).take 60, okb 263 e = true := by decide +kernel
theorem ok_263 : ∀ e ∈ pg263, okb 263 e = true := fun e h => ok_263_0 e (by rw [List.drop_zero, List.take_of_length_le (by decide)]; exact h)
theorem ok_264_0 : ∀ e ∈ (pg264.drop 0).take 60, okb 264 e = true := by decide +kernel
theorem ok_264 : ∀ e ∈ pg264, okb 264 e = true := fun e h => ok_264_0 e (by rw [List.drop_zero, List.take_of_length_le (by decide)]; exact h)
theorem ok_265_0 : ∀ e ∈ (pg265.drop 0).take 60, okb 265 e = true := by decide +kernel
theorem ok_265 : ∀ e ∈ pg265, okb 265 e = true := fun e h => ok_265_0 e (by rw [List.drop_zero, List.take_of_length_le (by decide)]; exact h)
theorem ok_266_0 : ∀ e ∈ (pg266.drop 0).take 60, okb 266 e = true := by decide +kernel
theorem ok_266 : ∀ e ∈ pg266, okb 266 e = true := fun e h => ok_266_0 e (by rw [List.drop_zero, List.take_of_length_le (by decide)]; exact h)
theorem ok_267_0 : ∀ e ∈ (pg267.drop 0).take 60, okb 267 e = true := by decide +kernel
theorem ok_267 : ∀ e ∈ pg267, okb 267 e = true := fun e h => ok_267_0 e (by rw [List.drop_zero, List.take_of_length_le (by decide)]; exact h)
theorem ok_268_0 : ∀ e ∈ (pg268.drop 0).take 60, okb 268 e = true := by decide +kernel
theorem ok_268_60 : ∀ e ∈ (pg268.drop 60).take 60, okb 268 e = true := by decide +kernel
set_option maxRecDepth 100000 in
theorem ok_268 : ∀ e ∈ pg268, okb 268 e = true := by
  intro q hq
  obtain ⟨i, hi⟩ := List.getElem?_of_mem hq
  by_cases h0 : i < 60
  · exact ok_268_0 q (List.mem_of_getElem? (i := i - 0) (by rw [List.getElem?_take, if_pos (by omega), List.getElem?_drop, show 0 + (i - 0) = i by omega]; exact hi))
  by_cases h60 : i < 120
  · exact ok_268_60 q (List.mem_of_getElem? (i := i - 60) (by rw [List.getElem?_take, if_pos (by omega), List.getElem?_drop, show 60 + (i - 60) = i by omega]; exact hi))
  exact absurd (List.getElem?_eq_some_iff.mp hi).1 (by rw [show pg268.length = 94 from rfl]; omega)
theorem ok_269_0 : ∀ e ∈ (pg269.drop 0).take 60, okb 269 e = true := by decide +kernel
theorem ok_269 : ∀ e ∈ pg269, okb 269 e = true := fun e h => ok_269_0 e (by rw [List.drop_zero, List.take_of_length_le (by decide)]; exact h)
theorem ok_270_0 : ∀ e ∈ (pg270.drop 0).take 60, okb 270 e = true := by decide +kernel
theorem ok_270 : ∀ e ∈ pg270, okb 270 e = true := fun e h => ok_270_0 e (by rw [List.drop_zero, List.take_of_length_le (by decide)]; exact h)
theorem ok_271_0 : ∀ e ∈ (pg271.drop 0).take 60, okb 271 e = true := by decide +kernel
theorem ok_271_60 : ∀ e ∈ (pg271.drop 60).take 60, okb 271 e = true := by decide +kernel
set_option maxRecDepth 100000 in
theorem ok_271 : ∀ e ∈ pg271, okb 271 e = true := by
  intro q hq
  obtain ⟨i, hi⟩ := List.getElem?_of_mem hq
  by_cases h0 : i < 60
  · exact ok_271_0 q (List.mem_of_getElem? (i := i - 0) (by rw [List.getElem?_take, if_pos (by omega), List.getElem?_drop, show 0 + (i - 0) = i by omega]; exact hi))
  by_cases h60 : i < 120
  · exact ok_271_60 q (List.mem_of_getElem? (i := i - 60) (by rw [List.getElem?_take, if_pos (by omega), List.getElem?_drop, show 60 + (i - 60) = i by omega]; exact hi))
  exact absurd (List.getElem?_eq_some_iff.mp hi).1 (by rw [show pg271.length = 69 from rfl]; omega)
theorem ok_272_0 : ∀ e ∈ (pg272.drop 0).take 60, okb 272 e = true := by decide +kernel
theorem ok_272 : ∀ e ∈ pg272, okb 272 e = true := fun e h => ok_272_0 e (by rw [List.drop_zero, List.take_of_length_le (by decide)]; exact h)
theorem ok_273_0 : ∀ e ∈ (pg273.drop 0).take 60, okb 273 e = true := by decide +kernel
theorem ok_273 : ∀ e ∈ pg273, okb 273 e = true := fun e h => ok_273_0 e (by rw [List.drop_zero, List.take_of_length_le (by decide)]; exact h)
theorem ok_274_0 : ∀ e ∈ (pg274.drop 0).take 60, okb 274 e = true := by decide +kernel
theorem ok_274 : ∀ e ∈ pg274, okb 274 e = true := fun e h => ok_274_0 e (by rw [List.drop_zero, List.take_of_length_le (by decide)]; exact h)
theorem ok_275_0 : ∀ e ∈ (pg275.drop 0).take 60, okb 275 e = true := by decide +kernel
theorem ok_275 : ∀ e ∈ pg275, okb 275 e = true := fun e h => ok_275_0 e (by rw [List.drop_zero, List.take_of_length_le (by decide)]; exact h)
