/-! the law, call by call -/
/-- behind a call: both sides are together, and the script goes on -/
def NX (x : gX) (G : gG) (b0 b : Nat) (k : Int) : Prop := ∀ C S : gM, JJ C S (k + 1) → YM x G b0 586 9472 C S 851 [(3, .int (iI (4 * k))), (2, .ref (ad b0 578)), (1, .ref (ad b0 0)), (0, .ref b)] []
section
variable {x : gX} {G : gG} {b0 b L : Nat} {xs : Nat → Int32} {nm : String} {C S : gM} {k : Int}
set_option maxHeartbeats 4000000 in
theorem lc_addPerson (hB : Bx x G b0 RL cL_law 8 ret room_1 nm) (hX : va_X b L xs (gs x) (gs x).heap) (hbl : b < (gs x).heap.size) (hb0 : b < b0) (hZ : Zs b0 (gs x)) (hL : L ≤ 2048) (hi : 0 ≤ k ∧ 4 * k + 3 < (L : Int)) (hJ : JJ C S k) (hNX : NX x G b0 b k) : YM x G b0 586 9472 C S 148 [(3, .int (iI (4 * k))), (2, .ref (ad b0 578)), (1, .ref (ad b0 0)), (0, .ref b)] [] := by
  have hN : k ≤ 512 := by omega
  have hD := hJ.1.dk
  have hM := hJ.1.mo
  have hhf := hJ.2.1.1
  have hhs := hJ.2.1.2.1
  have hr := hJ.2.2.2.2
  have h4 : 0 ≤ S 578 9 ∧ S 578 9 ≤ 4 := by rw [hJ.2.1.2.2]; exact hhs
  obtain ⟨u, eu⟩ : ∃ u : Int, (xs (4 * k + 1).toNat).toInt = u := ⟨_, rfl⟩
  have hu : -2147483648 ≤ u ∧ u ≤ 2147483647 := by rw [← eu]; exact iI_ofb _
  obtain ⟨t, et⟩ : ∃ t : Int, (xs (4 * k + 2).toNat).toInt = t := ⟨_, rfl⟩
  have ht : -2147483648 ≤ t ∧ t ≤ 2147483647 := by rw [← et]; exact iI_ofb _
  obtain ⟨z, ez⟩ : ∃ z : Int, (xs (4 * k + 3).toNat).toInt = z := ⟨_, rfl⟩
  have hz : -2147483648 ≤ z ∧ z ≤ 2147483647 := by rw [← ez]; exact iI_ofb _
  refine y_aload_n hB 2 dL_law_148 rfl rfl ?_
  refine y_aload_n hB 3 dL_law_149 rfl rfl ?_
  refine y_iload_n hB 0 dL_law_150 rfl rfl ?_
  refine y_iconst (v := 1) hB dL_law_151 rfl ?_
  refine y_iadd (t := 4 * k + 1) hB dL_law_152 (by omega) ?_
  refine y_scr hB hX hbl hb0 (by omega) hL eu dL_law_153 ?_
  refine y_aload_n hB 3 dL_law_154 rfl rfl ?_
  refine y_iload_n hB 0 dL_law_155 rfl rfl ?_
  refine y_iconst (v := 2) hB dL_law_156 rfl ?_
  refine y_iadd (t := 4 * k + 2) hB dL_law_157 (by omega) ?_
  refine y_scr hB hX hbl hb0 (by omega) hL et dL_law_158 ?_
  refine m_V hB msX6_addPerson q226 (tX6_addPerson _ G b0 C S u t k hu ht hD hN hhf hhs) (t := 0) (by decide) (by decide) rfl rfl rfl rfl rfl ⟨Nat.le_of_ble_eq_true rfl, Nat.le_of_ble_eq_true rfl⟩ (Nat.le_of_ble_eq_true rfl) ⟨rfl, rfl⟩ ⟨Nat.le_of_ble_eq_true rfl, Nat.le_of_ble_eq_true rfl⟩ dL_law_159 (k_WI (fun v1 C1 h1 => ?_))
  refine y_aload_n hB 1 dL_law_162 rfl rfl ?_
  refine y_aload_n hB 3 dL_law_163 rfl rfl ?_
  refine y_iload_n hB 0 dL_law_164 rfl rfl ?_
  refine y_iconst (v := 1) hB dL_law_165 rfl ?_
  refine y_iadd (t := 4 * k + 1) hB dL_law_166 (by omega) ?_
  refine y_scr hB hX hbl hb0 (by omega) hL eu dL_law_167 ?_
  refine y_aload_n hB 3 dL_law_168 rfl rfl ?_
  refine y_iload_n hB 0 dL_law_169 rfl rfl ?_
  refine y_iconst (v := 2) hB dL_law_170 rfl ?_
  refine y_iadd (t := 4 * k + 2) hB dL_law_171 (by omega) ?_
  refine y_scr hB hX hbl hb0 (by omega) hL et dL_law_172 ?_
  refine m_V hB msX7_addPerson q788 (tX7_addPerson _ G b0 C1 S u t k hu ht hM hN h4) (t := 20) (by decide) (by decide) rfl rfl rfl rfl rfl ⟨Nat.le_of_ble_eq_true rfl, Nat.le_of_ble_eq_true rfl⟩ (Nat.le_of_ble_eq_true rfl) ⟨rfl, rfl⟩ ⟨Nat.le_of_ble_eq_true rfl, Nat.le_of_ble_eq_true rfl⟩ dL_law_173 (k_SI (fun v2 S1 h2 => ?_))
  obtain ⟨rfl, hJ9⟩ := sm_addPerson hJ h1 h2
  refine y_eqj hB 851 dL_law_176 (by decide) ?_
  exact hNX C1 S1 hJ9
set_option maxHeartbeats 4000000 in
theorem lc_addPersons (hB : Bx x G b0 RL cL_law 8 ret room_1 nm) (hX : va_X b L xs (gs x) (gs x).heap) (hbl : b < (gs x).heap.size) (hb0 : b < b0) (hZ : Zs b0 (gs x)) (hL : L ≤ 2048) (hi : 0 ≤ k ∧ 4 * k + 3 < (L : Int)) (hJ : JJ C S k) (hNX : NX x G b0 b k) : YM x G b0 586 9472 C S 181 [(3, .int (iI (4 * k))), (2, .ref (ad b0 578)), (1, .ref (ad b0 0)), (0, .ref b)] [] := by
  have hN : k ≤ 512 := by omega
  have hD := hJ.1.dk
  have hM := hJ.1.mo
  have hhf := hJ.2.1.1
  have hhs := hJ.2.1.2.1
  have hr := hJ.2.2.2.2
  have h4 : 0 ≤ S 578 9 ∧ S 578 9 ≤ 4 := by rw [hJ.2.1.2.2]; exact hhs
  obtain ⟨u, eu⟩ : ∃ u : Int, (xs (4 * k + 1).toNat).toInt = u := ⟨_, rfl⟩
  have hu : -2147483648 ≤ u ∧ u ≤ 2147483647 := by rw [← eu]; exact iI_ofb _
  obtain ⟨t, et⟩ : ∃ t : Int, (xs (4 * k + 2).toNat).toInt = t := ⟨_, rfl⟩
  have ht : -2147483648 ≤ t ∧ t ≤ 2147483647 := by rw [← et]; exact iI_ofb _
  obtain ⟨z, ez⟩ : ∃ z : Int, (xs (4 * k + 3).toNat).toInt = z := ⟨_, rfl⟩
  have hz : -2147483648 ≤ z ∧ z ≤ 2147483647 := by rw [← ez]; exact iI_ofb _
  refine y_aload_n hB 2 dL_law_181 rfl rfl ?_
  refine m_V hB msX6_addPersons q274 (tX6_addPersons _ G b0 C S (C 508) (C 507 1) (C 507 4) k hD hN hhf hhs ⟨rfl, rfl, rfl⟩ hr.1 hr.2.2.2.1) (t := 0) (by decide) (by decide) rfl rfl rfl rfl rfl ⟨Nat.le_of_ble_eq_true rfl, Nat.le_of_ble_eq_true rfl⟩ (Nat.le_of_ble_eq_true rfl) ⟨rfl, rfl⟩ ⟨Nat.le_of_ble_eq_true rfl, Nat.le_of_ble_eq_true rfl⟩ dL_law_182 (k_WI (fun v1 C1 h1 => ?_))
  refine y_aload_n hB 1 dL_law_185 rfl rfl ?_
  refine m_V hB msX7_addPersons q806 (tX7_addPersons _ G b0 C1 S (C 508) (C 507 1) (S 578 12) k hM hN h4 ⟨hr.2.1, hr.2.2.1, rfl⟩ hr.1 hr.2.2.2.2) (t := 20) (by decide) (by decide) rfl rfl rfl rfl rfl ⟨Nat.le_of_ble_eq_true rfl, Nat.le_of_ble_eq_true rfl⟩ (Nat.le_of_ble_eq_true rfl) ⟨rfl, rfl⟩ ⟨Nat.le_of_ble_eq_true rfl, Nat.le_of_ble_eq_true rfl⟩ dL_law_186 (k_SI (fun v2 S1 h2 => ?_))
  obtain ⟨rfl, hJ9⟩ := sm_addPersons hJ rfl rfl h1 h2
  refine y_eqj hB 851 dL_law_189 (by decide) ?_
  exact hNX C1 S1 hJ9
set_option maxHeartbeats 4000000 in
theorem lc_write (hB : Bx x G b0 RL cL_law 8 ret room_1 nm) (hX : va_X b L xs (gs x) (gs x).heap) (hbl : b < (gs x).heap.size) (hb0 : b < b0) (hZ : Zs b0 (gs x)) (hL : L ≤ 2048) (hi : 0 ≤ k ∧ 4 * k + 3 < (L : Int)) (hJ : JJ C S k) (hNX : NX x G b0 b k) : YM x G b0 586 9472 C S 194 [(3, .int (iI (4 * k))), (2, .ref (ad b0 578)), (1, .ref (ad b0 0)), (0, .ref b)] [] := by
  have hN : k ≤ 512 := by omega
  have hD := hJ.1.dk
  have hM := hJ.1.mo
  have hhf := hJ.2.1.1
  have hhs := hJ.2.1.2.1
  have hr := hJ.2.2.2.2
  have h4 : 0 ≤ S 578 9 ∧ S 578 9 ≤ 4 := by rw [hJ.2.1.2.2]; exact hhs
  obtain ⟨u, eu⟩ : ∃ u : Int, (xs (4 * k + 1).toNat).toInt = u := ⟨_, rfl⟩
  have hu : -2147483648 ≤ u ∧ u ≤ 2147483647 := by rw [← eu]; exact iI_ofb _
  obtain ⟨t, et⟩ : ∃ t : Int, (xs (4 * k + 2).toNat).toInt = t := ⟨_, rfl⟩
  have ht : -2147483648 ≤ t ∧ t ≤ 2147483647 := by rw [← et]; exact iI_ofb _
  obtain ⟨z, ez⟩ : ∃ z : Int, (xs (4 * k + 3).toNat).toInt = z := ⟨_, rfl⟩
  have hz : -2147483648 ≤ z ∧ z ≤ 2147483647 := by rw [← ez]; exact iI_ofb _
  refine y_aload_n hB 2 dL_law_194 rfl rfl ?_
  refine y_aload_n hB 3 dL_law_195 rfl rfl ?_
  refine y_iload_n hB 0 dL_law_196 rfl rfl ?_
  refine y_iconst (v := 1) hB dL_law_197 rfl ?_
  refine y_iadd (t := 4 * k + 1) hB dL_law_198 (by omega) ?_
  refine y_scr hB hX hbl hb0 (by omega) hL eu dL_law_199 ?_
  refine y_aload_n hB 3 dL_law_200 rfl rfl ?_
  refine y_iload_n hB 0 dL_law_201 rfl rfl ?_
  refine y_iconst (v := 2) hB dL_law_202 rfl ?_
  refine y_iadd (t := 4 * k + 2) hB dL_law_203 (by omega) ?_
  refine y_scr hB hX hbl hb0 (by omega) hL et dL_law_204 ?_
  refine y_aload_n hB 3 dL_law_205 rfl rfl ?_
  refine y_iload_n hB 0 dL_law_206 rfl rfl ?_
  refine y_iconst (v := 3) hB dL_law_207 rfl ?_
  refine y_iadd (t := 4 * k + 3) hB dL_law_208 (by omega) ?_
  refine y_scr hB hX hbl hb0 (by omega) hL ez dL_law_209 ?_
  refine m_V hB msX6_write q341 (tX6_write _ G b0 C S u t z k hu ht hz hD hN hhf hhs) (t := 0) (by decide) (by decide) rfl rfl rfl rfl rfl ⟨Nat.le_of_ble_eq_true rfl, Nat.le_of_ble_eq_true rfl⟩ (Nat.le_of_ble_eq_true rfl) ⟨rfl, rfl⟩ ⟨Nat.le_of_ble_eq_true rfl, Nat.le_of_ble_eq_true rfl⟩ dL_law_210 (k_WI (fun v1 C1 h1 => ?_))
  refine y_aload_n hB 1 dL_law_213 rfl rfl ?_
  refine y_aload_n hB 3 dL_law_214 rfl rfl ?_
  refine y_iload_n hB 0 dL_law_215 rfl rfl ?_
  refine y_iconst (v := 1) hB dL_law_216 rfl ?_
  refine y_iadd (t := 4 * k + 1) hB dL_law_217 (by omega) ?_
  refine y_scr hB hX hbl hb0 (by omega) hL eu dL_law_218 ?_
  refine y_aload_n hB 3 dL_law_219 rfl rfl ?_
  refine y_iload_n hB 0 dL_law_220 rfl rfl ?_
  refine y_iconst (v := 2) hB dL_law_221 rfl ?_
  refine y_iadd (t := 4 * k + 2) hB dL_law_222 (by omega) ?_
  refine y_scr hB hX hbl hb0 (by omega) hL et dL_law_223 ?_
  refine y_aload_n hB 3 dL_law_224 rfl rfl ?_
  refine y_iload_n hB 0 dL_law_225 rfl rfl ?_
  refine y_iconst (v := 3) hB dL_law_226 rfl ?_
  refine y_iadd (t := 4 * k + 3) hB dL_law_227 (by omega) ?_
  refine y_scr hB hX hbl hb0 (by omega) hL ez dL_law_228 ?_
  refine m_V hB msX7_write q849 (tX7_write _ G b0 C1 S u t z k hu ht hz hM hN h4) (t := 20) (by decide) (by decide) rfl rfl rfl rfl rfl ⟨Nat.le_of_ble_eq_true rfl, Nat.le_of_ble_eq_true rfl⟩ (Nat.le_of_ble_eq_true rfl) ⟨rfl, rfl⟩ ⟨Nat.le_of_ble_eq_true rfl, Nat.le_of_ble_eq_true rfl⟩ dL_law_229 (k_SI (fun v2 S1 h2 => ?_))
  obtain ⟨rfl, hJ9⟩ := sm_write hJ h1 h2
  refine y_eqj hB 851 dL_law_232 (by decide) ?_
  exact hNX C1 S1 hJ9
set_option maxHeartbeats 4000000 in
theorem lc_check (hB : Bx x G b0 RL cL_law 8 ret room_1 nm) (hX : va_X b L xs (gs x) (gs x).heap) (hbl : b < (gs x).heap.size) (hb0 : b < b0) (hZ : Zs b0 (gs x)) (hL : L ≤ 2048) (hi : 0 ≤ k ∧ 4 * k + 3 < (L : Int)) (hJ : JJ C S k) (hNX : NX x G b0 b k) : YM x G b0 586 9472 C S 237 [(3, .int (iI (4 * k))), (2, .ref (ad b0 578)), (1, .ref (ad b0 0)), (0, .ref b)] [] := by
  have hN : k ≤ 512 := by omega
  have hD := hJ.1.dk
  have hM := hJ.1.mo
  have hhf := hJ.2.1.1
  have hhs := hJ.2.1.2.1
  have hr := hJ.2.2.2.2
  have h4 : 0 ≤ S 578 9 ∧ S 578 9 ≤ 4 := by rw [hJ.2.1.2.2]; exact hhs
  obtain ⟨u, eu⟩ : ∃ u : Int, (xs (4 * k + 1).toNat).toInt = u := ⟨_, rfl⟩
  have hu : -2147483648 ≤ u ∧ u ≤ 2147483647 := by rw [← eu]; exact iI_ofb _
  obtain ⟨t, et⟩ : ∃ t : Int, (xs (4 * k + 2).toNat).toInt = t := ⟨_, rfl⟩
  have ht : -2147483648 ≤ t ∧ t ≤ 2147483647 := by rw [← et]; exact iI_ofb _
  obtain ⟨z, ez⟩ : ∃ z : Int, (xs (4 * k + 3).toNat).toInt = z := ⟨_, rfl⟩
  have hz : -2147483648 ≤ z ∧ z ≤ 2147483647 := by rw [← ez]; exact iI_ofb _
  refine y_aload_n hB 2 dL_law_237 rfl rfl ?_
  refine y_aload_n hB 3 dL_law_238 rfl rfl ?_
  refine y_iload_n hB 0 dL_law_239 rfl rfl ?_
  refine y_iconst (v := 1) hB dL_law_240 rfl ?_
  refine y_iadd (t := 4 * k + 1) hB dL_law_241 (by omega) ?_
  refine y_scr hB hX hbl hb0 (by omega) hL eu dL_law_242 ?_
  refine y_aload_n hB 3 dL_law_243 rfl rfl ?_
  refine y_iload_n hB 0 dL_law_244 rfl rfl ?_
  refine y_iconst (v := 2) hB dL_law_245 rfl ?_
  refine y_iadd (t := 4 * k + 2) hB dL_law_246 (by omega) ?_
  refine y_scr hB hX hbl hb0 (by omega) hL et dL_law_247 ?_
  refine m_V hB msX6_check q366 (tX6_check _ G b0 C S u t k hu ht hD hN hhf hhs) (t := 0) (by decide) (by decide) rfl rfl rfl rfl rfl ⟨Nat.le_of_ble_eq_true rfl, Nat.le_of_ble_eq_true rfl⟩ (Nat.le_of_ble_eq_true rfl) ⟨rfl, rfl⟩ ⟨Nat.le_of_ble_eq_true rfl, Nat.le_of_ble_eq_true rfl⟩ dL_law_248 (k_WI (fun v1 C1 h1 => ?_))
  refine y_aload_n hB 1 dL_law_251 rfl rfl ?_
  refine y_aload_n hB 3 dL_law_252 rfl rfl ?_
  refine y_iload_n hB 0 dL_law_253 rfl rfl ?_
  refine y_iconst (v := 1) hB dL_law_254 rfl ?_
  refine y_iadd (t := 4 * k + 1) hB dL_law_255 (by omega) ?_
  refine y_scr hB hX hbl hb0 (by omega) hL eu dL_law_256 ?_
  refine y_aload_n hB 3 dL_law_257 rfl rfl ?_
  refine y_iload_n hB 0 dL_law_258 rfl rfl ?_
  refine y_iconst (v := 2) hB dL_law_259 rfl ?_
  refine y_iadd (t := 4 * k + 2) hB dL_law_260 (by omega) ?_
  refine y_scr hB hX hbl hb0 (by omega) hL et dL_law_261 ?_
  refine m_V hB msX7_check q857 (tX7_check _ G b0 C1 S u t k hu ht hM hN h4) (t := 20) (by decide) (by decide) rfl rfl rfl rfl rfl ⟨Nat.le_of_ble_eq_true rfl, Nat.le_of_ble_eq_true rfl⟩ (Nat.le_of_ble_eq_true rfl) ⟨rfl, rfl⟩ ⟨Nat.le_of_ble_eq_true rfl, Nat.le_of_ble_eq_true rfl⟩ dL_law_262 (k_SI (fun v2 S1 h2 => ?_))
  obtain ⟨rfl, hJ9⟩ := sm_check hJ h1 h2
  refine y_eqj hB 851 dL_law_265 (by decide) ?_
  exact hNX C1 S1 hJ9
set_option maxHeartbeats 4000000 in
theorem lc_strike (hB : Bx x G b0 RL cL_law 8 ret room_1 nm) (hX : va_X b L xs (gs x) (gs x).heap) (hbl : b < (gs x).heap.size) (hb0 : b < b0) (hZ : Zs b0 (gs x)) (hL : L ≤ 2048) (hi : 0 ≤ k ∧ 4 * k + 3 < (L : Int)) (hJ : JJ C S k) (hNX : NX x G b0 b k) : YM x G b0 586 9472 C S 270 [(3, .int (iI (4 * k))), (2, .ref (ad b0 578)), (1, .ref (ad b0 0)), (0, .ref b)] [] := by
  have hN : k ≤ 512 := by omega
  have hD := hJ.1.dk
  have hM := hJ.1.mo
  have hhf := hJ.2.1.1
  have hhs := hJ.2.1.2.1
  have hr := hJ.2.2.2.2
  have h4 : 0 ≤ S 578 9 ∧ S 578 9 ≤ 4 := by rw [hJ.2.1.2.2]; exact hhs
  obtain ⟨u, eu⟩ : ∃ u : Int, (xs (4 * k + 1).toNat).toInt = u := ⟨_, rfl⟩
  have hu : -2147483648 ≤ u ∧ u ≤ 2147483647 := by rw [← eu]; exact iI_ofb _
  obtain ⟨t, et⟩ : ∃ t : Int, (xs (4 * k + 2).toNat).toInt = t := ⟨_, rfl⟩
  have ht : -2147483648 ≤ t ∧ t ≤ 2147483647 := by rw [← et]; exact iI_ofb _
  obtain ⟨z, ez⟩ : ∃ z : Int, (xs (4 * k + 3).toNat).toInt = z := ⟨_, rfl⟩
  have hz : -2147483648 ≤ z ∧ z ≤ 2147483647 := by rw [← ez]; exact iI_ofb _
  refine y_aload_n hB 2 dL_law_270 rfl rfl ?_
  refine y_aload_n hB 3 dL_law_271 rfl rfl ?_
  refine y_iload_n hB 0 dL_law_272 rfl rfl ?_
  refine y_iconst (v := 1) hB dL_law_273 rfl ?_
  refine y_iadd (t := 4 * k + 1) hB dL_law_274 (by omega) ?_
  refine y_scr hB hX hbl hb0 (by omega) hL eu dL_law_275 ?_
  refine y_aload_n hB 3 dL_law_276 rfl rfl ?_
  refine y_iload_n hB 0 dL_law_277 rfl rfl ?_
  refine y_iconst (v := 2) hB dL_law_278 rfl ?_
  refine y_iadd (t := 4 * k + 2) hB dL_law_279 (by omega) ?_
  refine y_scr hB hX hbl hb0 (by omega) hL et dL_law_280 ?_
  refine m_V hB msX6_strike q388 (tX6_strike _ G b0 C S u t k hu ht hD hN hhf hhs) (t := 0) (by decide) (by decide) rfl rfl rfl rfl rfl ⟨Nat.le_of_ble_eq_true rfl, Nat.le_of_ble_eq_true rfl⟩ (Nat.le_of_ble_eq_true rfl) ⟨rfl, rfl⟩ ⟨Nat.le_of_ble_eq_true rfl, Nat.le_of_ble_eq_true rfl⟩ dL_law_281 (k_WI (fun v1 C1 h1 => ?_))
  refine y_aload_n hB 1 dL_law_284 rfl rfl ?_
  refine y_aload_n hB 3 dL_law_285 rfl rfl ?_
  refine y_iload_n hB 0 dL_law_286 rfl rfl ?_
  refine y_iconst (v := 1) hB dL_law_287 rfl ?_
  refine y_iadd (t := 4 * k + 1) hB dL_law_288 (by omega) ?_
  refine y_scr hB hX hbl hb0 (by omega) hL eu dL_law_289 ?_
  refine y_aload_n hB 3 dL_law_290 rfl rfl ?_
  refine y_iload_n hB 0 dL_law_291 rfl rfl ?_
  refine y_iconst (v := 2) hB dL_law_292 rfl ?_
  refine y_iadd (t := 4 * k + 2) hB dL_law_293 (by omega) ?_
  refine y_scr hB hX hbl hb0 (by omega) hL et dL_law_294 ?_
  refine m_V hB msX7_strike q865 (tX7_strike _ G b0 C1 S u t k hu ht hM hN h4) (t := 20) (by decide) (by decide) rfl rfl rfl rfl rfl ⟨Nat.le_of_ble_eq_true rfl, Nat.le_of_ble_eq_true rfl⟩ (Nat.le_of_ble_eq_true rfl) ⟨rfl, rfl⟩ ⟨Nat.le_of_ble_eq_true rfl, Nat.le_of_ble_eq_true rfl⟩ dL_law_295 (k_SI (fun v2 S1 h2 => ?_))
  obtain ⟨rfl, hJ9⟩ := sm_strike hJ h1 h2
  refine y_eqj hB 851 dL_law_298 (by decide) ?_
  exact hNX C1 S1 hJ9
set_option maxHeartbeats 4000000 in
theorem lc_checkUrgent (hB : Bx x G b0 RL cL_law 8 ret room_1 nm) (hX : va_X b L xs (gs x) (gs x).heap) (hbl : b < (gs x).heap.size) (hb0 : b < b0) (hZ : Zs b0 (gs x)) (hL : L ≤ 2048) (hi : 0 ≤ k ∧ 4 * k + 3 < (L : Int)) (hJ : JJ C S k) (hNX : NX x G b0 b k) : YM x G b0 586 9472 C S 303 [(3, .int (iI (4 * k))), (2, .ref (ad b0 578)), (1, .ref (ad b0 0)), (0, .ref b)] [] := by
  have hN : k ≤ 512 := by omega
  have hD := hJ.1.dk
  have hM := hJ.1.mo
  have hhf := hJ.2.1.1
  have hhs := hJ.2.1.2.1
  have hr := hJ.2.2.2.2
  have h4 : 0 ≤ S 578 9 ∧ S 578 9 ≤ 4 := by rw [hJ.2.1.2.2]; exact hhs
  obtain ⟨u, eu⟩ : ∃ u : Int, (xs (4 * k + 1).toNat).toInt = u := ⟨_, rfl⟩
  have hu : -2147483648 ≤ u ∧ u ≤ 2147483647 := by rw [← eu]; exact iI_ofb _
  obtain ⟨t, et⟩ : ∃ t : Int, (xs (4 * k + 2).toNat).toInt = t := ⟨_, rfl⟩
  have ht : -2147483648 ≤ t ∧ t ≤ 2147483647 := by rw [← et]; exact iI_ofb _
  obtain ⟨z, ez⟩ : ∃ z : Int, (xs (4 * k + 3).toNat).toInt = z := ⟨_, rfl⟩
  have hz : -2147483648 ≤ z ∧ z ≤ 2147483647 := by rw [← ez]; exact iI_ofb _
  refine y_aload_n hB 2 dL_law_303 rfl rfl ?_
  refine m_V hB msX6_checkUrgent q396 (tX6_checkUrgent _ G b0 C S k hD hN hhf hhs) (t := 0) (by decide) (by decide) rfl rfl rfl rfl rfl ⟨Nat.le_of_ble_eq_true rfl, Nat.le_of_ble_eq_true rfl⟩ (Nat.le_of_ble_eq_true rfl) ⟨rfl, rfl⟩ ⟨Nat.le_of_ble_eq_true rfl, Nat.le_of_ble_eq_true rfl⟩ dL_law_304 (k_WI (fun v1 C1 h1 => ?_))
  refine y_aload_n hB 1 dL_law_307 rfl rfl ?_
  refine m_V hB msX7_checkUrgent q869 (tX7_checkUrgent _ G b0 C1 S k hM hN h4) (t := 20) (by decide) (by decide) rfl rfl rfl rfl rfl ⟨Nat.le_of_ble_eq_true rfl, Nat.le_of_ble_eq_true rfl⟩ (Nat.le_of_ble_eq_true rfl) ⟨rfl, rfl⟩ ⟨Nat.le_of_ble_eq_true rfl, Nat.le_of_ble_eq_true rfl⟩ dL_law_308 (k_SI (fun v2 S1 h2 => ?_))
  obtain ⟨rfl, hJ9⟩ := sm_checkUrgent hJ h1 h2
  refine y_eqj hB 851 dL_law_311 (by decide) ?_
  exact hNX C1 S1 hJ9
set_option maxHeartbeats 4000000 in
theorem lc_trust (hB : Bx x G b0 RL cL_law 8 ret room_1 nm) (hX : va_X b L xs (gs x) (gs x).heap) (hbl : b < (gs x).heap.size) (hb0 : b < b0) (hZ : Zs b0 (gs x)) (hL : L ≤ 2048) (hi : 0 ≤ k ∧ 4 * k + 3 < (L : Int)) (hJ : JJ C S k) (hNX : NX x G b0 b k) : YM x G b0 586 9472 C S 316 [(3, .int (iI (4 * k))), (2, .ref (ad b0 578)), (1, .ref (ad b0 0)), (0, .ref b)] [] := by
  have hN : k ≤ 512 := by omega
  have hD := hJ.1.dk
  have hM := hJ.1.mo
  have hhf := hJ.2.1.1
  have hhs := hJ.2.1.2.1
  have hr := hJ.2.2.2.2
  have h4 : 0 ≤ S 578 9 ∧ S 578 9 ≤ 4 := by rw [hJ.2.1.2.2]; exact hhs
  obtain ⟨u, eu⟩ : ∃ u : Int, (xs (4 * k + 1).toNat).toInt = u := ⟨_, rfl⟩
  have hu : -2147483648 ≤ u ∧ u ≤ 2147483647 := by rw [← eu]; exact iI_ofb _
  obtain ⟨t, et⟩ : ∃ t : Int, (xs (4 * k + 2).toNat).toInt = t := ⟨_, rfl⟩
  have ht : -2147483648 ≤ t ∧ t ≤ 2147483647 := by rw [← et]; exact iI_ofb _
  obtain ⟨z, ez⟩ : ∃ z : Int, (xs (4 * k + 3).toNat).toInt = z := ⟨_, rfl⟩
  have hz : -2147483648 ≤ z ∧ z ≤ 2147483647 := by rw [← ez]; exact iI_ofb _
  refine y_aload_n hB 2 dL_law_316 rfl rfl ?_
  refine y_aload_n hB 3 dL_law_317 rfl rfl ?_
  refine y_iload_n hB 0 dL_law_318 rfl rfl ?_
  refine y_iconst (v := 1) hB dL_law_319 rfl ?_
  refine y_iadd (t := 4 * k + 1) hB dL_law_320 (by omega) ?_
  refine y_scr hB hX hbl hb0 (by omega) hL eu dL_law_321 ?_
  refine y_aload_n hB 3 dL_law_322 rfl rfl ?_
  refine y_iload_n hB 0 dL_law_323 rfl rfl ?_
  refine y_iconst (v := 2) hB dL_law_324 rfl ?_
  refine y_iadd (t := 4 * k + 2) hB dL_law_325 (by omega) ?_
  refine y_scr hB hX hbl hb0 (by omega) hL et dL_law_326 ?_
  refine m_V hB msX6_trust q450 (tX6_trust _ G b0 C S u t k hu ht hD hN hhf hhs) (t := 0) (by decide) (by decide) rfl rfl rfl rfl rfl ⟨Nat.le_of_ble_eq_true rfl, Nat.le_of_ble_eq_true rfl⟩ (Nat.le_of_ble_eq_true rfl) ⟨rfl, rfl⟩ ⟨Nat.le_of_ble_eq_true rfl, Nat.le_of_ble_eq_true rfl⟩ dL_law_327 (k_WI (fun v1 C1 h1 => ?_))
  refine y_aload_n hB 1 dL_law_330 rfl rfl ?_
  refine y_aload_n hB 3 dL_law_331 rfl rfl ?_
  refine y_iload_n hB 0 dL_law_332 rfl rfl ?_
  refine y_iconst (v := 1) hB dL_law_333 rfl ?_
  refine y_iadd (t := 4 * k + 1) hB dL_law_334 (by omega) ?_
  refine y_scr hB hX hbl hb0 (by omega) hL eu dL_law_335 ?_
  refine y_aload_n hB 3 dL_law_336 rfl rfl ?_
  refine y_iload_n hB 0 dL_law_337 rfl rfl ?_
  refine y_iconst (v := 2) hB dL_law_338 rfl ?_
  refine y_iadd (t := 4 * k + 2) hB dL_law_339 (by omega) ?_
  refine y_scr hB hX hbl hb0 (by omega) hL et dL_law_340 ?_
  refine m_V hB msX7_trust q899 (tX7_trust _ G b0 C1 S u t k hu ht hM hN h4) (t := 20) (by decide) (by decide) rfl rfl rfl rfl rfl ⟨Nat.le_of_ble_eq_true rfl, Nat.le_of_ble_eq_true rfl⟩ (Nat.le_of_ble_eq_true rfl) ⟨rfl, rfl⟩ ⟨Nat.le_of_ble_eq_true rfl, Nat.le_of_ble_eq_true rfl⟩ dL_law_341 (k_SI (fun v2 S1 h2 => ?_))
  obtain ⟨rfl, hJ9⟩ := sm_trust hJ h1 h2
  refine y_eqj hB 851 dL_law_344 (by decide) ?_
  exact hNX C1 S1 hJ9
set_option maxHeartbeats 4000000 in
theorem lc_set (hB : Bx x G b0 RL cL_law 8 ret room_1 nm) (hX : va_X b L xs (gs x) (gs x).heap) (hbl : b < (gs x).heap.size) (hb0 : b < b0) (hZ : Zs b0 (gs x)) (hL : L ≤ 2048) (hi : 0 ≤ k ∧ 4 * k + 3 < (L : Int)) (hJ : JJ C S k) (hNX : NX x G b0 b k) : YM x G b0 586 9472 C S 349 [(3, .int (iI (4 * k))), (2, .ref (ad b0 578)), (1, .ref (ad b0 0)), (0, .ref b)] [] := by
  have hN : k ≤ 512 := by omega
  have hD := hJ.1.dk
  have hM := hJ.1.mo
  have hhf := hJ.2.1.1
  have hhs := hJ.2.1.2.1
  have hr := hJ.2.2.2.2
  have h4 : 0 ≤ S 578 9 ∧ S 578 9 ≤ 4 := by rw [hJ.2.1.2.2]; exact hhs
  obtain ⟨u, eu⟩ : ∃ u : Int, (xs (4 * k + 1).toNat).toInt = u := ⟨_, rfl⟩
  have hu : -2147483648 ≤ u ∧ u ≤ 2147483647 := by rw [← eu]; exact iI_ofb _
  obtain ⟨t, et⟩ : ∃ t : Int, (xs (4 * k + 2).toNat).toInt = t := ⟨_, rfl⟩
  have ht : -2147483648 ≤ t ∧ t ≤ 2147483647 := by rw [← et]; exact iI_ofb _
  obtain ⟨z, ez⟩ : ∃ z : Int, (xs (4 * k + 3).toNat).toInt = z := ⟨_, rfl⟩
  have hz : -2147483648 ≤ z ∧ z ≤ 2147483647 := by rw [← ez]; exact iI_ofb _
  refine y_aload_n hB 2 dL_law_349 rfl rfl ?_
  refine y_aload_n hB 3 dL_law_350 rfl rfl ?_
  refine y_iload_n hB 0 dL_law_351 rfl rfl ?_
  refine y_iconst (v := 1) hB dL_law_352 rfl ?_
  refine y_iadd (t := 4 * k + 1) hB dL_law_353 (by omega) ?_
  refine y_scr hB hX hbl hb0 (by omega) hL eu dL_law_354 ?_
  refine y_aload_n hB 3 dL_law_355 rfl rfl ?_
  refine y_iload_n hB 0 dL_law_356 rfl rfl ?_
  refine y_iconst (v := 2) hB dL_law_357 rfl ?_
  refine y_iadd (t := 4 * k + 2) hB dL_law_358 (by omega) ?_
  refine y_scr hB hX hbl hb0 (by omega) hL et dL_law_359 ?_
  refine m_VK hB msX6_set q459 (tX6_set _ G b0 C S u t k hu ht hD hN hhf hhs) Zs_call (Zs_warm hZ) (t := 0) (by decide) (by decide) rfl rfl rfl rfl rfl ⟨Nat.le_of_ble_eq_true rfl, Nat.le_of_ble_eq_true rfl⟩ (Nat.le_of_ble_eq_true rfl) ⟨rfl, rfl⟩ ⟨Nat.le_of_ble_eq_true rfl, Nat.le_of_ble_eq_true rfl⟩ dL_law_360 (k_WI (fun v1 C1 h1 => ?_))
  refine y_aload_n hB 1 dL_law_363 rfl rfl ?_
  refine y_aload_n hB 3 dL_law_364 rfl rfl ?_
  refine y_iload_n hB 0 dL_law_365 rfl rfl ?_
  refine y_iconst (v := 1) hB dL_law_366 rfl ?_
  refine y_iadd (t := 4 * k + 1) hB dL_law_367 (by omega) ?_
  refine y_scr hB hX hbl hb0 (by omega) hL eu dL_law_368 ?_
  refine y_aload_n hB 3 dL_law_369 rfl rfl ?_
  refine y_iload_n hB 0 dL_law_370 rfl rfl ?_
  refine y_iconst (v := 2) hB dL_law_371 rfl ?_
  refine y_iadd (t := 4 * k + 2) hB dL_law_372 (by omega) ?_
  refine y_scr hB hX hbl hb0 (by omega) hL et dL_law_373 ?_
  refine m_V hB msX7_set q903 (tX7_set _ G b0 C1 S u t k hu ht hM hN h4) (t := 20) (by decide) (by decide) rfl rfl rfl rfl rfl ⟨Nat.le_of_ble_eq_true rfl, Nat.le_of_ble_eq_true rfl⟩ (Nat.le_of_ble_eq_true rfl) ⟨rfl, rfl⟩ ⟨Nat.le_of_ble_eq_true rfl, Nat.le_of_ble_eq_true rfl⟩ dL_law_374 (k_SI (fun v2 S1 h2 => ?_))
  obtain ⟨rfl, hJ9⟩ := sm_set hJ h1 h2
  refine y_eqj hB 851 dL_law_377 (by decide) ?_
  exact hNX C1 S1 hJ9
set_option maxHeartbeats 4000000 in
theorem lc_tellDeath (hB : Bx x G b0 RL cL_law 8 ret room_1 nm) (hX : va_X b L xs (gs x) (gs x).heap) (hbl : b < (gs x).heap.size) (hb0 : b < b0) (hZ : Zs b0 (gs x)) (hL : L ≤ 2048) (hi : 0 ≤ k ∧ 4 * k + 3 < (L : Int)) (hJ : JJ C S k) (hNX : NX x G b0 b k) : YM x G b0 586 9472 C S 382 [(3, .int (iI (4 * k))), (2, .ref (ad b0 578)), (1, .ref (ad b0 0)), (0, .ref b)] [] := by
  have hN : k ≤ 512 := by omega
  have hD := hJ.1.dk
  have hM := hJ.1.mo
  have hhf := hJ.2.1.1
  have hhs := hJ.2.1.2.1
  have hr := hJ.2.2.2.2
  have h4 : 0 ≤ S 578 9 ∧ S 578 9 ≤ 4 := by rw [hJ.2.1.2.2]; exact hhs
  obtain ⟨u, eu⟩ : ∃ u : Int, (xs (4 * k + 1).toNat).toInt = u := ⟨_, rfl⟩
  have hu : -2147483648 ≤ u ∧ u ≤ 2147483647 := by rw [← eu]; exact iI_ofb _
  obtain ⟨t, et⟩ : ∃ t : Int, (xs (4 * k + 2).toNat).toInt = t := ⟨_, rfl⟩
  have ht : -2147483648 ≤ t ∧ t ≤ 2147483647 := by rw [← et]; exact iI_ofb _
  obtain ⟨z, ez⟩ : ∃ z : Int, (xs (4 * k + 3).toNat).toInt = z := ⟨_, rfl⟩
  have hz : -2147483648 ≤ z ∧ z ≤ 2147483647 := by rw [← ez]; exact iI_ofb _
  refine y_aload_n hB 2 dL_law_382 rfl rfl ?_
  refine y_aload_n hB 3 dL_law_383 rfl rfl ?_
  refine y_iload_n hB 0 dL_law_384 rfl rfl ?_
  refine y_iconst (v := 1) hB dL_law_385 rfl ?_
  refine y_iadd (t := 4 * k + 1) hB dL_law_386 (by omega) ?_
  refine y_scr hB hX hbl hb0 (by omega) hL eu dL_law_387 ?_
  refine y_aload_n hB 3 dL_law_388 rfl rfl ?_
  refine y_iload_n hB 0 dL_law_389 rfl rfl ?_
  refine y_iconst (v := 2) hB dL_law_390 rfl ?_
  refine y_iadd (t := 4 * k + 2) hB dL_law_391 (by omega) ?_
  refine y_scr hB hX hbl hb0 (by omega) hL et dL_law_392 ?_
  refine m_V hB msX6_tellDeath q473 (tX6_tellDeath _ G b0 C S u t k hu ht hD hN hhf hhs) (t := 0) (by decide) (by decide) rfl rfl rfl rfl rfl ⟨Nat.le_of_ble_eq_true rfl, Nat.le_of_ble_eq_true rfl⟩ (Nat.le_of_ble_eq_true rfl) ⟨rfl, rfl⟩ ⟨Nat.le_of_ble_eq_true rfl, Nat.le_of_ble_eq_true rfl⟩ dL_law_393 (k_WI (fun v1 C1 h1 => ?_))
  refine y_aload_n hB 1 dL_law_396 rfl rfl ?_
  refine y_aload_n hB 3 dL_law_397 rfl rfl ?_
  refine y_iload_n hB 0 dL_law_398 rfl rfl ?_
  refine y_iconst (v := 1) hB dL_law_399 rfl ?_
  refine y_iadd (t := 4 * k + 1) hB dL_law_400 (by omega) ?_
  refine y_scr hB hX hbl hb0 (by omega) hL eu dL_law_401 ?_
  refine y_aload_n hB 3 dL_law_402 rfl rfl ?_
  refine y_iload_n hB 0 dL_law_403 rfl rfl ?_
  refine y_iconst (v := 2) hB dL_law_404 rfl ?_
  refine y_iadd (t := 4 * k + 2) hB dL_law_405 (by omega) ?_
  refine y_scr hB hX hbl hb0 (by omega) hL et dL_law_406 ?_
  refine m_V hB msX7_tellDeath q910 (tX7_tellDeath _ G b0 C1 S u t k hu ht hM hN h4) (t := 20) (by decide) (by decide) rfl rfl rfl rfl rfl ⟨Nat.le_of_ble_eq_true rfl, Nat.le_of_ble_eq_true rfl⟩ (Nat.le_of_ble_eq_true rfl) ⟨rfl, rfl⟩ ⟨Nat.le_of_ble_eq_true rfl, Nat.le_of_ble_eq_true rfl⟩ dL_law_407 (k_SI (fun v2 S1 h2 => ?_))
  obtain ⟨rfl, hJ9⟩ := sm_tellDeath hJ h1 h2
  refine y_eqj hB 851 dL_law_410 (by decide) ?_
  exact hNX C1 S1 hJ9
set_option maxHeartbeats 4000000 in
theorem lc_decide (hB : Bx x G b0 RL cL_law 8 ret room_1 nm) (hX : va_X b L xs (gs x) (gs x).heap) (hbl : b < (gs x).heap.size) (hb0 : b < b0) (hZ : Zs b0 (gs x)) (hL : L ≤ 2048) (hi : 0 ≤ k ∧ 4 * k + 3 < (L : Int)) (hJ : JJ C S k) (hNX : NX x G b0 b k) : YM x G b0 586 9472 C S 415 [(3, .int (iI (4 * k))), (2, .ref (ad b0 578)), (1, .ref (ad b0 0)), (0, .ref b)] [] := by
  have hN : k ≤ 512 := by omega
  have hD := hJ.1.dk
  have hM := hJ.1.mo
  have hhf := hJ.2.1.1
  have hhs := hJ.2.1.2.1
  have hr := hJ.2.2.2.2
  have h4 : 0 ≤ S 578 9 ∧ S 578 9 ≤ 4 := by rw [hJ.2.1.2.2]; exact hhs
  obtain ⟨u, eu⟩ : ∃ u : Int, (xs (4 * k + 1).toNat).toInt = u := ⟨_, rfl⟩
  have hu : -2147483648 ≤ u ∧ u ≤ 2147483647 := by rw [← eu]; exact iI_ofb _
  obtain ⟨t, et⟩ : ∃ t : Int, (xs (4 * k + 2).toNat).toInt = t := ⟨_, rfl⟩
  have ht : -2147483648 ≤ t ∧ t ≤ 2147483647 := by rw [← et]; exact iI_ofb _
  obtain ⟨z, ez⟩ : ∃ z : Int, (xs (4 * k + 3).toNat).toInt = z := ⟨_, rfl⟩
  have hz : -2147483648 ≤ z ∧ z ≤ 2147483647 := by rw [← ez]; exact iI_ofb _
  refine y_aload_n hB 2 dL_law_415 rfl rfl ?_
  refine y_aload_n hB 3 dL_law_416 rfl rfl ?_
  refine y_iload_n hB 0 dL_law_417 rfl rfl ?_
  refine y_iconst (v := 1) hB dL_law_418 rfl ?_
  refine y_iadd (t := 4 * k + 1) hB dL_law_419 (by omega) ?_
  refine y_scr hB hX hbl hb0 (by omega) hL eu dL_law_420 ?_
  refine y_aload_n hB 3 dL_law_421 rfl rfl ?_
  refine y_iload_n hB 0 dL_law_422 rfl rfl ?_
  refine y_iconst (v := 2) hB dL_law_423 rfl ?_
  refine y_iadd (t := 4 * k + 2) hB dL_law_424 (by omega) ?_
  refine y_scr hB hX hbl hb0 (by omega) hL et dL_law_425 ?_
  refine y_if_eq hB 433 dL_law_426 (by decide) ht (fun c_426 => ?_) (fun c_426 => ?_)
  · refine y_iconst (v := 0) hB dL_law_433 rfl ?_
    refine m_V hB msX6_decide q489 (tX6_decide _ G b0 C S u 0 k hu (Or.inl rfl) hD hN hhf hhs) (t := 0) (by decide) (by decide) rfl rfl rfl rfl rfl ⟨Nat.le_of_ble_eq_true rfl, Nat.le_of_ble_eq_true rfl⟩ (Nat.le_of_ble_eq_true rfl) ⟨rfl, rfl⟩ ⟨Nat.le_of_ble_eq_true rfl, Nat.le_of_ble_eq_true rfl⟩ dL_law_434 (k_WI (fun v1 C1 h1 => ?_))
    refine y_aload_n hB 1 dL_law_437 rfl rfl ?_
    refine y_aload_n hB 3 dL_law_438 rfl rfl ?_
    refine y_iload_n hB 0 dL_law_439 rfl rfl ?_
    refine y_iconst (v := 1) hB dL_law_440 rfl ?_
    refine y_iadd (t := 4 * k + 1) hB dL_law_441 (by omega) ?_
    refine y_scr hB hX hbl hb0 (by omega) hL eu dL_law_442 ?_
    refine y_aload_n hB 3 dL_law_443 rfl rfl ?_
    refine y_iload_n hB 0 dL_law_444 rfl rfl ?_
    refine y_iconst (v := 2) hB dL_law_445 rfl ?_
    refine y_iadd (t := 4 * k + 2) hB dL_law_446 (by omega) ?_
    refine y_scr hB hX hbl hb0 (by omega) hL et dL_law_447 ?_
    refine y_if_eq hB 455 dL_law_448 (by decide) ht (fun c_448 => ?_) (fun c_448 => ?_)
    · refine y_iconst (v := 0) hB dL_law_455 rfl ?_
      refine m_V hB msX7_decide q914 (tX7_decide _ G b0 C1 S u 0 k hu (Or.inl rfl) hM hN h4) (t := 20) (by decide) (by decide) rfl rfl rfl rfl rfl ⟨Nat.le_of_ble_eq_true rfl, Nat.le_of_ble_eq_true rfl⟩ (Nat.le_of_ble_eq_true rfl) ⟨rfl, rfl⟩ ⟨Nat.le_of_ble_eq_true rfl, Nat.le_of_ble_eq_true rfl⟩ dL_law_456 (k_SI (fun v2 S1 h2 => ?_))
      obtain ⟨rfl, hJ9⟩ := sm_decide hJ h1 h2
      refine y_eqj hB 851 dL_law_459 (by decide) ?_
      exact hNX C1 S1 hJ9
    · exfalso; omega
  · refine y_iconst (v := 1) hB dL_law_429 rfl ?_
    refine y_goto hB 434 dL_law_430 (by decide) ?_
    refine m_V hB msX6_decide q489 (tX6_decide _ G b0 C S u 1 k hu (Or.inr rfl) hD hN hhf hhs) (t := 0) (by decide) (by decide) rfl rfl rfl rfl rfl ⟨Nat.le_of_ble_eq_true rfl, Nat.le_of_ble_eq_true rfl⟩ (Nat.le_of_ble_eq_true rfl) ⟨rfl, rfl⟩ ⟨Nat.le_of_ble_eq_true rfl, Nat.le_of_ble_eq_true rfl⟩ dL_law_434 (k_WI (fun v1 C1 h1 => ?_))
    refine y_aload_n hB 1 dL_law_437 rfl rfl ?_
    refine y_aload_n hB 3 dL_law_438 rfl rfl ?_
    refine y_iload_n hB 0 dL_law_439 rfl rfl ?_
    refine y_iconst (v := 1) hB dL_law_440 rfl ?_
    refine y_iadd (t := 4 * k + 1) hB dL_law_441 (by omega) ?_
    refine y_scr hB hX hbl hb0 (by omega) hL eu dL_law_442 ?_
    refine y_aload_n hB 3 dL_law_443 rfl rfl ?_
    refine y_iload_n hB 0 dL_law_444 rfl rfl ?_
    refine y_iconst (v := 2) hB dL_law_445 rfl ?_
    refine y_iadd (t := 4 * k + 2) hB dL_law_446 (by omega) ?_
    refine y_scr hB hX hbl hb0 (by omega) hL et dL_law_447 ?_
    refine y_if_eq hB 455 dL_law_448 (by decide) ht (fun c_448 => ?_) (fun c_448 => ?_)
    · exfalso; omega
    · refine y_iconst (v := 1) hB dL_law_451 rfl ?_
      refine y_goto hB 456 dL_law_452 (by decide) ?_
      refine m_V hB msX7_decide q914 (tX7_decide _ G b0 C1 S u 1 k hu (Or.inr rfl) hM hN h4) (t := 20) (by decide) (by decide) rfl rfl rfl rfl rfl ⟨Nat.le_of_ble_eq_true rfl, Nat.le_of_ble_eq_true rfl⟩ (Nat.le_of_ble_eq_true rfl) ⟨rfl, rfl⟩ ⟨Nat.le_of_ble_eq_true rfl, Nat.le_of_ble_eq_true rfl⟩ dL_law_456 (k_SI (fun v2 S1 h2 => ?_))
      obtain ⟨rfl, hJ9⟩ := sm_decide hJ h1 h2
      refine y_eqj hB 851 dL_law_459 (by decide) ?_
      exact hNX C1 S1 hJ9
set_option maxHeartbeats 4000000 in
theorem lc_print (hB : Bx x G b0 RL cL_law 8 ret room_1 nm) (hX : va_X b L xs (gs x) (gs x).heap) (hbl : b < (gs x).heap.size) (hb0 : b < b0) (hZ : Zs b0 (gs x)) (hL : L ≤ 2048) (hi : 0 ≤ k ∧ 4 * k + 3 < (L : Int)) (hJ : JJ C S k) (hNX : NX x G b0 b k) : YM x G b0 586 9472 C S 464 [(3, .int (iI (4 * k))), (2, .ref (ad b0 578)), (1, .ref (ad b0 0)), (0, .ref b)] [] := by
  have hN : k ≤ 512 := by omega
  have hD := hJ.1.dk
  have hM := hJ.1.mo
  have hhf := hJ.2.1.1
  have hhs := hJ.2.1.2.1
  have hr := hJ.2.2.2.2
  have h4 : 0 ≤ S 578 9 ∧ S 578 9 ≤ 4 := by rw [hJ.2.1.2.2]; exact hhs
  obtain ⟨u, eu⟩ : ∃ u : Int, (xs (4 * k + 1).toNat).toInt = u := ⟨_, rfl⟩
  have hu : -2147483648 ≤ u ∧ u ≤ 2147483647 := by rw [← eu]; exact iI_ofb _
  obtain ⟨t, et⟩ : ∃ t : Int, (xs (4 * k + 2).toNat).toInt = t := ⟨_, rfl⟩
  have ht : -2147483648 ≤ t ∧ t ≤ 2147483647 := by rw [← et]; exact iI_ofb _
  obtain ⟨z, ez⟩ : ∃ z : Int, (xs (4 * k + 3).toNat).toInt = z := ⟨_, rfl⟩
  have hz : -2147483648 ≤ z ∧ z ≤ 2147483647 := by rw [← ez]; exact iI_ofb _
  refine y_aload_n hB 2 dL_law_464 rfl rfl ?_
  refine m_V hB msX6_print q498 (tX6_print _ G b0 C S k hD hN hhf hhs) (t := 0) (by decide) (by decide) rfl rfl rfl rfl rfl ⟨Nat.le_of_ble_eq_true rfl, Nat.le_of_ble_eq_true rfl⟩ (Nat.le_of_ble_eq_true rfl) ⟨rfl, rfl⟩ ⟨Nat.le_of_ble_eq_true rfl, Nat.le_of_ble_eq_true rfl⟩ dL_law_465 (k_WI (fun v1 C1 h1 => ?_))
  refine y_aload_n hB 1 dL_law_468 rfl rfl ?_
  refine m_V hB msX7_print q922 (tX7_print _ G b0 C1 S k hM hN h4) (t := 20) (by decide) (by decide) rfl rfl rfl rfl rfl ⟨Nat.le_of_ble_eq_true rfl, Nat.le_of_ble_eq_true rfl⟩ (Nat.le_of_ble_eq_true rfl) ⟨rfl, rfl⟩ ⟨Nat.le_of_ble_eq_true rfl, Nat.le_of_ble_eq_true rfl⟩ dL_law_469 (k_SI (fun v2 S1 h2 => ?_))
  obtain ⟨rfl, hJ9⟩ := sm_print hJ hN h1 h2
  refine y_eqj hB 851 dL_law_472 (by decide) ?_
  exact hNX C1 S1 hJ9
set_option maxHeartbeats 4000000 in
theorem lc_correct (hB : Bx x G b0 RL cL_law 8 ret room_1 nm) (hX : va_X b L xs (gs x) (gs x).heap) (hbl : b < (gs x).heap.size) (hb0 : b < b0) (hZ : Zs b0 (gs x)) (hL : L ≤ 2048) (hi : 0 ≤ k ∧ 4 * k + 3 < (L : Int)) (hJ : JJ C S k) (hNX : NX x G b0 b k) : YM x G b0 586 9472 C S 477 [(3, .int (iI (4 * k))), (2, .ref (ad b0 578)), (1, .ref (ad b0 0)), (0, .ref b)] [] := by
  have hN : k ≤ 512 := by omega
  have hD := hJ.1.dk
  have hM := hJ.1.mo
  have hhf := hJ.2.1.1
  have hhs := hJ.2.1.2.1
  have hr := hJ.2.2.2.2
  have h4 : 0 ≤ S 578 9 ∧ S 578 9 ≤ 4 := by rw [hJ.2.1.2.2]; exact hhs
  obtain ⟨u, eu⟩ : ∃ u : Int, (xs (4 * k + 1).toNat).toInt = u := ⟨_, rfl⟩
  have hu : -2147483648 ≤ u ∧ u ≤ 2147483647 := by rw [← eu]; exact iI_ofb _
  obtain ⟨t, et⟩ : ∃ t : Int, (xs (4 * k + 2).toNat).toInt = t := ⟨_, rfl⟩
  have ht : -2147483648 ≤ t ∧ t ≤ 2147483647 := by rw [← et]; exact iI_ofb _
  obtain ⟨z, ez⟩ : ∃ z : Int, (xs (4 * k + 3).toNat).toInt = z := ⟨_, rfl⟩
  have hz : -2147483648 ≤ z ∧ z ≤ 2147483647 := by rw [← ez]; exact iI_ofb _
  refine y_aload_n hB 2 dL_law_477 rfl rfl ?_
  refine y_aload_n hB 3 dL_law_478 rfl rfl ?_
  refine y_iload_n hB 0 dL_law_479 rfl rfl ?_
  refine y_iconst (v := 1) hB dL_law_480 rfl ?_
  refine y_iadd (t := 4 * k + 1) hB dL_law_481 (by omega) ?_
  refine y_scr hB hX hbl hb0 (by omega) hL eu dL_law_482 ?_
  refine y_aload_n hB 3 dL_law_483 rfl rfl ?_
  refine y_iload_n hB 0 dL_law_484 rfl rfl ?_
  refine y_iconst (v := 2) hB dL_law_485 rfl ?_
  refine y_iadd (t := 4 * k + 2) hB dL_law_486 (by omega) ?_
  refine y_scr hB hX hbl hb0 (by omega) hL et dL_law_487 ?_
  refine y_aload_n hB 3 dL_law_488 rfl rfl ?_
  refine y_iload_n hB 0 dL_law_489 rfl rfl ?_
  refine y_iconst (v := 3) hB dL_law_490 rfl ?_
  refine y_iadd (t := 4 * k + 3) hB dL_law_491 (by omega) ?_
  refine y_scr hB hX hbl hb0 (by omega) hL ez dL_law_492 ?_
  refine m_V hB msX6_correct q587 (tX6_correct _ G b0 C S u t z k hu ht hz hD hN hhf hhs) (t := 0) (by decide) (by decide) rfl rfl rfl rfl rfl ⟨Nat.le_of_ble_eq_true rfl, Nat.le_of_ble_eq_true rfl⟩ (Nat.le_of_ble_eq_true rfl) ⟨rfl, rfl⟩ ⟨Nat.le_of_ble_eq_true rfl, Nat.le_of_ble_eq_true rfl⟩ dL_law_493 (k_WI (fun v1 C1 h1 => ?_))
  refine y_aload_n hB 1 dL_law_496 rfl rfl ?_
  refine y_aload_n hB 3 dL_law_497 rfl rfl ?_
  refine y_iload_n hB 0 dL_law_498 rfl rfl ?_
  refine y_iconst (v := 1) hB dL_law_499 rfl ?_
  refine y_iadd (t := 4 * k + 1) hB dL_law_500 (by omega) ?_
  refine y_scr hB hX hbl hb0 (by omega) hL eu dL_law_501 ?_
  refine y_aload_n hB 3 dL_law_502 rfl rfl ?_
  refine y_iload_n hB 0 dL_law_503 rfl rfl ?_
  refine y_iconst (v := 2) hB dL_law_504 rfl ?_
  refine y_iadd (t := 4 * k + 2) hB dL_law_505 (by omega) ?_
  refine y_scr hB hX hbl hb0 (by omega) hL et dL_law_506 ?_
  refine y_aload_n hB 3 dL_law_507 rfl rfl ?_
  refine y_iload_n hB 0 dL_law_508 rfl rfl ?_
  refine y_iconst (v := 3) hB dL_law_509 rfl ?_
  refine y_iadd (t := 4 * k + 3) hB dL_law_510 (by omega) ?_
  refine y_scr hB hX hbl hb0 (by omega) hL ez dL_law_511 ?_
  refine m_V hB msX7_correct q946 (tX7_correct _ G b0 C1 S u t z k hu ht hz hM hN h4) (t := 20) (by decide) (by decide) rfl rfl rfl rfl rfl ⟨Nat.le_of_ble_eq_true rfl, Nat.le_of_ble_eq_true rfl⟩ (Nat.le_of_ble_eq_true rfl) ⟨rfl, rfl⟩ ⟨Nat.le_of_ble_eq_true rfl, Nat.le_of_ble_eq_true rfl⟩ dL_law_512 (k_SI (fun v2 S1 h2 => ?_))
  obtain ⟨rfl, hJ9⟩ := sm_correct hJ h1 h2
  refine y_eqj hB 851 dL_law_515 (by decide) ?_
  exact hNX C1 S1 hJ9
set_option maxHeartbeats 4000000 in
theorem lc_type (hB : Bx x G b0 RL cL_law 8 ret room_1 nm) (hX : va_X b L xs (gs x) (gs x).heap) (hbl : b < (gs x).heap.size) (hb0 : b < b0) (hZ : Zs b0 (gs x)) (hL : L ≤ 2048) (hi : 0 ≤ k ∧ 4 * k + 3 < (L : Int)) (hJ : JJ C S k) (hNX : NX x G b0 b k) : YM x G b0 586 9472 C S 520 [(3, .int (iI (4 * k))), (2, .ref (ad b0 578)), (1, .ref (ad b0 0)), (0, .ref b)] [] := by
  have hN : k ≤ 512 := by omega
  have hD := hJ.1.dk
  have hM := hJ.1.mo
  have hhf := hJ.2.1.1
  have hhs := hJ.2.1.2.1
  have hr := hJ.2.2.2.2
  have h4 : 0 ≤ S 578 9 ∧ S 578 9 ≤ 4 := by rw [hJ.2.1.2.2]; exact hhs
  obtain ⟨u, eu⟩ : ∃ u : Int, (xs (4 * k + 1).toNat).toInt = u := ⟨_, rfl⟩
  have hu : -2147483648 ≤ u ∧ u ≤ 2147483647 := by rw [← eu]; exact iI_ofb _
  obtain ⟨t, et⟩ : ∃ t : Int, (xs (4 * k + 2).toNat).toInt = t := ⟨_, rfl⟩
  have ht : -2147483648 ≤ t ∧ t ≤ 2147483647 := by rw [← et]; exact iI_ofb _
  obtain ⟨z, ez⟩ : ∃ z : Int, (xs (4 * k + 3).toNat).toInt = z := ⟨_, rfl⟩
  have hz : -2147483648 ≤ z ∧ z ≤ 2147483647 := by rw [← ez]; exact iI_ofb _
  refine y_aload_n hB 2 dL_law_520 rfl rfl ?_
  refine y_aload_n hB 3 dL_law_521 rfl rfl ?_
  refine y_iload_n hB 0 dL_law_522 rfl rfl ?_
  refine y_iconst (v := 1) hB dL_law_523 rfl ?_
  refine y_iadd (t := 4 * k + 1) hB dL_law_524 (by omega) ?_
  refine y_scr hB hX hbl hb0 (by omega) hL eu dL_law_525 ?_
  refine y_i2c hB dL_law_526 ?_
  refine m_V hB msX6_type q600 (tX6_type _ G b0 C S (chV (iI u)) (chV_b _) hr.1.1) (t := 0) (by decide) (by decide) rfl rfl rfl rfl rfl ⟨Nat.le_of_ble_eq_true rfl, Nat.le_of_ble_eq_true rfl⟩ (Nat.le_of_ble_eq_true rfl) ⟨rfl, rfl⟩ ⟨Nat.le_of_ble_eq_true rfl, Nat.le_of_ble_eq_true rfl⟩ dL_law_527 (k_WI (fun v1 C1 h1 => ?_))
  refine y_aload_n hB 1 dL_law_530 rfl rfl ?_
  refine y_aload_n hB 3 dL_law_531 rfl rfl ?_
  refine y_iload_n hB 0 dL_law_532 rfl rfl ?_
  refine y_iconst (v := 1) hB dL_law_533 rfl ?_
  refine y_iadd (t := 4 * k + 1) hB dL_law_534 (by omega) ?_
  refine y_scr hB hX hbl hb0 (by omega) hL eu dL_law_535 ?_
  refine y_i2c hB dL_law_536 ?_
  refine m_V hB msX7_type q950 (tX7_type _ G b0 C1 S (chV (iI u)) (chV_b _) (by rw [hr.2.2.1]; exact hr.1.1)) (t := 20) (by decide) (by decide) rfl rfl rfl rfl rfl ⟨Nat.le_of_ble_eq_true rfl, Nat.le_of_ble_eq_true rfl⟩ (Nat.le_of_ble_eq_true rfl) ⟨rfl, rfl⟩ ⟨Nat.le_of_ble_eq_true rfl, Nat.le_of_ble_eq_true rfl⟩ dL_law_537 (k_SI (fun v2 S1 h2 => ?_))
  obtain ⟨rfl, hJ9⟩ := sm_type (chV_b _) hJ h1 h2
  refine y_eqj hB 851 dL_law_540 (by decide) ?_
  exact hNX C1 S1 hJ9
set_option maxHeartbeats 4000000 in
theorem lc_clearText (hB : Bx x G b0 RL cL_law 8 ret room_1 nm) (hX : va_X b L xs (gs x) (gs x).heap) (hbl : b < (gs x).heap.size) (hb0 : b < b0) (hZ : Zs b0 (gs x)) (hL : L ≤ 2048) (hi : 0 ≤ k ∧ 4 * k + 3 < (L : Int)) (hJ : JJ C S k) (hNX : NX x G b0 b k) : YM x G b0 586 9472 C S 545 [(3, .int (iI (4 * k))), (2, .ref (ad b0 578)), (1, .ref (ad b0 0)), (0, .ref b)] [] := by
  have hN : k ≤ 512 := by omega
  have hD := hJ.1.dk
  have hM := hJ.1.mo
  have hhf := hJ.2.1.1
  have hhs := hJ.2.1.2.1
  have hr := hJ.2.2.2.2
  have h4 : 0 ≤ S 578 9 ∧ S 578 9 ≤ 4 := by rw [hJ.2.1.2.2]; exact hhs
  obtain ⟨u, eu⟩ : ∃ u : Int, (xs (4 * k + 1).toNat).toInt = u := ⟨_, rfl⟩
  have hu : -2147483648 ≤ u ∧ u ≤ 2147483647 := by rw [← eu]; exact iI_ofb _
  obtain ⟨t, et⟩ : ∃ t : Int, (xs (4 * k + 2).toNat).toInt = t := ⟨_, rfl⟩
  have ht : -2147483648 ≤ t ∧ t ≤ 2147483647 := by rw [← et]; exact iI_ofb _
  obtain ⟨z, ez⟩ : ∃ z : Int, (xs (4 * k + 3).toNat).toInt = z := ⟨_, rfl⟩
  have hz : -2147483648 ≤ z ∧ z ≤ 2147483647 := by rw [← ez]; exact iI_ofb _
  refine y_aload_n hB 2 dL_law_545 rfl rfl ?_
  refine m_V hB msX6_clearText q612 (tX6_clearText _ G b0 C S ) (t := 0) (by decide) (by decide) rfl rfl rfl rfl rfl ⟨Nat.le_of_ble_eq_true rfl, Nat.le_of_ble_eq_true rfl⟩ (Nat.le_of_ble_eq_true rfl) ⟨rfl, rfl⟩ ⟨Nat.le_of_ble_eq_true rfl, Nat.le_of_ble_eq_true rfl⟩ dL_law_546 (k_WI (fun v1 C1 h1 => ?_))
  refine y_aload_n hB 1 dL_law_549 rfl rfl ?_
  refine m_V hB msX7_clearText q954 (tX7_clearText _ G b0 C1 S ) (t := 20) (by decide) (by decide) rfl rfl rfl rfl rfl ⟨Nat.le_of_ble_eq_true rfl, Nat.le_of_ble_eq_true rfl⟩ (Nat.le_of_ble_eq_true rfl) ⟨rfl, rfl⟩ ⟨Nat.le_of_ble_eq_true rfl, Nat.le_of_ble_eq_true rfl⟩ dL_law_550 (k_SI (fun v2 S1 h2 => ?_))
  obtain ⟨rfl, hJ9⟩ := sm_clearText hJ h1 h2
  refine y_eqj hB 851 dL_law_553 (by decide) ?_
  exact hNX C1 S1 hJ9
set_option maxHeartbeats 4000000 in
theorem lc_undo (hB : Bx x G b0 RL cL_law 8 ret room_1 nm) (hX : va_X b L xs (gs x) (gs x).heap) (hbl : b < (gs x).heap.size) (hb0 : b < b0) (hZ : Zs b0 (gs x)) (hL : L ≤ 2048) (hi : 0 ≤ k ∧ 4 * k + 3 < (L : Int)) (hJ : JJ C S k) (hNX : NX x G b0 b k) : YM x G b0 586 9472 C S 558 [(3, .int (iI (4 * k))), (2, .ref (ad b0 578)), (1, .ref (ad b0 0)), (0, .ref b)] [] := by
  have hN : k ≤ 512 := by omega
  have hD := hJ.1.dk
  have hM := hJ.1.mo
  have hhf := hJ.2.1.1
  have hhs := hJ.2.1.2.1
  have hr := hJ.2.2.2.2
  have h4 : 0 ≤ S 578 9 ∧ S 578 9 ≤ 4 := by rw [hJ.2.1.2.2]; exact hhs
  obtain ⟨u, eu⟩ : ∃ u : Int, (xs (4 * k + 1).toNat).toInt = u := ⟨_, rfl⟩
  have hu : -2147483648 ≤ u ∧ u ≤ 2147483647 := by rw [← eu]; exact iI_ofb _
  obtain ⟨t, et⟩ : ∃ t : Int, (xs (4 * k + 2).toNat).toInt = t := ⟨_, rfl⟩
  have ht : -2147483648 ≤ t ∧ t ≤ 2147483647 := by rw [← et]; exact iI_ofb _
  obtain ⟨z, ez⟩ : ∃ z : Int, (xs (4 * k + 3).toNat).toInt = z := ⟨_, rfl⟩
  have hz : -2147483648 ≤ z ∧ z ≤ 2147483647 := by rw [← ez]; exact iI_ofb _
  refine y_aload_n hB 2 dL_law_558 rfl rfl ?_
  refine m_V hB msX6_undo q620 (tX6_undo _ G b0 C S k hD hN hhf hhs (fun z => (hJ.2.2.1 (C 169 2 - 1) (by omega) (by omega)).1.2.1.1)) (t := 0) (by decide) (by decide) rfl rfl rfl rfl rfl ⟨Nat.le_of_ble_eq_true rfl, Nat.le_of_ble_eq_true rfl⟩ (Nat.le_of_ble_eq_true rfl) ⟨rfl, rfl⟩ ⟨Nat.le_of_ble_eq_true rfl, Nat.le_of_ble_eq_true rfl⟩ dL_law_559 (k_WI (fun v1 C1 h1 => ?_))
  refine y_aload_n hB 1 dL_law_562 rfl rfl ?_
  refine m_V hB msX7_undo q958 (tX7_undo _ G b0 C1 S h4) (t := 20) (by decide) (by decide) rfl rfl rfl rfl rfl ⟨Nat.le_of_ble_eq_true rfl, Nat.le_of_ble_eq_true rfl⟩ (Nat.le_of_ble_eq_true rfl) ⟨rfl, rfl⟩ ⟨Nat.le_of_ble_eq_true rfl, Nat.le_of_ble_eq_true rfl⟩ dL_law_563 (k_SI (fun v2 S1 h2 => ?_))
  obtain ⟨rfl, hJ9⟩ := sm_undo hJ h1 h2
  refine y_eqj hB 851 dL_law_566 (by decide) ?_
  exact hNX C1 S1 hJ9
set_option maxHeartbeats 4000000 in
theorem lc_keep (hB : Bx x G b0 RL cL_law 8 ret room_1 nm) (hX : va_X b L xs (gs x) (gs x).heap) (hbl : b < (gs x).heap.size) (hb0 : b < b0) (hZ : Zs b0 (gs x)) (hL : L ≤ 2048) (hi : 0 ≤ k ∧ 4 * k + 3 < (L : Int)) (hJ : JJ C S k) (hNX : NX x G b0 b k) : YM x G b0 586 9472 C S 571 [(3, .int (iI (4 * k))), (2, .ref (ad b0 578)), (1, .ref (ad b0 0)), (0, .ref b)] [] := by
  have hN : k ≤ 512 := by omega
  have hD := hJ.1.dk
  have hM := hJ.1.mo
  have hhf := hJ.2.1.1
  have hhs := hJ.2.1.2.1
  have hr := hJ.2.2.2.2
  have h4 : 0 ≤ S 578 9 ∧ S 578 9 ≤ 4 := by rw [hJ.2.1.2.2]; exact hhs
  obtain ⟨u, eu⟩ : ∃ u : Int, (xs (4 * k + 1).toNat).toInt = u := ⟨_, rfl⟩
  have hu : -2147483648 ≤ u ∧ u ≤ 2147483647 := by rw [← eu]; exact iI_ofb _
  obtain ⟨t, et⟩ : ∃ t : Int, (xs (4 * k + 2).toNat).toInt = t := ⟨_, rfl⟩
  have ht : -2147483648 ≤ t ∧ t ≤ 2147483647 := by rw [← et]; exact iI_ofb _
  obtain ⟨z, ez⟩ : ∃ z : Int, (xs (4 * k + 3).toNat).toInt = z := ⟨_, rfl⟩
  have hz : -2147483648 ≤ z ∧ z ≤ 2147483647 := by rw [← ez]; exact iI_ofb _
  refine y_aload_n hB 2 dL_law_571 rfl rfl ?_
  refine m_V hB msX6_keep q632 (tX6_keep _ G b0 C S k hD hN hhf hhs) (t := 0) (by decide) (by decide) rfl rfl rfl rfl rfl ⟨Nat.le_of_ble_eq_true rfl, Nat.le_of_ble_eq_true rfl⟩ (Nat.le_of_ble_eq_true rfl) ⟨rfl, rfl⟩ ⟨Nat.le_of_ble_eq_true rfl, Nat.le_of_ble_eq_true rfl⟩ dL_law_572 (k_WI (fun v1 C1 h1 => ?_))
  refine y_aload_n hB 1 dL_law_575 rfl rfl ?_
  refine m_V hB msX7_keep q962 (tX7_keep _ G b0 C1 S ) (t := 20) (by decide) (by decide) rfl rfl rfl rfl rfl ⟨Nat.le_of_ble_eq_true rfl, Nat.le_of_ble_eq_true rfl⟩ (Nat.le_of_ble_eq_true rfl) ⟨rfl, rfl⟩ ⟨Nat.le_of_ble_eq_true rfl, Nat.le_of_ble_eq_true rfl⟩ dL_law_576 (k_SI (fun v2 S1 h2 => ?_))
  obtain ⟨rfl, hJ9⟩ := sm_keep hJ h1 h2
  refine y_eqj hB 851 dL_law_579 (by decide) ?_
  exact hNX C1 S1 hJ9
set_option maxHeartbeats 4000000 in
theorem lc_restore (hB : Bx x G b0 RL cL_law 8 ret room_1 nm) (hX : va_X b L xs (gs x) (gs x).heap) (hbl : b < (gs x).heap.size) (hb0 : b < b0) (hZ : Zs b0 (gs x)) (hL : L ≤ 2048) (hi : 0 ≤ k ∧ 4 * k + 3 < (L : Int)) (hJ : JJ C S k) (hNX : NX x G b0 b k) : YM x G b0 586 9472 C S 584 [(3, .int (iI (4 * k))), (2, .ref (ad b0 578)), (1, .ref (ad b0 0)), (0, .ref b)] [] := by
  have hN : k ≤ 512 := by omega
  have hD := hJ.1.dk
  have hM := hJ.1.mo
  have hhf := hJ.2.1.1
  have hhs := hJ.2.1.2.1
  have hr := hJ.2.2.2.2
  have h4 : 0 ≤ S 578 9 ∧ S 578 9 ≤ 4 := by rw [hJ.2.1.2.2]; exact hhs
  obtain ⟨u, eu⟩ : ∃ u : Int, (xs (4 * k + 1).toNat).toInt = u := ⟨_, rfl⟩
  have hu : -2147483648 ≤ u ∧ u ≤ 2147483647 := by rw [← eu]; exact iI_ofb _
  obtain ⟨t, et⟩ : ∃ t : Int, (xs (4 * k + 2).toNat).toInt = t := ⟨_, rfl⟩
  have ht : -2147483648 ≤ t ∧ t ≤ 2147483647 := by rw [← et]; exact iI_ofb _
  obtain ⟨z, ez⟩ : ∃ z : Int, (xs (4 * k + 3).toNat).toInt = z := ⟨_, rfl⟩
  have hz : -2147483648 ≤ z ∧ z ≤ 2147483647 := by rw [← ez]; exact iI_ofb _
  refine y_aload_n hB 2 dL_law_584 rfl rfl ?_
  refine m_V hB msX6_restore q637 (tX6_restore _ G b0 C S k hD hN hhf hhs hJ.2.2.2.1.1 hJ.2.2.2.1.2.2.2) (t := 0) (by decide) (by decide) rfl rfl rfl rfl rfl ⟨Nat.le_of_ble_eq_true rfl, Nat.le_of_ble_eq_true rfl⟩ (Nat.le_of_ble_eq_true rfl) ⟨rfl, rfl⟩ ⟨Nat.le_of_ble_eq_true rfl, Nat.le_of_ble_eq_true rfl⟩ dL_law_585 (k_WI (fun v1 C1 h1 => ?_))
  refine y_aload_n hB 1 dL_law_588 rfl rfl ?_
  refine m_V hB msX7_restore q966 (tX7_restore _ G b0 C1 S h4 (by rw [hJ.2.2.2.1.2.1]; exact hJ.2.2.2.1.1)) (t := 20) (by decide) (by decide) rfl rfl rfl rfl rfl ⟨Nat.le_of_ble_eq_true rfl, Nat.le_of_ble_eq_true rfl⟩ (Nat.le_of_ble_eq_true rfl) ⟨rfl, rfl⟩ ⟨Nat.le_of_ble_eq_true rfl, Nat.le_of_ble_eq_true rfl⟩ dL_law_589 (k_SI (fun v2 S1 h2 => ?_))
  obtain ⟨rfl, hJ9⟩ := sm_restore hJ h1 h2
  refine y_eqj hB 851 dL_law_592 (by decide) ?_
  exact hNX C1 S1 hJ9
set_option maxHeartbeats 4000000 in
theorem lc_person (hB : Bx x G b0 RL cL_law 8 ret room_1 nm) (hX : va_X b L xs (gs x) (gs x).heap) (hbl : b < (gs x).heap.size) (hb0 : b < b0) (hZ : Zs b0 (gs x)) (hL : L ≤ 2048) (hi : 0 ≤ k ∧ 4 * k + 3 < (L : Int)) (hJ : JJ C S k) (hNX : NX x G b0 b k) : YM x G b0 586 9472 C S 597 [(3, .int (iI (4 * k))), (2, .ref (ad b0 578)), (1, .ref (ad b0 0)), (0, .ref b)] [] := by
  have hN : k ≤ 512 := by omega
  have hD := hJ.1.dk
  have hM := hJ.1.mo
  have hhf := hJ.2.1.1
  have hhs := hJ.2.1.2.1
  have hr := hJ.2.2.2.2
  have h4 : 0 ≤ S 578 9 ∧ S 578 9 ≤ 4 := by rw [hJ.2.1.2.2]; exact hhs
  obtain ⟨u, eu⟩ : ∃ u : Int, (xs (4 * k + 1).toNat).toInt = u := ⟨_, rfl⟩
  have hu : -2147483648 ≤ u ∧ u ≤ 2147483647 := by rw [← eu]; exact iI_ofb _
  obtain ⟨t, et⟩ : ∃ t : Int, (xs (4 * k + 2).toNat).toInt = t := ⟨_, rfl⟩
  have ht : -2147483648 ≤ t ∧ t ≤ 2147483647 := by rw [← et]; exact iI_ofb _
  obtain ⟨z, ez⟩ : ∃ z : Int, (xs (4 * k + 3).toNat).toInt = z := ⟨_, rfl⟩
  have hz : -2147483648 ≤ z ∧ z ≤ 2147483647 := by rw [← ez]; exact iI_ofb _
  refine y_aload_n hB 2 dL_law_597 rfl rfl ?_
  refine y_aload_n hB 3 dL_law_598 rfl rfl ?_
  refine y_iload_n hB 0 dL_law_599 rfl rfl ?_
  refine y_iconst (v := 1) hB dL_law_600 rfl ?_
  refine y_iadd (t := 4 * k + 1) hB dL_law_601 (by omega) ?_
  refine y_scr hB hX hbl hb0 (by omega) hL eu dL_law_602 ?_
  refine y_aload_n hB 3 dL_law_603 rfl rfl ?_
  refine y_iload_n hB 0 dL_law_604 rfl rfl ?_
  refine y_iconst (v := 2) hB dL_law_605 rfl ?_
  refine y_iadd (t := 4 * k + 2) hB dL_law_606 (by omega) ?_
  refine y_scr hB hX hbl hb0 (by omega) hL et dL_law_607 ?_
  refine m_V hB msX6_person q641 (tX6_person _ G b0 C S u t k hu ht hD hN hhf hhs) (t := 0) (by decide) (by decide) rfl rfl rfl rfl rfl ⟨Nat.le_of_ble_eq_true rfl, Nat.le_of_ble_eq_true rfl⟩ (Nat.le_of_ble_eq_true rfl) ⟨rfl, rfl⟩ ⟨Nat.le_of_ble_eq_true rfl, Nat.le_of_ble_eq_true rfl⟩ dL_law_608 (k_RI (fun v1 h1 => ?_))
  refine y_aload_n hB 1 dL_law_611 rfl rfl ?_
  refine y_aload_n hB 3 dL_law_612 rfl rfl ?_
  refine y_iload_n hB 0 dL_law_613 rfl rfl ?_
  refine y_iconst (v := 1) hB dL_law_614 rfl ?_
  refine y_iadd (t := 4 * k + 1) hB dL_law_615 (by omega) ?_
  refine y_scr hB hX hbl hb0 (by omega) hL eu dL_law_616 ?_
  refine y_aload_n hB 3 dL_law_617 rfl rfl ?_
  refine y_iload_n hB 0 dL_law_618 rfl rfl ?_
  refine y_iconst (v := 2) hB dL_law_619 rfl ?_
  refine y_iadd (t := 4 * k + 2) hB dL_law_620 (by omega) ?_
  refine y_scr hB hX hbl hb0 (by omega) hL et dL_law_621 ?_
  refine m_V hB msX7_person q970 (tX7_person _ G b0 C S u t k hu ht hM hN) (t := 20) (by decide) (by decide) rfl rfl rfl rfl rfl ⟨Nat.le_of_ble_eq_true rfl, Nat.le_of_ble_eq_true rfl⟩ (Nat.le_of_ble_eq_true rfl) ⟨rfl, rfl⟩ ⟨Nat.le_of_ble_eq_true rfl, Nat.le_of_ble_eq_true rfl⟩ dL_law_622 (k_RI (fun v2 h2 => ?_))
  obtain rfl := sm_person hJ hN h1 h2
  refine y_eqj hB 851 dL_law_625 (by decide) ?_
  exact hNX C S (JJ_mono hJ)
set_option maxHeartbeats 4000000 in
theorem lc_fact (hB : Bx x G b0 RL cL_law 8 ret room_1 nm) (hX : va_X b L xs (gs x) (gs x).heap) (hbl : b < (gs x).heap.size) (hb0 : b < b0) (hZ : Zs b0 (gs x)) (hL : L ≤ 2048) (hi : 0 ≤ k ∧ 4 * k + 3 < (L : Int)) (hJ : JJ C S k) (hNX : NX x G b0 b k) : YM x G b0 586 9472 C S 630 [(3, .int (iI (4 * k))), (2, .ref (ad b0 578)), (1, .ref (ad b0 0)), (0, .ref b)] [] := by
  have hN : k ≤ 512 := by omega
  have hD := hJ.1.dk
  have hM := hJ.1.mo
  have hhf := hJ.2.1.1
  have hhs := hJ.2.1.2.1
  have hr := hJ.2.2.2.2
  have h4 : 0 ≤ S 578 9 ∧ S 578 9 ≤ 4 := by rw [hJ.2.1.2.2]; exact hhs
  obtain ⟨u, eu⟩ : ∃ u : Int, (xs (4 * k + 1).toNat).toInt = u := ⟨_, rfl⟩
  have hu : -2147483648 ≤ u ∧ u ≤ 2147483647 := by rw [← eu]; exact iI_ofb _
  obtain ⟨t, et⟩ : ∃ t : Int, (xs (4 * k + 2).toNat).toInt = t := ⟨_, rfl⟩
  have ht : -2147483648 ≤ t ∧ t ≤ 2147483647 := by rw [← et]; exact iI_ofb _
  obtain ⟨z, ez⟩ : ∃ z : Int, (xs (4 * k + 3).toNat).toInt = z := ⟨_, rfl⟩
  have hz : -2147483648 ≤ z ∧ z ≤ 2147483647 := by rw [← ez]; exact iI_ofb _
  refine y_aload_n hB 2 dL_law_630 rfl rfl ?_
  refine y_aload_n hB 3 dL_law_631 rfl rfl ?_
  refine y_iload_n hB 0 dL_law_632 rfl rfl ?_
  refine y_iconst (v := 1) hB dL_law_633 rfl ?_
  refine y_iadd (t := 4 * k + 1) hB dL_law_634 (by omega) ?_
  refine y_scr hB hX hbl hb0 (by omega) hL eu dL_law_635 ?_
  refine y_aload_n hB 3 dL_law_636 rfl rfl ?_
  refine y_iload_n hB 0 dL_law_637 rfl rfl ?_
  refine y_iconst (v := 2) hB dL_law_638 rfl ?_
  refine y_iadd (t := 4 * k + 2) hB dL_law_639 (by omega) ?_
  refine y_scr hB hX hbl hb0 (by omega) hL et dL_law_640 ?_
  refine y_aload_n hB 3 dL_law_641 rfl rfl ?_
  refine y_iload_n hB 0 dL_law_642 rfl rfl ?_
  refine y_iconst (v := 3) hB dL_law_643 rfl ?_
  refine y_iadd (t := 4 * k + 3) hB dL_law_644 (by omega) ?_
  refine y_scr hB hX hbl hb0 (by omega) hL ez dL_law_645 ?_
  refine m_V hB msX6_fact q661 (tX6_fact _ G b0 C S u t z k hu ht hz hD hN hhf hhs) (t := 0) (by decide) (by decide) rfl rfl rfl rfl rfl ⟨Nat.le_of_ble_eq_true rfl, Nat.le_of_ble_eq_true rfl⟩ (Nat.le_of_ble_eq_true rfl) ⟨rfl, rfl⟩ ⟨Nat.le_of_ble_eq_true rfl, Nat.le_of_ble_eq_true rfl⟩ dL_law_646 (k_RI (fun v1 h1 => ?_))
  refine y_aload_n hB 1 dL_law_649 rfl rfl ?_
  refine y_aload_n hB 3 dL_law_650 rfl rfl ?_
  refine y_iload_n hB 0 dL_law_651 rfl rfl ?_
  refine y_iconst (v := 1) hB dL_law_652 rfl ?_
  refine y_iadd (t := 4 * k + 1) hB dL_law_653 (by omega) ?_
  refine y_scr hB hX hbl hb0 (by omega) hL eu dL_law_654 ?_
  refine y_aload_n hB 3 dL_law_655 rfl rfl ?_
  refine y_iload_n hB 0 dL_law_656 rfl rfl ?_
  refine y_iconst (v := 2) hB dL_law_657 rfl ?_
  refine y_iadd (t := 4 * k + 2) hB dL_law_658 (by omega) ?_
  refine y_scr hB hX hbl hb0 (by omega) hL et dL_law_659 ?_
  refine y_aload_n hB 3 dL_law_660 rfl rfl ?_
  refine y_iload_n hB 0 dL_law_661 rfl rfl ?_
  refine y_iconst (v := 3) hB dL_law_662 rfl ?_
  refine y_iadd (t := 4 * k + 3) hB dL_law_663 (by omega) ?_
  refine y_scr hB hX hbl hb0 (by omega) hL ez dL_law_664 ?_
  refine m_V hB msX7_fact q974 (tX7_fact _ G b0 C S u t z k hu ht hz hM hN) (t := 20) (by decide) (by decide) rfl rfl rfl rfl rfl ⟨Nat.le_of_ble_eq_true rfl, Nat.le_of_ble_eq_true rfl⟩ (Nat.le_of_ble_eq_true rfl) ⟨rfl, rfl⟩ ⟨Nat.le_of_ble_eq_true rfl, Nat.le_of_ble_eq_true rfl⟩ dL_law_665 (k_RI (fun v2 h2 => ?_))
  obtain rfl := sm_fact hJ hN h1 h2
  refine y_eqj hB 851 dL_law_668 (by decide) ?_
  exact hNX C S (JJ_mono hJ)
set_option maxHeartbeats 4000000 in
theorem lc_worth (hB : Bx x G b0 RL cL_law 8 ret room_1 nm) (hX : va_X b L xs (gs x) (gs x).heap) (hbl : b < (gs x).heap.size) (hb0 : b < b0) (hZ : Zs b0 (gs x)) (hL : L ≤ 2048) (hi : 0 ≤ k ∧ 4 * k + 3 < (L : Int)) (hJ : JJ C S k) (hNX : NX x G b0 b k) : YM x G b0 586 9472 C S 673 [(3, .int (iI (4 * k))), (2, .ref (ad b0 578)), (1, .ref (ad b0 0)), (0, .ref b)] [] := by
  have hN : k ≤ 512 := by omega
  have hD := hJ.1.dk
  have hM := hJ.1.mo
  have hhf := hJ.2.1.1
  have hhs := hJ.2.1.2.1
  have hr := hJ.2.2.2.2
  have h4 : 0 ≤ S 578 9 ∧ S 578 9 ≤ 4 := by rw [hJ.2.1.2.2]; exact hhs
  obtain ⟨u, eu⟩ : ∃ u : Int, (xs (4 * k + 1).toNat).toInt = u := ⟨_, rfl⟩
  have hu : -2147483648 ≤ u ∧ u ≤ 2147483647 := by rw [← eu]; exact iI_ofb _
  obtain ⟨t, et⟩ : ∃ t : Int, (xs (4 * k + 2).toNat).toInt = t := ⟨_, rfl⟩
  have ht : -2147483648 ≤ t ∧ t ≤ 2147483647 := by rw [← et]; exact iI_ofb _
  obtain ⟨z, ez⟩ : ∃ z : Int, (xs (4 * k + 3).toNat).toInt = z := ⟨_, rfl⟩
  have hz : -2147483648 ≤ z ∧ z ≤ 2147483647 := by rw [← ez]; exact iI_ofb _
  refine y_aload_n hB 2 dL_law_673 rfl rfl ?_
  refine y_aload_n hB 3 dL_law_674 rfl rfl ?_
  refine y_iload_n hB 0 dL_law_675 rfl rfl ?_
  refine y_iconst (v := 1) hB dL_law_676 rfl ?_
  refine y_iadd (t := 4 * k + 1) hB dL_law_677 (by omega) ?_
  refine y_scr hB hX hbl hb0 (by omega) hL eu dL_law_678 ?_
  refine m_V hB msX6_worth q672 (tX6_worth _ G b0 C S u k hu hD hN hhf hhs) (t := 0) (by decide) (by decide) rfl rfl rfl rfl rfl ⟨Nat.le_of_ble_eq_true rfl, Nat.le_of_ble_eq_true rfl⟩ (Nat.le_of_ble_eq_true rfl) ⟨rfl, rfl⟩ ⟨Nat.le_of_ble_eq_true rfl, Nat.le_of_ble_eq_true rfl⟩ dL_law_679 (k_RF (fun v1 h1 => ?_))
  have hf := f2d_ok (pos_worth hJ hN h1)
  refine y_f2d hB hf.1 dL_law_682 ?_
  refine y_dstore (lv' := [(4, .double (FP.f2d v1)), (3, .int (iI (4 * k))), (2, .ref (ad b0 578)), (1, .ref (ad b0 0)), (0, .ref b)]) hB dL_law_683 (by decide) rfl ?_
  refine y_aload_n hB 2 dL_law_685 rfl rfl ?_
  refine y_aload_n hB 4 dL_law_686 rfl rfl ?_
  refine y_iload_n hB 1 dL_law_687 rfl rfl ?_
  refine y_iconst (v := 1) hB dL_law_688 rfl ?_
  refine y_iadd (t := 4 * k + 1) hB dL_law_689 (by omega) ?_
  refine y_scr hB hX hbl hb0 (by omega) hL eu dL_law_690 ?_
  refine m_V hB msX7_worth q988 (tX7_worth _ G b0 C S u k hu hM hN) (t := 20) (by decide) (by decide) rfl rfl rfl rfl rfl ⟨Nat.le_of_ble_eq_true rfl, Nat.le_of_ble_eq_true rfl⟩ (Nat.le_of_ble_eq_true rfl) ⟨rfl, rfl⟩ ⟨Nat.le_of_ble_eq_true rfl, Nat.le_of_ble_eq_true rfl⟩ dL_law_691 (k_RF (fun v2 h2 => ?_))
  obtain rfl := sm_worth hJ h1 h2
  refine y_f2d hB hf.1 dL_law_694 ?_
  refine y_dstore (lv' := [(6, .double (FP.f2d v1)), (4, .double (FP.f2d v1)), (3, .int (iI (4 * k))), (2, .ref (ad b0 578)), (1, .ref (ad b0 0)), (0, .ref b)]) hB dL_law_695 (by decide) rfl ?_
  refine y_dload hB 1 dL_law_697 rfl ?_
  refine y_dload hB 0 dL_law_699 rfl ?_
  refine y_dcmp hB dL_law_701 ?_
  refine y_if_eq hB 723 dL_law_702 (by decide) (by omega) (fun c_702 => ?_) (fun c_702 => absurd hf.2 c_702)
  refine y_goto hB 851 dL_law_723 (by decide) ?_
  refine y_sub (lv' := [(3, .int (iI (4 * k))), (2, .ref (ad b0 578)), (1, .ref (ad b0 0)), (0, .ref b)]) [2, 3, 4, 5] rfl ?_
  exact hNX C S (JJ_mono hJ)
set_option maxHeartbeats 4000000 in
theorem lc_urgent (hB : Bx x G b0 RL cL_law 8 ret room_1 nm) (hX : va_X b L xs (gs x) (gs x).heap) (hbl : b < (gs x).heap.size) (hb0 : b < b0) (hZ : Zs b0 (gs x)) (hL : L ≤ 2048) (hi : 0 ≤ k ∧ 4 * k + 3 < (L : Int)) (hJ : JJ C S k) (hNX : NX x G b0 b k) : YM x G b0 586 9472 C S 726 [(3, .int (iI (4 * k))), (2, .ref (ad b0 578)), (1, .ref (ad b0 0)), (0, .ref b)] [] := by
  have hN : k ≤ 512 := by omega
  have hD := hJ.1.dk
  have hM := hJ.1.mo
  have hhf := hJ.2.1.1
  have hhs := hJ.2.1.2.1
  have hr := hJ.2.2.2.2
  have h4 : 0 ≤ S 578 9 ∧ S 578 9 ≤ 4 := by rw [hJ.2.1.2.2]; exact hhs
  obtain ⟨u, eu⟩ : ∃ u : Int, (xs (4 * k + 1).toNat).toInt = u := ⟨_, rfl⟩
  have hu : -2147483648 ≤ u ∧ u ≤ 2147483647 := by rw [← eu]; exact iI_ofb _
  obtain ⟨t, et⟩ : ∃ t : Int, (xs (4 * k + 2).toNat).toInt = t := ⟨_, rfl⟩
  have ht : -2147483648 ≤ t ∧ t ≤ 2147483647 := by rw [← et]; exact iI_ofb _
  obtain ⟨z, ez⟩ : ∃ z : Int, (xs (4 * k + 3).toNat).toInt = z := ⟨_, rfl⟩
  have hz : -2147483648 ≤ z ∧ z ≤ 2147483647 := by rw [← ez]; exact iI_ofb _
  refine y_aload_n hB 2 dL_law_726 rfl rfl ?_
  refine y_aload_n hB 3 dL_law_727 rfl rfl ?_
  refine y_iload_n hB 0 dL_law_728 rfl rfl ?_
  refine y_iconst (v := 1) hB dL_law_729 rfl ?_
  refine y_iadd (t := 4 * k + 1) hB dL_law_730 (by omega) ?_
  refine y_scr hB hX hbl hb0 (by omega) hL eu dL_law_731 ?_
  refine m_V hB msX6_urgent q682 (tX6_urgent _ G b0 C S u k hu hD hN hhf hhs) (t := 0) (by decide) (by decide) rfl rfl rfl rfl rfl ⟨Nat.le_of_ble_eq_true rfl, Nat.le_of_ble_eq_true rfl⟩ (Nat.le_of_ble_eq_true rfl) ⟨rfl, rfl⟩ ⟨Nat.le_of_ble_eq_true rfl, Nat.le_of_ble_eq_true rfl⟩ dL_law_732 (k_WI (fun v1 C1 h1 => ?_))
  refine y_aload_n hB 1 dL_law_735 rfl rfl ?_
  refine y_aload_n hB 3 dL_law_736 rfl rfl ?_
  refine y_iload_n hB 0 dL_law_737 rfl rfl ?_
  refine y_iconst (v := 1) hB dL_law_738 rfl ?_
  refine y_iadd (t := 4 * k + 1) hB dL_law_739 (by omega) ?_
  refine y_scr hB hX hbl hb0 (by omega) hL eu dL_law_740 ?_
  refine m_V hB msX7_urgent q993 (tX7_urgent _ G b0 C1 S u k hu hM hN) (t := 20) (by decide) (by decide) rfl rfl rfl rfl rfl ⟨Nat.le_of_ble_eq_true rfl, Nat.le_of_ble_eq_true rfl⟩ (Nat.le_of_ble_eq_true rfl) ⟨rfl, rfl⟩ ⟨Nat.le_of_ble_eq_true rfl, Nat.le_of_ble_eq_true rfl⟩ dL_law_741 (k_RI (fun v2 h2 => ?_))
  obtain ⟨rfl, hJ9⟩ := sm_urgent hJ hN h1 h2
  refine y_eqj hB 851 dL_law_744 (by decide) ?_
  exact hNX C1 S (JJ_mono hJ9)
set_option maxHeartbeats 4000000 in
theorem lc_page (hB : Bx x G b0 RL cL_law 8 ret room_1 nm) (hX : va_X b L xs (gs x) (gs x).heap) (hbl : b < (gs x).heap.size) (hb0 : b < b0) (hZ : Zs b0 (gs x)) (hL : L ≤ 2048) (hi : 0 ≤ k ∧ 4 * k + 3 < (L : Int)) (hJ : JJ C S k) (hNX : NX x G b0 b k) : YM x G b0 586 9472 C S 749 [(3, .int (iI (4 * k))), (2, .ref (ad b0 578)), (1, .ref (ad b0 0)), (0, .ref b)] [] := by
  have hN : k ≤ 512 := by omega
  have hD := hJ.1.dk
  have hM := hJ.1.mo
  have hhf := hJ.2.1.1
  have hhs := hJ.2.1.2.1
  have hr := hJ.2.2.2.2
  have h4 : 0 ≤ S 578 9 ∧ S 578 9 ≤ 4 := by rw [hJ.2.1.2.2]; exact hhs
  obtain ⟨u, eu⟩ : ∃ u : Int, (xs (4 * k + 1).toNat).toInt = u := ⟨_, rfl⟩
  have hu : -2147483648 ≤ u ∧ u ≤ 2147483647 := by rw [← eu]; exact iI_ofb _
  obtain ⟨t, et⟩ : ∃ t : Int, (xs (4 * k + 2).toNat).toInt = t := ⟨_, rfl⟩
  have ht : -2147483648 ≤ t ∧ t ≤ 2147483647 := by rw [← et]; exact iI_ofb _
  obtain ⟨z, ez⟩ : ∃ z : Int, (xs (4 * k + 3).toNat).toInt = z := ⟨_, rfl⟩
  have hz : -2147483648 ≤ z ∧ z ≤ 2147483647 := by rw [← ez]; exact iI_ofb _
  refine y_aload_n hB 2 dL_law_749 rfl rfl ?_
  refine y_aload_n hB 3 dL_law_750 rfl rfl ?_
  refine y_iload_n hB 0 dL_law_751 rfl rfl ?_
  refine y_iconst (v := 1) hB dL_law_752 rfl ?_
  refine y_iadd (t := 4 * k + 1) hB dL_law_753 (by omega) ?_
  refine y_scr hB hX hbl hb0 (by omega) hL eu dL_law_754 ?_
  refine m_V hB msX6_page q693 (tX6_page _ G b0 C S u k hu hD hN hhf hhs) (t := 0) (by decide) (by decide) rfl rfl rfl rfl rfl ⟨Nat.le_of_ble_eq_true rfl, Nat.le_of_ble_eq_true rfl⟩ (Nat.le_of_ble_eq_true rfl) ⟨rfl, rfl⟩ ⟨Nat.le_of_ble_eq_true rfl, Nat.le_of_ble_eq_true rfl⟩ dL_law_755 (k_WI (fun v1 C1 h1 => ?_))
  refine y_aload_n hB 1 dL_law_758 rfl rfl ?_
  refine y_aload_n hB 3 dL_law_759 rfl rfl ?_
  refine y_iload_n hB 0 dL_law_760 rfl rfl ?_
  refine y_iconst (v := 1) hB dL_law_761 rfl ?_
  refine y_iadd (t := 4 * k + 1) hB dL_law_762 (by omega) ?_
  refine y_scr hB hX hbl hb0 (by omega) hL eu dL_law_763 ?_
  refine m_V hB msX7_page q997 (tX7_page _ G b0 C1 S u k hu hM hN) (t := 20) (by decide) (by decide) rfl rfl rfl rfl rfl ⟨Nat.le_of_ble_eq_true rfl, Nat.le_of_ble_eq_true rfl⟩ (Nat.le_of_ble_eq_true rfl) ⟨rfl, rfl⟩ ⟨Nat.le_of_ble_eq_true rfl, Nat.le_of_ble_eq_true rfl⟩ dL_law_764 (k_SI (fun v2 S1 h2 => ?_))
  obtain ⟨rfl, hJ9⟩ := sm_page hJ hN h1 h2
  refine y_eqj hB 851 dL_law_767 (by decide) ?_
  exact hNX C1 S1 (JJ_mono hJ9)
set_option maxHeartbeats 4000000 in
theorem lc_source (hB : Bx x G b0 RL cL_law 8 ret room_1 nm) (hX : va_X b L xs (gs x) (gs x).heap) (hbl : b < (gs x).heap.size) (hb0 : b < b0) (hZ : Zs b0 (gs x)) (hL : L ≤ 2048) (hi : 0 ≤ k ∧ 4 * k + 3 < (L : Int)) (hJ : JJ C S k) (hNX : NX x G b0 b k) : YM x G b0 586 9472 C S 772 [(3, .int (iI (4 * k))), (2, .ref (ad b0 578)), (1, .ref (ad b0 0)), (0, .ref b)] [] := by
  have hN : k ≤ 512 := by omega
  have hD := hJ.1.dk
  have hM := hJ.1.mo
  have hhf := hJ.2.1.1
  have hhs := hJ.2.1.2.1
  have hr := hJ.2.2.2.2
  have h4 : 0 ≤ S 578 9 ∧ S 578 9 ≤ 4 := by rw [hJ.2.1.2.2]; exact hhs
  obtain ⟨u, eu⟩ : ∃ u : Int, (xs (4 * k + 1).toNat).toInt = u := ⟨_, rfl⟩
  have hu : -2147483648 ≤ u ∧ u ≤ 2147483647 := by rw [← eu]; exact iI_ofb _
  obtain ⟨t, et⟩ : ∃ t : Int, (xs (4 * k + 2).toNat).toInt = t := ⟨_, rfl⟩
  have ht : -2147483648 ≤ t ∧ t ≤ 2147483647 := by rw [← et]; exact iI_ofb _
  obtain ⟨z, ez⟩ : ∃ z : Int, (xs (4 * k + 3).toNat).toInt = z := ⟨_, rfl⟩
  have hz : -2147483648 ≤ z ∧ z ≤ 2147483647 := by rw [← ez]; exact iI_ofb _
  refine y_aload_n hB 2 dL_law_772 rfl rfl ?_
  refine y_aload_n hB 3 dL_law_773 rfl rfl ?_
  refine y_iload_n hB 0 dL_law_774 rfl rfl ?_
  refine y_iconst (v := 1) hB dL_law_775 rfl ?_
  refine y_iadd (t := 4 * k + 1) hB dL_law_776 (by omega) ?_
  refine y_scr hB hX hbl hb0 (by omega) hL eu dL_law_777 ?_
  refine y_aload_n hB 3 dL_law_778 rfl rfl ?_
  refine y_iload_n hB 0 dL_law_779 rfl rfl ?_
  refine y_iconst (v := 2) hB dL_law_780 rfl ?_
  refine y_iadd (t := 4 * k + 2) hB dL_law_781 (by omega) ?_
  refine y_scr hB hX hbl hb0 (by omega) hL et dL_law_782 ?_
  refine m_V hB msX6_source q697 (tX6_source _ G b0 C S u t k hu ht hD hN hhf hhs) (t := 0) (by decide) (by decide) rfl rfl rfl rfl rfl ⟨Nat.le_of_ble_eq_true rfl, Nat.le_of_ble_eq_true rfl⟩ (Nat.le_of_ble_eq_true rfl) ⟨rfl, rfl⟩ ⟨Nat.le_of_ble_eq_true rfl, Nat.le_of_ble_eq_true rfl⟩ dL_law_783 (k_RI (fun v1 h1 => ?_))
  refine y_aload_n hB 1 dL_law_786 rfl rfl ?_
  refine y_aload_n hB 3 dL_law_787 rfl rfl ?_
  refine y_iload_n hB 0 dL_law_788 rfl rfl ?_
  refine y_iconst (v := 1) hB dL_law_789 rfl ?_
  refine y_iadd (t := 4 * k + 1) hB dL_law_790 (by omega) ?_
  refine y_scr hB hX hbl hb0 (by omega) hL eu dL_law_791 ?_
  refine y_aload_n hB 3 dL_law_792 rfl rfl ?_
  refine y_iload_n hB 0 dL_law_793 rfl rfl ?_
  refine y_iconst (v := 2) hB dL_law_794 rfl ?_
  refine y_iadd (t := 4 * k + 2) hB dL_law_795 (by omega) ?_
  refine y_scr hB hX hbl hb0 (by omega) hL et dL_law_796 ?_
  refine m_V hB msX7_source q1001 (tX7_source _ G b0 C S u t k hu ht hM hN) (t := 20) (by decide) (by decide) rfl rfl rfl rfl rfl ⟨Nat.le_of_ble_eq_true rfl, Nat.le_of_ble_eq_true rfl⟩ (Nat.le_of_ble_eq_true rfl) ⟨rfl, rfl⟩ ⟨Nat.le_of_ble_eq_true rfl, Nat.le_of_ble_eq_true rfl⟩ dL_law_797 (k_RI (fun v2 h2 => ?_))
  obtain rfl := sm_source hJ hN h1 h2
  refine y_eqj hB 851 dL_law_800 (by decide) ?_
  exact hNX C S (JJ_mono hJ)
set_option maxHeartbeats 4000000 in
theorem lc_staleIn (hB : Bx x G b0 RL cL_law 8 ret room_1 nm) (hX : va_X b L xs (gs x) (gs x).heap) (hbl : b < (gs x).heap.size) (hb0 : b < b0) (hZ : Zs b0 (gs x)) (hL : L ≤ 2048) (hi : 0 ≤ k ∧ 4 * k + 3 < (L : Int)) (hJ : JJ C S k) (hNX : NX x G b0 b k) : YM x G b0 586 9472 C S 805 [(3, .int (iI (4 * k))), (2, .ref (ad b0 578)), (1, .ref (ad b0 0)), (0, .ref b)] [] := by
  have hN : k ≤ 512 := by omega
  have hD := hJ.1.dk
  have hM := hJ.1.mo
  have hhf := hJ.2.1.1
  have hhs := hJ.2.1.2.1
  have hr := hJ.2.2.2.2
  have h4 : 0 ≤ S 578 9 ∧ S 578 9 ≤ 4 := by rw [hJ.2.1.2.2]; exact hhs
  obtain ⟨u, eu⟩ : ∃ u : Int, (xs (4 * k + 1).toNat).toInt = u := ⟨_, rfl⟩
  have hu : -2147483648 ≤ u ∧ u ≤ 2147483647 := by rw [← eu]; exact iI_ofb _
  obtain ⟨t, et⟩ : ∃ t : Int, (xs (4 * k + 2).toNat).toInt = t := ⟨_, rfl⟩
  have ht : -2147483648 ≤ t ∧ t ≤ 2147483647 := by rw [← et]; exact iI_ofb _
  obtain ⟨z, ez⟩ : ∃ z : Int, (xs (4 * k + 3).toNat).toInt = z := ⟨_, rfl⟩
  have hz : -2147483648 ≤ z ∧ z ≤ 2147483647 := by rw [← ez]; exact iI_ofb _
  refine y_aload_n hB 2 dL_law_805 rfl rfl ?_
  refine y_aload_n hB 3 dL_law_806 rfl rfl ?_
  refine y_iload_n hB 0 dL_law_807 rfl rfl ?_
  refine y_iconst (v := 1) hB dL_law_808 rfl ?_
  refine y_iadd (t := 4 * k + 1) hB dL_law_809 (by omega) ?_
  refine y_scr hB hX hbl hb0 (by omega) hL eu dL_law_810 ?_
  refine m_V hB msX6_staleIn q713 (tX6_staleIn _ G b0 C S u k hu hD hN hhf hhs) (t := 0) (by decide) (by decide) rfl rfl rfl rfl rfl ⟨Nat.le_of_ble_eq_true rfl, Nat.le_of_ble_eq_true rfl⟩ (Nat.le_of_ble_eq_true rfl) ⟨rfl, rfl⟩ ⟨Nat.le_of_ble_eq_true rfl, Nat.le_of_ble_eq_true rfl⟩ dL_law_811 (k_RI (fun v1 h1 => ?_))
  refine y_aload_n hB 1 dL_law_814 rfl rfl ?_
  refine y_aload_n hB 3 dL_law_815 rfl rfl ?_
  refine y_iload_n hB 0 dL_law_816 rfl rfl ?_
  refine y_iconst (v := 1) hB dL_law_817 rfl ?_
  refine y_iadd (t := 4 * k + 1) hB dL_law_818 (by omega) ?_
  refine y_scr hB hX hbl hb0 (by omega) hL eu dL_law_819 ?_
  refine m_V hB msX7_staleIn q1005 (tX7_staleIn _ G b0 C S u k hu hM hN) (t := 20) (by decide) (by decide) rfl rfl rfl rfl rfl ⟨Nat.le_of_ble_eq_true rfl, Nat.le_of_ble_eq_true rfl⟩ (Nat.le_of_ble_eq_true rfl) ⟨rfl, rfl⟩ ⟨Nat.le_of_ble_eq_true rfl, Nat.le_of_ble_eq_true rfl⟩ dL_law_820 (k_RI (fun v2 h2 => ?_))
  obtain rfl := sm_staleIn hJ hN h1 h2
  refine y_eqj hB 851 dL_law_823 (by decide) ?_
  exact hNX C S (JJ_mono hJ)
set_option maxHeartbeats 4000000 in
theorem lc_count (hB : Bx x G b0 RL cL_law 8 ret room_1 nm) (hX : va_X b L xs (gs x) (gs x).heap) (hbl : b < (gs x).heap.size) (hb0 : b < b0) (hZ : Zs b0 (gs x)) (hL : L ≤ 2048) (hi : 0 ≤ k ∧ 4 * k + 3 < (L : Int)) (hJ : JJ C S k) (hNX : NX x G b0 b k) : YM x G b0 586 9472 C S 828 [(3, .int (iI (4 * k))), (2, .ref (ad b0 578)), (1, .ref (ad b0 0)), (0, .ref b)] [] := by
  have hN : k ≤ 512 := by omega
  have hD := hJ.1.dk
  have hM := hJ.1.mo
  have hhf := hJ.2.1.1
  have hhs := hJ.2.1.2.1
  have hr := hJ.2.2.2.2
  have h4 : 0 ≤ S 578 9 ∧ S 578 9 ≤ 4 := by rw [hJ.2.1.2.2]; exact hhs
  obtain ⟨u, eu⟩ : ∃ u : Int, (xs (4 * k + 1).toNat).toInt = u := ⟨_, rfl⟩
  have hu : -2147483648 ≤ u ∧ u ≤ 2147483647 := by rw [← eu]; exact iI_ofb _
  obtain ⟨t, et⟩ : ∃ t : Int, (xs (4 * k + 2).toNat).toInt = t := ⟨_, rfl⟩
  have ht : -2147483648 ≤ t ∧ t ≤ 2147483647 := by rw [← et]; exact iI_ofb _
  obtain ⟨z, ez⟩ : ∃ z : Int, (xs (4 * k + 3).toNat).toInt = z := ⟨_, rfl⟩
  have hz : -2147483648 ≤ z ∧ z ≤ 2147483647 := by rw [← ez]; exact iI_ofb _
  refine y_aload_n hB 2 dL_law_828 rfl rfl ?_
  refine y_aload_n hB 3 dL_law_829 rfl rfl ?_
  refine y_iload_n hB 0 dL_law_830 rfl rfl ?_
  refine y_iconst (v := 1) hB dL_law_831 rfl ?_
  refine y_iadd (t := 4 * k + 1) hB dL_law_832 (by omega) ?_
  refine y_scr hB hX hbl hb0 (by omega) hL eu dL_law_833 ?_
  refine m_V hB msX6_count q721 (tX6_count _ G b0 C S u k hu hD hN hhf hhs) (t := 0) (by decide) (by decide) rfl rfl rfl rfl rfl ⟨Nat.le_of_ble_eq_true rfl, Nat.le_of_ble_eq_true rfl⟩ (Nat.le_of_ble_eq_true rfl) ⟨rfl, rfl⟩ ⟨Nat.le_of_ble_eq_true rfl, Nat.le_of_ble_eq_true rfl⟩ dL_law_834 (k_WI (fun v1 C1 h1 => ?_))
  refine y_aload_n hB 1 dL_law_837 rfl rfl ?_
  refine y_aload_n hB 3 dL_law_838 rfl rfl ?_
  refine y_iload_n hB 0 dL_law_839 rfl rfl ?_
  refine y_iconst (v := 1) hB dL_law_840 rfl ?_
  refine y_iadd (t := 4 * k + 1) hB dL_law_841 (by omega) ?_
  refine y_scr hB hX hbl hb0 (by omega) hL eu dL_law_842 ?_
  refine m_V hB msX7_count q1013 (tX7_count _ G b0 C1 S u k hu hM hN) (t := 20) (by decide) (by decide) rfl rfl rfl rfl rfl ⟨Nat.le_of_ble_eq_true rfl, Nat.le_of_ble_eq_true rfl⟩ (Nat.le_of_ble_eq_true rfl) ⟨rfl, rfl⟩ ⟨Nat.le_of_ble_eq_true rfl, Nat.le_of_ble_eq_true rfl⟩ dL_law_843 (k_SI (fun v2 S1 h2 => ?_))
  obtain ⟨rfl, hJ9⟩ := sm_count hJ hN h1 h2
  refine y_eqj hB 851 dL_law_846 (by decide) ?_
  exact hNX C1 S1 (JJ_mono hJ9)
end
