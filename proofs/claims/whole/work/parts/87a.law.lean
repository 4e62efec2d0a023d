theorem REL.ps {S T : PS} {n nr nh z tl pl : Nat} {wr br : Nat → Nat} {sp : Nat} (h : REL S T n nr nh z tl pl wr br sp) : ¬ sI T 6 0 5 = -1 := by
  obtain ⟨-, -, -, -, -, -, -, -, -, g5, -, -, hne⟩ := h.p
  rw [g5]
  exact hne

set_option maxHeartbeats 4000000 in
set_option maxRecDepth 100000 in
/-- the law: make -/
theorem law_make (l : Launch) {p : Program} {e : Env} {s : State} {m : MethodId} {args : Array Value} {below : List Frame} {meth : Method} {c : Code} {G M : GT} {A : Nat → Prop} {b L : Nat} {xs : Nat → Int32} {k : SK} {a0 a1 a2 : Nat} {S T : PS} {H : Heap} {locs : List Loc} {cells slots : Nat} {Q : State → Prop} {ls : Array Slot} {i : Nat} (hc : LX p l s m args meth c G M A b L xs k a0 a1 a2) (w : Wd G A s.heap S H locs) (u : Wd M A s.heap T H locs) (hr : RR S T) (hl : lv_has ls 8 (LV G M b i)) (hi : i + 5 ≤ L) (hf : cells ≤ room_1.cells ∧ slots ≤ room_1.slots) (K : ∀ S T H locs, Wd G A s.heap S H locs → Wd M A s.heap T H locs → RR S T → W p l e room_1 s m args below meth c H locs cells slots Q (F0 m 872 ls [])) : W p l e room_1 s m args below meth c H locs cells slots Q (F0 m 140 ls []) := by
  have hx := hc.1.1
  have hb := hc.1.2.1
  have hown := hc.1.2.2.2.1
  have hts := hc.1.2.2.2.2.1
  have hL := hc.2.2.2.1.2.2.2
  obtain ⟨hX, hM, hdj, hm79, hN79⟩ := hc.2.2.2.2.1
  obtain ⟨n, nr, nh, z, tl, pl, wr, br, sp, h⟩ := hr
  refine lv_aload_n hx hb dL_law_140 rfl (lv_at hl 1 rfl) ?_
  refine lv_aload_n hx hb dL_law_141 rfl (lv_at hl 0 rfl) ?_
  refine lv_iload hx hb dL_law_142 (lv_at hl 4 rfl) ?_
  refine lv_iconst (v := nI 1) hx hb dL_law_144 (by decide) ?_
  refine lv_iadd hx hb dL_law_145 ?_
  rw [nI_add]
  refine va_sld hx hb hc.2.2.2.1.1 hc.2.2.2.1.2.1 hc.2.2.2.1.2.2.1 w.2.2 (vp_in_nI (show i + 1 < L by omega) (by omega)) dL_law_146 ?_
  rw [nI_clamp (show i + 1 < 2 ^ 31 by omega)]
  refine lv_aload_n hx hb dL_law_147 rfl (lv_at hl 0 rfl) ?_
  refine lv_iload hx hb dL_law_148 (lv_at hl 4 rfl) ?_
  refine lv_iconst (v := nI 2) hx hb dL_law_150 (by decide) ?_
  refine lv_iadd hx hb dL_law_151 ?_
  rw [nI_add]
  refine va_sld hx hb hc.2.2.2.1.1 hc.2.2.2.1.2.1 hc.2.2.2.1.2.2.1 w.2.2 (vp_in_nI (show i + 2 < L by omega) (by omega)) dL_law_152 ?_
  rw [nI_clamp (show i + 2 < 2 ^ 31 by omega)]
  refine lv_aload_n hx hb dL_law_153 rfl (lv_at hl 0 rfl) ?_
  refine lv_iload hx hb dL_law_154 (lv_at hl 4 rfl) ?_
  refine lv_iconst (v := nI 3) hx hb dL_law_156 (by decide) ?_
  refine lv_iadd hx hb dL_law_157 ?_
  rw [nI_add]
  refine va_sld hx hb hc.2.2.2.1.1 hc.2.2.2.1.2.1 hc.2.2.2.1.2.2.1 w.2.2 (vp_in_nI (show i + 3 < L by omega) (by omega)) dL_law_158 ?_
  rw [nI_clamp (show i + 3 < 2 ^ 31 by omega)]
  refine c2I (n := 3) hc.1 w u hdj hl dL_law_159 (c_X5_make l G hX S h.lk n h.nm.1 h.nm.2.2 (xs (i + 1)) (xs (i + 2)) (xs (i + 3))) gL_law_X5_make rfl (by decide +kernel) rfl rfl (Nat.le_of_ble_eq_true rfl) ⟨(Nat.le_of_ble_eq_true rfl), (Nat.le_of_ble_eq_true rfl)⟩ (by decide) rfl (oP5 hX) hf (fun v1 S2 H locs hp1 w u => ?_)
  refine lv_aload_n hx hb dL_law_162 rfl (lv_at hl 2 rfl) ?_
  refine lv_aload_n hx hb dL_law_163 rfl (lv_at hl 0 rfl) ?_
  refine lv_iload hx hb dL_law_164 (lv_at hl 4 rfl) ?_
  refine lv_iconst (v := nI 1) hx hb dL_law_166 (by decide) ?_
  refine lv_iadd hx hb dL_law_167 ?_
  rw [nI_add]
  refine va_sld hx hb hc.2.2.2.1.1 hc.2.2.2.1.2.1 hc.2.2.2.1.2.2.1 w.2.2 (vp_in_nI (show i + 1 < L by omega) (by omega)) dL_law_168 ?_
  rw [nI_clamp (show i + 1 < 2 ^ 31 by omega)]
  refine lv_aload_n hx hb dL_law_169 rfl (lv_at hl 0 rfl) ?_
  refine lv_iload hx hb dL_law_170 (lv_at hl 4 rfl) ?_
  refine lv_iconst (v := nI 2) hx hb dL_law_172 (by decide) ?_
  refine lv_iadd hx hb dL_law_173 ?_
  rw [nI_add]
  refine va_sld hx hb hc.2.2.2.1.1 hc.2.2.2.1.2.1 hc.2.2.2.1.2.2.1 w.2.2 (vp_in_nI (show i + 2 < L by omega) (by omega)) dL_law_174 ?_
  rw [nI_clamp (show i + 2 < 2 ^ 31 by omega)]
  refine lv_aload_n hx hb dL_law_175 rfl (lv_at hl 0 rfl) ?_
  refine lv_iload hx hb dL_law_176 (lv_at hl 4 rfl) ?_
  refine lv_iconst (v := nI 3) hx hb dL_law_178 (by decide) ?_
  refine lv_iadd hx hb dL_law_179 ?_
  rw [nI_add]
  refine va_sld hx hb hc.2.2.2.1.1 hc.2.2.2.1.2.1 hc.2.2.2.1.2.2.1 w.2.2 (vp_in_nI (show i + 3 < L by omega) (by omega)) dL_law_180 ?_
  rw [nI_clamp (show i + 3 < 2 ^ 31 by omega)]
  refine c2I (n := 3) hc.2.1 u w hdj.sy hl dL_law_181 (c_X6_make l M hM T h.lm n h.nm.2.1 h.nm.2.2 (xs (i + 1)) (xs (i + 2)) (xs (i + 3))) gL_law_X6_make rfl (by decide +kernel) rfl rfl (Nat.le_of_ble_eq_true rfl) ⟨(Nat.le_of_ble_eq_true rfl), (Nat.le_of_ble_eq_true rfl)⟩ (by decide) rfl (oM6 hM) hf (fun v2 T2 H locs hp2 u w => ?_)
  obtain ⟨ev, hr2⟩ := st_make h hp1 hp2
  refine lv_icmp_eq (tgt := 872) hx hb dL_law_184 (by decide) (fun c_184 => ?_) (fun c_184 => absurd ev c_184)
  exact K _ _ _ _ w u hr2

set_option maxHeartbeats 4000000 in
set_option maxRecDepth 100000 in
/-- the law: nothing -/
theorem law_nothing (l : Launch) {p : Program} {e : Env} {s : State} {m : MethodId} {args : Array Value} {below : List Frame} {meth : Method} {c : Code} {G M : GT} {A : Nat → Prop} {b L : Nat} {xs : Nat → Int32} {k : SK} {a0 a1 a2 : Nat} {S T : PS} {H : Heap} {locs : List Loc} {cells slots : Nat} {Q : State → Prop} {ls : Array Slot} {i : Nat} (hc : LX p l s m args meth c G M A b L xs k a0 a1 a2) (w : Wd G A s.heap S H locs) (u : Wd M A s.heap T H locs) (hr : RR S T) (hl : lv_has ls 8 (LV G M b i)) (hi : i + 5 ≤ L) (hf : cells ≤ room_1.cells ∧ slots ≤ room_1.slots) (K : ∀ S T H locs, Wd G A s.heap S H locs → Wd M A s.heap T H locs → RR S T → W p l e room_1 s m args below meth c H locs cells slots Q (F0 m 872 ls [])) : W p l e room_1 s m args below meth c H locs cells slots Q (F0 m 189 ls []) := by
  have hx := hc.1.1
  have hb := hc.1.2.1
  have hown := hc.1.2.2.2.1
  have hts := hc.1.2.2.2.2.1
  have hL := hc.2.2.2.1.2.2.2
  obtain ⟨hX, hM, hdj, hm79, hN79⟩ := hc.2.2.2.2.1
  obtain ⟨n, nr, nh, z, tl, pl, wr, br, sp, h⟩ := hr
  refine lv_aload_n hx hb dL_law_189 rfl (lv_at hl 1 rfl) ?_
  refine c2I (n := 0) hc.1 w u hdj hl dL_law_190 (c_X5_nothing l G hX S h.lk n h.nm.1 h.nm.2.2) gL_law_X5_nothing rfl (by decide +kernel) rfl rfl (Nat.le_of_ble_eq_true rfl) ⟨(Nat.le_of_ble_eq_true rfl), (Nat.le_of_ble_eq_true rfl)⟩ (by decide) rfl (oP5 hX) hf (fun v1 S2 H locs hp1 w u => ?_)
  refine lv_aload_n hx hb dL_law_193 rfl (lv_at hl 2 rfl) ?_
  refine c2I (n := 0) hc.2.1 u w hdj.sy hl dL_law_194 (c_X6_nothing l M hM T h.lm n h.nm.2.1 h.nm.2.2) gL_law_X6_nothing rfl (by decide +kernel) rfl rfl (Nat.le_of_ble_eq_true rfl) ⟨(Nat.le_of_ble_eq_true rfl), (Nat.le_of_ble_eq_true rfl)⟩ (by decide) rfl (oM6 hM) hf (fun v2 T2 H locs hp2 u w => ?_)
  obtain ⟨ev, hr2⟩ := st_nothing h hp1 hp2
  refine lv_icmp_eq (tgt := 872) hx hb dL_law_197 (by decide) (fun c_197 => ?_) (fun c_197 => absurd ev c_197)
  exact K _ _ _ _ w u hr2

set_option maxHeartbeats 4000000 in
set_option maxRecDepth 100000 in
/-- the law: set -/
theorem law_set (l : Launch) {p : Program} {e : Env} {s : State} {m : MethodId} {args : Array Value} {below : List Frame} {meth : Method} {c : Code} {G M : GT} {A : Nat → Prop} {b L : Nat} {xs : Nat → Int32} {k : SK} {a0 a1 a2 : Nat} {S T : PS} {H : Heap} {locs : List Loc} {cells slots : Nat} {Q : State → Prop} {ls : Array Slot} {i : Nat} (hc : LX p l s m args meth c G M A b L xs k a0 a1 a2) (w : Wd G A s.heap S H locs) (u : Wd M A s.heap T H locs) (hr : RR S T) (hl : lv_has ls 8 (LV G M b i)) (hi : i + 5 ≤ L) (hf : cells ≤ room_1.cells ∧ slots ≤ room_1.slots) (K : ∀ S T H locs, Wd G A s.heap S H locs → Wd M A s.heap T H locs → RR S T → W p l e room_1 s m args below meth c H locs cells slots Q (F0 m 872 ls [])) : W p l e room_1 s m args below meth c H locs cells slots Q (F0 m 202 ls []) := by
  have hx := hc.1.1
  have hb := hc.1.2.1
  have hown := hc.1.2.2.2.1
  have hts := hc.1.2.2.2.2.1
  have hL := hc.2.2.2.1.2.2.2
  obtain ⟨hX, hM, hdj, hm79, hN79⟩ := hc.2.2.2.2.1
  obtain ⟨n, nr, nh, z, tl, pl, wr, br, sp, h⟩ := hr
  refine lv_aload_n hx hb dL_law_202 rfl (lv_at hl 1 rfl) ?_
  refine lv_aload_n hx hb dL_law_203 rfl (lv_at hl 0 rfl) ?_
  refine lv_iload hx hb dL_law_204 (lv_at hl 4 rfl) ?_
  refine lv_iconst (v := nI 1) hx hb dL_law_206 (by decide) ?_
  refine lv_iadd hx hb dL_law_207 ?_
  rw [nI_add]
  refine va_sld hx hb hc.2.2.2.1.1 hc.2.2.2.1.2.1 hc.2.2.2.1.2.2.1 w.2.2 (vp_in_nI (show i + 1 < L by omega) (by omega)) dL_law_208 ?_
  rw [nI_clamp (show i + 1 < 2 ^ 31 by omega)]
  refine lv_aload_n hx hb dL_law_209 rfl (lv_at hl 0 rfl) ?_
  refine lv_iload hx hb dL_law_210 (lv_at hl 4 rfl) ?_
  refine lv_iconst (v := nI 2) hx hb dL_law_212 (by decide) ?_
  refine lv_iadd hx hb dL_law_213 ?_
  rw [nI_add]
  refine va_sld hx hb hc.2.2.2.1.1 hc.2.2.2.1.2.1 hc.2.2.2.1.2.2.1 w.2.2 (vp_in_nI (show i + 2 < L by omega) (by omega)) dL_law_214 ?_
  rw [nI_clamp (show i + 2 < 2 ^ 31 by omega)]
  refine lv_aload_n hx hb dL_law_215 rfl (lv_at hl 0 rfl) ?_
  refine lv_iload hx hb dL_law_216 (lv_at hl 4 rfl) ?_
  refine lv_iconst (v := nI 3) hx hb dL_law_218 (by decide) ?_
  refine lv_iadd hx hb dL_law_219 ?_
  rw [nI_add]
  refine va_sld hx hb hc.2.2.2.1.1 hc.2.2.2.1.2.1 hc.2.2.2.1.2.2.1 w.2.2 (vp_in_nI (show i + 3 < L by omega) (by omega)) dL_law_220 ?_
  rw [nI_clamp (show i + 3 < 2 ^ 31 by omega)]
  refine lv_i2l hx hb dL_law_221 rfl ?_
  refine lv_bipush (v := 32) hx hb dL_law_222 (by decide) ?_
  refine lv_lshl hx hb dL_law_224 rfl ?_
  refine lv_aload_n hx hb dL_law_225 rfl (lv_at hl 0 rfl) ?_
  refine lv_iload hx hb dL_law_226 (lv_at hl 4 rfl) ?_
  refine lv_iconst (v := nI 4) hx hb dL_law_228 (by decide) ?_
  refine lv_iadd hx hb dL_law_229 ?_
  rw [nI_add]
  refine va_sld hx hb hc.2.2.2.1.1 hc.2.2.2.1.2.1 hc.2.2.2.1.2.2.1 w.2.2 (vp_in_nI (show i + 4 < L by omega) (by omega)) dL_law_230 ?_
  rw [nI_clamp (show i + 4 < 2 ^ 31 by omega)]
  refine lv_i2l hx hb dL_law_231 rfl ?_
  refine lv_ldc2 (v := (4294967295)) hx hb hown (hts (.constantLong RL 31 (4294967295)) (by decide +kernel)) dL_law_232 ?_
  refine lv_land hx hb dL_law_235 ?_
  refine lv_lor hx hb dL_law_236 ?_
  refine c2I (n := 3) hc.1 w u hdj hl dL_law_237 (c_X5_set l G hX S h.lk n h.nm.1 h.nm.2.2 h.sz (xs (i + 1)) (xs (i + 2)) _) gL_law_X5_set rfl (by decide +kernel) rfl rfl (Nat.le_of_ble_eq_true rfl) ⟨(Nat.le_of_ble_eq_true rfl), (Nat.le_of_ble_eq_true rfl)⟩ (by decide) rfl (oP5 hX) hf (fun v1 S2 H locs hp1 w u => ?_)
  refine lv_aload_n hx hb dL_law_240 rfl (lv_at hl 2 rfl) ?_
  refine lv_aload_n hx hb dL_law_241 rfl (lv_at hl 0 rfl) ?_
  refine lv_iload hx hb dL_law_242 (lv_at hl 4 rfl) ?_
  refine lv_iconst (v := nI 1) hx hb dL_law_244 (by decide) ?_
  refine lv_iadd hx hb dL_law_245 ?_
  rw [nI_add]
  refine va_sld hx hb hc.2.2.2.1.1 hc.2.2.2.1.2.1 hc.2.2.2.1.2.2.1 w.2.2 (vp_in_nI (show i + 1 < L by omega) (by omega)) dL_law_246 ?_
  rw [nI_clamp (show i + 1 < 2 ^ 31 by omega)]
  refine lv_aload_n hx hb dL_law_247 rfl (lv_at hl 0 rfl) ?_
  refine lv_iload hx hb dL_law_248 (lv_at hl 4 rfl) ?_
  refine lv_iconst (v := nI 2) hx hb dL_law_250 (by decide) ?_
  refine lv_iadd hx hb dL_law_251 ?_
  rw [nI_add]
  refine va_sld hx hb hc.2.2.2.1.1 hc.2.2.2.1.2.1 hc.2.2.2.1.2.2.1 w.2.2 (vp_in_nI (show i + 2 < L by omega) (by omega)) dL_law_252 ?_
  rw [nI_clamp (show i + 2 < 2 ^ 31 by omega)]
  refine lv_aload_n hx hb dL_law_253 rfl (lv_at hl 0 rfl) ?_
  refine lv_iload hx hb dL_law_254 (lv_at hl 4 rfl) ?_
  refine lv_iconst (v := nI 3) hx hb dL_law_256 (by decide) ?_
  refine lv_iadd hx hb dL_law_257 ?_
  rw [nI_add]
  refine va_sld hx hb hc.2.2.2.1.1 hc.2.2.2.1.2.1 hc.2.2.2.1.2.2.1 w.2.2 (vp_in_nI (show i + 3 < L by omega) (by omega)) dL_law_258 ?_
  rw [nI_clamp (show i + 3 < 2 ^ 31 by omega)]
  refine lv_i2l hx hb dL_law_259 rfl ?_
  refine lv_bipush (v := 32) hx hb dL_law_260 (by decide) ?_
  refine lv_lshl hx hb dL_law_262 rfl ?_
  refine lv_aload_n hx hb dL_law_263 rfl (lv_at hl 0 rfl) ?_
  refine lv_iload hx hb dL_law_264 (lv_at hl 4 rfl) ?_
  refine lv_iconst (v := nI 4) hx hb dL_law_266 (by decide) ?_
  refine lv_iadd hx hb dL_law_267 ?_
  rw [nI_add]
  refine va_sld hx hb hc.2.2.2.1.1 hc.2.2.2.1.2.1 hc.2.2.2.1.2.2.1 w.2.2 (vp_in_nI (show i + 4 < L by omega) (by omega)) dL_law_268 ?_
  rw [nI_clamp (show i + 4 < 2 ^ 31 by omega)]
  refine lv_i2l hx hb dL_law_269 rfl ?_
  refine lv_ldc2 (v := (4294967295)) hx hb hown (hts (.constantLong RL 31 (4294967295)) (by decide +kernel)) dL_law_270 ?_
  refine lv_land hx hb dL_law_273 ?_
  refine lv_lor hx hb dL_law_274 ?_
  refine c2I (n := 3) hc.2.1 u w hdj.sy hl dL_law_275 (c_X6_set l M hM T h.lm n h.nm.2.1 h.nm.2.2 h.szM (xs (i + 1)) (xs (i + 2)) _) gL_law_X6_set rfl (by decide +kernel) rfl rfl (Nat.le_of_ble_eq_true rfl) ⟨(Nat.le_of_ble_eq_true rfl), (Nat.le_of_ble_eq_true rfl)⟩ (by decide) rfl (oM6 hM) hf (fun v2 T2 H locs hp2 u w => ?_)
  obtain ⟨ev, hr2⟩ := st_set h hp1 hp2
  refine lv_icmp_eq (tgt := 872) hx hb dL_law_278 (by decide) (fun c_278 => ?_) (fun c_278 => absurd ev c_278)
  exact K _ _ _ _ w u hr2

set_option maxHeartbeats 4000000 in
set_option maxRecDepth 100000 in
/-- the law: told -/
theorem law_told (l : Launch) {p : Program} {e : Env} {s : State} {m : MethodId} {args : Array Value} {below : List Frame} {meth : Method} {c : Code} {G M : GT} {A : Nat → Prop} {b L : Nat} {xs : Nat → Int32} {k : SK} {a0 a1 a2 : Nat} {S T : PS} {H : Heap} {locs : List Loc} {cells slots : Nat} {Q : State → Prop} {ls : Array Slot} {i : Nat} (hc : LX p l s m args meth c G M A b L xs k a0 a1 a2) (w : Wd G A s.heap S H locs) (u : Wd M A s.heap T H locs) (hr : RR S T) (hl : lv_has ls 8 (LV G M b i)) (hi : i + 5 ≤ L) (hf : cells ≤ room_1.cells ∧ slots ≤ room_1.slots) (K : ∀ S T H locs, Wd G A s.heap S H locs → Wd M A s.heap T H locs → RR S T → W p l e room_1 s m args below meth c H locs cells slots Q (F0 m 872 ls [])) : W p l e room_1 s m args below meth c H locs cells slots Q (F0 m 350 ls []) := by
  have hx := hc.1.1
  have hb := hc.1.2.1
  have hown := hc.1.2.2.2.1
  have hts := hc.1.2.2.2.2.1
  have hL := hc.2.2.2.1.2.2.2
  obtain ⟨hX, hM, hdj, hm79, hN79⟩ := hc.2.2.2.2.1
  obtain ⟨n, nr, nh, z, tl, pl, wr, br, sp, h⟩ := hr
  refine lv_aload_n hx hb dL_law_350 rfl (lv_at hl 1 rfl) ?_
  refine lv_aload_n hx hb dL_law_351 rfl (lv_at hl 0 rfl) ?_
  refine lv_iload hx hb dL_law_352 (lv_at hl 4 rfl) ?_
  refine lv_iconst (v := nI 1) hx hb dL_law_354 (by decide) ?_
  refine lv_iadd hx hb dL_law_355 ?_
  rw [nI_add]
  refine va_sld hx hb hc.2.2.2.1.1 hc.2.2.2.1.2.1 hc.2.2.2.1.2.2.1 w.2.2 (vp_in_nI (show i + 1 < L by omega) (by omega)) dL_law_356 ?_
  rw [nI_clamp (show i + 1 < 2 ^ 31 by omega)]
  refine lv_aload_n hx hb dL_law_357 rfl (lv_at hl 0 rfl) ?_
  refine lv_iload hx hb dL_law_358 (lv_at hl 4 rfl) ?_
  refine lv_iconst (v := nI 2) hx hb dL_law_360 (by decide) ?_
  refine lv_iadd hx hb dL_law_361 ?_
  rw [nI_add]
  refine va_sld hx hb hc.2.2.2.1.1 hc.2.2.2.1.2.1 hc.2.2.2.1.2.2.1 w.2.2 (vp_in_nI (show i + 2 < L by omega) (by omega)) dL_law_362 ?_
  rw [nI_clamp (show i + 2 < 2 ^ 31 by omega)]
  refine c2I (n := 2) hc.1 w u hdj hl dL_law_363 (c_X5_told l G hX S h.lk n h.nm.1 h.nm.2.2 h.hd (xs (i + 1)) (xs (i + 2))) gL_law_X5_told rfl (by decide +kernel) rfl rfl (Nat.le_of_ble_eq_true rfl) ⟨(Nat.le_of_ble_eq_true rfl), (Nat.le_of_ble_eq_true rfl)⟩ (by decide) rfl (oP5 hX) hf (fun v1 S2 H locs hp1 w u => ?_)
  refine lv_aload_n hx hb dL_law_366 rfl (lv_at hl 2 rfl) ?_
  refine lv_aload_n hx hb dL_law_367 rfl (lv_at hl 0 rfl) ?_
  refine lv_iload hx hb dL_law_368 (lv_at hl 4 rfl) ?_
  refine lv_iconst (v := nI 1) hx hb dL_law_370 (by decide) ?_
  refine lv_iadd hx hb dL_law_371 ?_
  rw [nI_add]
  refine va_sld hx hb hc.2.2.2.1.1 hc.2.2.2.1.2.1 hc.2.2.2.1.2.2.1 w.2.2 (vp_in_nI (show i + 1 < L by omega) (by omega)) dL_law_372 ?_
  rw [nI_clamp (show i + 1 < 2 ^ 31 by omega)]
  refine lv_aload_n hx hb dL_law_373 rfl (lv_at hl 0 rfl) ?_
  refine lv_iload hx hb dL_law_374 (lv_at hl 4 rfl) ?_
  refine lv_iconst (v := nI 2) hx hb dL_law_376 (by decide) ?_
  refine lv_iadd hx hb dL_law_377 ?_
  rw [nI_add]
  refine va_sld hx hb hc.2.2.2.1.1 hc.2.2.2.1.2.1 hc.2.2.2.1.2.2.1 w.2.2 (vp_in_nI (show i + 2 < L by omega) (by omega)) dL_law_378 ?_
  rw [nI_clamp (show i + 2 < 2 ^ 31 by omega)]
  refine c2I (n := 2) hc.2.1 u w hdj.sy hl dL_law_379 (c_X6_told l M hM T h.lm n h.nm.2.1 h.nm.2.2 h.hdM (xs (i + 1)) (xs (i + 2))) gL_law_X6_told rfl (by decide +kernel) rfl rfl (Nat.le_of_ble_eq_true rfl) ⟨(Nat.le_of_ble_eq_true rfl), (Nat.le_of_ble_eq_true rfl)⟩ (by decide) rfl (oM6 hM) hf (fun v2 T2 H locs hp2 u w => ?_)
  obtain ⟨ev, hr2⟩ := st_told h hp1 hp2
  refine lv_icmp_eq (tgt := 872) hx hb dL_law_382 (by decide) (fun c_382 => ?_) (fun c_382 => absurd ev c_382)
  exact K _ _ _ _ w u hr2

set_option maxHeartbeats 4000000 in
set_option maxRecDepth 100000 in
/-- the law: act -/
theorem law_act (l : Launch) {p : Program} {e : Env} {s : State} {m : MethodId} {args : Array Value} {below : List Frame} {meth : Method} {c : Code} {G M : GT} {A : Nat → Prop} {b L : Nat} {xs : Nat → Int32} {k : SK} {a0 a1 a2 : Nat} {S T : PS} {H : Heap} {locs : List Loc} {cells slots : Nat} {Q : State → Prop} {ls : Array Slot} {i : Nat} (hc : LX p l s m args meth c G M A b L xs k a0 a1 a2) (w : Wd G A s.heap S H locs) (u : Wd M A s.heap T H locs) (hr : RR S T) (hl : lv_has ls 8 (LV G M b i)) (hi : i + 5 ≤ L) (hf : cells ≤ room_1.cells ∧ slots ≤ room_1.slots) (K : ∀ S T H locs, Wd G A s.heap S H locs → Wd M A s.heap T H locs → RR S T → W p l e room_1 s m args below meth c H locs cells slots Q (F0 m 872 ls [])) : W p l e room_1 s m args below meth c H locs cells slots Q (F0 m 387 ls []) := by
  have hx := hc.1.1
  have hb := hc.1.2.1
  have hown := hc.1.2.2.2.1
  have hts := hc.1.2.2.2.2.1
  have hL := hc.2.2.2.1.2.2.2
  obtain ⟨hX, hM, hdj, hm79, hN79⟩ := hc.2.2.2.2.1
  obtain ⟨n, nr, nh, z, tl, pl, wr, br, sp, h⟩ := hr
  refine lv_aload_n hx hb dL_law_387 rfl (lv_at hl 1 rfl) ?_
  refine lv_aload_n hx hb dL_law_388 rfl (lv_at hl 0 rfl) ?_
  refine lv_iload hx hb dL_law_389 (lv_at hl 4 rfl) ?_
  refine lv_iconst (v := nI 1) hx hb dL_law_391 (by decide) ?_
  refine lv_iadd hx hb dL_law_392 ?_
  rw [nI_add]
  refine va_sld hx hb hc.2.2.2.1.1 hc.2.2.2.1.2.1 hc.2.2.2.1.2.2.1 w.2.2 (vp_in_nI (show i + 1 < L by omega) (by omega)) dL_law_393 ?_
  rw [nI_clamp (show i + 1 < 2 ^ 31 by omega)]
  refine lv_aload_n hx hb dL_law_394 rfl (lv_at hl 0 rfl) ?_
  refine lv_iload hx hb dL_law_395 (lv_at hl 4 rfl) ?_
  refine lv_iconst (v := nI 2) hx hb dL_law_397 (by decide) ?_
  refine lv_iadd hx hb dL_law_398 ?_
  rw [nI_add]
  refine va_sld hx hb hc.2.2.2.1.1 hc.2.2.2.1.2.1 hc.2.2.2.1.2.2.1 w.2.2 (vp_in_nI (show i + 2 < L by omega) (by omega)) dL_law_399 ?_
  rw [nI_clamp (show i + 2 < 2 ^ 31 by omega)]
  refine lv_aload_n hx hb dL_law_400 rfl (lv_at hl 0 rfl) ?_
  refine lv_iload hx hb dL_law_401 (lv_at hl 4 rfl) ?_
  refine lv_iconst (v := nI 3) hx hb dL_law_403 (by decide) ?_
  refine lv_iadd hx hb dL_law_404 ?_
  rw [nI_add]
  refine va_sld hx hb hc.2.2.2.1.1 hc.2.2.2.1.2.1 hc.2.2.2.1.2.2.1 w.2.2 (vp_in_nI (show i + 3 < L by omega) (by omega)) dL_law_405 ?_
  rw [nI_clamp (show i + 3 < 2 ^ 31 by omega)]
  refine c2I (n := 3) hc.1 w u hdj hl dL_law_406 (c_X5_act l G hX S h.lk n h.nm.1 h.nm.2.2 h.sz (xs (i + 1)) (xs (i + 2)) (xs (i + 3))) gL_law_X5_act rfl (by decide +kernel) rfl rfl (Nat.le_of_ble_eq_true rfl) ⟨(Nat.le_of_ble_eq_true rfl), (Nat.le_of_ble_eq_true rfl)⟩ (by decide) rfl (oP5 hX) hf (fun v1 S2 H locs hp1 w u => ?_)
  refine lv_aload_n hx hb dL_law_409 rfl (lv_at hl 2 rfl) ?_
  refine lv_aload_n hx hb dL_law_410 rfl (lv_at hl 0 rfl) ?_
  refine lv_iload hx hb dL_law_411 (lv_at hl 4 rfl) ?_
  refine lv_iconst (v := nI 1) hx hb dL_law_413 (by decide) ?_
  refine lv_iadd hx hb dL_law_414 ?_
  rw [nI_add]
  refine va_sld hx hb hc.2.2.2.1.1 hc.2.2.2.1.2.1 hc.2.2.2.1.2.2.1 w.2.2 (vp_in_nI (show i + 1 < L by omega) (by omega)) dL_law_415 ?_
  rw [nI_clamp (show i + 1 < 2 ^ 31 by omega)]
  refine lv_aload_n hx hb dL_law_416 rfl (lv_at hl 0 rfl) ?_
  refine lv_iload hx hb dL_law_417 (lv_at hl 4 rfl) ?_
  refine lv_iconst (v := nI 2) hx hb dL_law_419 (by decide) ?_
  refine lv_iadd hx hb dL_law_420 ?_
  rw [nI_add]
  refine va_sld hx hb hc.2.2.2.1.1 hc.2.2.2.1.2.1 hc.2.2.2.1.2.2.1 w.2.2 (vp_in_nI (show i + 2 < L by omega) (by omega)) dL_law_421 ?_
  rw [nI_clamp (show i + 2 < 2 ^ 31 by omega)]
  refine lv_aload_n hx hb dL_law_422 rfl (lv_at hl 0 rfl) ?_
  refine lv_iload hx hb dL_law_423 (lv_at hl 4 rfl) ?_
  refine lv_iconst (v := nI 3) hx hb dL_law_425 (by decide) ?_
  refine lv_iadd hx hb dL_law_426 ?_
  rw [nI_add]
  refine va_sld hx hb hc.2.2.2.1.1 hc.2.2.2.1.2.1 hc.2.2.2.1.2.2.1 w.2.2 (vp_in_nI (show i + 3 < L by omega) (by omega)) dL_law_427 ?_
  rw [nI_clamp (show i + 3 < 2 ^ 31 by omega)]
  refine c2I (n := 3) hc.2.1 u w hdj.sy hl dL_law_428 (c_X6_act l M hM T h.lm n h.nm.2.1 h.nm.2.2 h.szM (xs (i + 1)) (xs (i + 2)) (xs (i + 3))) gL_law_X6_act rfl (by decide +kernel) rfl rfl (Nat.le_of_ble_eq_true rfl) ⟨(Nat.le_of_ble_eq_true rfl), (Nat.le_of_ble_eq_true rfl)⟩ (by decide) rfl (oM6 hM) hf (fun v2 T2 H locs hp2 u w => ?_)
  obtain ⟨ev, hr2⟩ := st_act h hp1 hp2
  refine lv_icmp_eq (tgt := 872) hx hb dL_law_431 (by decide) (fun c_431 => ?_) (fun c_431 => absurd ev c_431)
  exact K _ _ _ _ w u hr2

set_option maxHeartbeats 4000000 in
set_option maxRecDepth 100000 in
/-- the law: times -/
theorem law_times (l : Launch) {p : Program} {e : Env} {s : State} {m : MethodId} {args : Array Value} {below : List Frame} {meth : Method} {c : Code} {G M : GT} {A : Nat → Prop} {b L : Nat} {xs : Nat → Int32} {k : SK} {a0 a1 a2 : Nat} {S T : PS} {H : Heap} {locs : List Loc} {cells slots : Nat} {Q : State → Prop} {ls : Array Slot} {i : Nat} (hc : LX p l s m args meth c G M A b L xs k a0 a1 a2) (w : Wd G A s.heap S H locs) (u : Wd M A s.heap T H locs) (hr : RR S T) (hl : lv_has ls 8 (LV G M b i)) (hi : i + 5 ≤ L) (hf : cells ≤ room_1.cells ∧ slots ≤ room_1.slots) (K : ∀ S T H locs, Wd G A s.heap S H locs → Wd M A s.heap T H locs → RR S T → W p l e room_1 s m args below meth c H locs cells slots Q (F0 m 872 ls [])) : W p l e room_1 s m args below meth c H locs cells slots Q (F0 m 436 ls []) := by
  have hx := hc.1.1
  have hb := hc.1.2.1
  have hown := hc.1.2.2.2.1
  have hts := hc.1.2.2.2.2.1
  have hL := hc.2.2.2.1.2.2.2
  obtain ⟨hX, hM, hdj, hm79, hN79⟩ := hc.2.2.2.2.1
  obtain ⟨n, nr, nh, z, tl, pl, wr, br, sp, h⟩ := hr
  refine lv_aload_n hx hb dL_law_436 rfl (lv_at hl 1 rfl) ?_
  refine lv_aload_n hx hb dL_law_437 rfl (lv_at hl 0 rfl) ?_
  refine lv_iload hx hb dL_law_438 (lv_at hl 4 rfl) ?_
  refine lv_iconst (v := nI 1) hx hb dL_law_440 (by decide) ?_
  refine lv_iadd hx hb dL_law_441 ?_
  rw [nI_add]
  refine va_sld hx hb hc.2.2.2.1.1 hc.2.2.2.1.2.1 hc.2.2.2.1.2.2.1 w.2.2 (vp_in_nI (show i + 1 < L by omega) (by omega)) dL_law_442 ?_
  rw [nI_clamp (show i + 1 < 2 ^ 31 by omega)]
  refine lv_aload_n hx hb dL_law_443 rfl (lv_at hl 0 rfl) ?_
  refine lv_iload hx hb dL_law_444 (lv_at hl 4 rfl) ?_
  refine lv_iconst (v := nI 2) hx hb dL_law_446 (by decide) ?_
  refine lv_iadd hx hb dL_law_447 ?_
  rw [nI_add]
  refine va_sld hx hb hc.2.2.2.1.1 hc.2.2.2.1.2.1 hc.2.2.2.1.2.2.1 w.2.2 (vp_in_nI (show i + 2 < L by omega) (by omega)) dL_law_448 ?_
  rw [nI_clamp (show i + 2 < 2 ^ 31 by omega)]
  refine lv_aload_n hx hb dL_law_449 rfl (lv_at hl 0 rfl) ?_
  refine lv_iload hx hb dL_law_450 (lv_at hl 4 rfl) ?_
  refine lv_iconst (v := nI 3) hx hb dL_law_452 (by decide) ?_
  refine lv_iadd hx hb dL_law_453 ?_
  rw [nI_add]
  refine va_sld hx hb hc.2.2.2.1.1 hc.2.2.2.1.2.1 hc.2.2.2.1.2.2.1 w.2.2 (vp_in_nI (show i + 3 < L by omega) (by omega)) dL_law_454 ?_
  rw [nI_clamp (show i + 3 < 2 ^ 31 by omega)]
  refine c2I (n := 3) hc.1 w u hdj hl dL_law_455 (c_X5_times l G hX S h.lk n h.nm.1 h.nm.2.2 h.sz (xs (i + 1)) (xs (i + 2)) (xs (i + 3))) gL_law_X5_times rfl (by decide +kernel) rfl rfl (Nat.le_of_ble_eq_true rfl) ⟨(Nat.le_of_ble_eq_true rfl), (Nat.le_of_ble_eq_true rfl)⟩ (by decide) rfl (oP5 hX) hf (fun v1 S2 H locs hp1 w u => ?_)
  refine lv_aload_n hx hb dL_law_458 rfl (lv_at hl 2 rfl) ?_
  refine lv_aload_n hx hb dL_law_459 rfl (lv_at hl 0 rfl) ?_
  refine lv_iload hx hb dL_law_460 (lv_at hl 4 rfl) ?_
  refine lv_iconst (v := nI 1) hx hb dL_law_462 (by decide) ?_
  refine lv_iadd hx hb dL_law_463 ?_
  rw [nI_add]
  refine va_sld hx hb hc.2.2.2.1.1 hc.2.2.2.1.2.1 hc.2.2.2.1.2.2.1 w.2.2 (vp_in_nI (show i + 1 < L by omega) (by omega)) dL_law_464 ?_
  rw [nI_clamp (show i + 1 < 2 ^ 31 by omega)]
  refine lv_aload_n hx hb dL_law_465 rfl (lv_at hl 0 rfl) ?_
  refine lv_iload hx hb dL_law_466 (lv_at hl 4 rfl) ?_
  refine lv_iconst (v := nI 2) hx hb dL_law_468 (by decide) ?_
  refine lv_iadd hx hb dL_law_469 ?_
  rw [nI_add]
  refine va_sld hx hb hc.2.2.2.1.1 hc.2.2.2.1.2.1 hc.2.2.2.1.2.2.1 w.2.2 (vp_in_nI (show i + 2 < L by omega) (by omega)) dL_law_470 ?_
  rw [nI_clamp (show i + 2 < 2 ^ 31 by omega)]
  refine lv_aload_n hx hb dL_law_471 rfl (lv_at hl 0 rfl) ?_
  refine lv_iload hx hb dL_law_472 (lv_at hl 4 rfl) ?_
  refine lv_iconst (v := nI 3) hx hb dL_law_474 (by decide) ?_
  refine lv_iadd hx hb dL_law_475 ?_
  rw [nI_add]
  refine va_sld hx hb hc.2.2.2.1.1 hc.2.2.2.1.2.1 hc.2.2.2.1.2.2.1 w.2.2 (vp_in_nI (show i + 3 < L by omega) (by omega)) dL_law_476 ?_
  rw [nI_clamp (show i + 3 < 2 ^ 31 by omega)]
  refine c2I (n := 3) hc.2.1 u w hdj.sy hl dL_law_477 (c_X6_times l M hM T h.lm n h.nm.2.1 h.nm.2.2 h.szM (xs (i + 1)) (xs (i + 2)) (xs (i + 3))) gL_law_X6_times rfl (by decide +kernel) rfl rfl (Nat.le_of_ble_eq_true rfl) ⟨(Nat.le_of_ble_eq_true rfl), (Nat.le_of_ble_eq_true rfl)⟩ (by decide) rfl (oM6 hM) hf (fun v2 T2 H locs hp2 u w => ?_)
  obtain ⟨ev, hr2⟩ := st_times h hp1 hp2
  refine lv_icmp_eq (tgt := 872) hx hb dL_law_480 (by decide) (fun c_480 => ?_) (fun c_480 => absurd ev c_480)
  exact K _ _ _ _ w u hr2

set_option maxHeartbeats 4000000 in
set_option maxRecDepth 100000 in
/-- the law: order -/
theorem law_order (l : Launch) {p : Program} {e : Env} {s : State} {m : MethodId} {args : Array Value} {below : List Frame} {meth : Method} {c : Code} {G M : GT} {A : Nat → Prop} {b L : Nat} {xs : Nat → Int32} {k : SK} {a0 a1 a2 : Nat} {S T : PS} {H : Heap} {locs : List Loc} {cells slots : Nat} {Q : State → Prop} {ls : Array Slot} {i : Nat} (hc : LX p l s m args meth c G M A b L xs k a0 a1 a2) (w : Wd G A s.heap S H locs) (u : Wd M A s.heap T H locs) (hr : RR S T) (hl : lv_has ls 8 (LV G M b i)) (hi : i + 5 ≤ L) (hf : cells ≤ room_1.cells ∧ slots ≤ room_1.slots) (K : ∀ S T H locs, Wd G A s.heap S H locs → Wd M A s.heap T H locs → RR S T → W p l e room_1 s m args below meth c H locs cells slots Q (F0 m 872 ls [])) : W p l e room_1 s m args below meth c H locs cells slots Q (F0 m 485 ls []) := by
  have hx := hc.1.1
  have hb := hc.1.2.1
  have hown := hc.1.2.2.2.1
  have hts := hc.1.2.2.2.2.1
  have hL := hc.2.2.2.1.2.2.2
  obtain ⟨hX, hM, hdj, hm79, hN79⟩ := hc.2.2.2.2.1
  obtain ⟨n, nr, nh, z, tl, pl, wr, br, sp, h⟩ := hr
  refine lv_aload_n hx hb dL_law_485 rfl (lv_at hl 1 rfl) ?_
  refine lv_aload_n hx hb dL_law_486 rfl (lv_at hl 0 rfl) ?_
  refine lv_iload hx hb dL_law_487 (lv_at hl 4 rfl) ?_
  refine lv_iconst (v := nI 1) hx hb dL_law_489 (by decide) ?_
  refine lv_iadd hx hb dL_law_490 ?_
  rw [nI_add]
  refine va_sld hx hb hc.2.2.2.1.1 hc.2.2.2.1.2.1 hc.2.2.2.1.2.2.1 w.2.2 (vp_in_nI (show i + 1 < L by omega) (by omega)) dL_law_491 ?_
  rw [nI_clamp (show i + 1 < 2 ^ 31 by omega)]
  refine lv_aload_n hx hb dL_law_492 rfl (lv_at hl 0 rfl) ?_
  refine lv_iload hx hb dL_law_493 (lv_at hl 4 rfl) ?_
  refine lv_iconst (v := nI 2) hx hb dL_law_495 (by decide) ?_
  refine lv_iadd hx hb dL_law_496 ?_
  rw [nI_add]
  refine va_sld hx hb hc.2.2.2.1.1 hc.2.2.2.1.2.1 hc.2.2.2.1.2.2.1 w.2.2 (vp_in_nI (show i + 2 < L by omega) (by omega)) dL_law_497 ?_
  rw [nI_clamp (show i + 2 < 2 ^ 31 by omega)]
  refine c2I (n := 2) hc.1 w u hdj hl dL_law_498 (c_X5_order l G hX S h.lk n h.nm.1 h.nm.2.2 h.sz (xs (i + 1)) (xs (i + 2))) gL_law_X5_order rfl (by decide +kernel) rfl rfl (Nat.le_of_ble_eq_true rfl) ⟨(Nat.le_of_ble_eq_true rfl), (Nat.le_of_ble_eq_true rfl)⟩ (by decide) rfl (oP5 hX) hf (fun v1 S2 H locs hp1 w u => ?_)
  refine lv_aload_n hx hb dL_law_501 rfl (lv_at hl 2 rfl) ?_
  refine lv_aload_n hx hb dL_law_502 rfl (lv_at hl 0 rfl) ?_
  refine lv_iload hx hb dL_law_503 (lv_at hl 4 rfl) ?_
  refine lv_iconst (v := nI 1) hx hb dL_law_505 (by decide) ?_
  refine lv_iadd hx hb dL_law_506 ?_
  rw [nI_add]
  refine va_sld hx hb hc.2.2.2.1.1 hc.2.2.2.1.2.1 hc.2.2.2.1.2.2.1 w.2.2 (vp_in_nI (show i + 1 < L by omega) (by omega)) dL_law_507 ?_
  rw [nI_clamp (show i + 1 < 2 ^ 31 by omega)]
  refine lv_aload_n hx hb dL_law_508 rfl (lv_at hl 0 rfl) ?_
  refine lv_iload hx hb dL_law_509 (lv_at hl 4 rfl) ?_
  refine lv_iconst (v := nI 2) hx hb dL_law_511 (by decide) ?_
  refine lv_iadd hx hb dL_law_512 ?_
  rw [nI_add]
  refine va_sld hx hb hc.2.2.2.1.1 hc.2.2.2.1.2.1 hc.2.2.2.1.2.2.1 w.2.2 (vp_in_nI (show i + 2 < L by omega) (by omega)) dL_law_513 ?_
  rw [nI_clamp (show i + 2 < 2 ^ 31 by omega)]
  refine c2I (n := 2) hc.2.1 u w hdj.sy hl dL_law_514 (c_X6_order l M hM T h.lm n h.nm.2.1 h.nm.2.2 h.szM (xs (i + 1)) (xs (i + 2))) gL_law_X6_order rfl (by decide +kernel) rfl rfl (Nat.le_of_ble_eq_true rfl) ⟨(Nat.le_of_ble_eq_true rfl), (Nat.le_of_ble_eq_true rfl)⟩ (by decide) rfl (oM6 hM) hf (fun v2 T2 H locs hp2 u w => ?_)
  obtain ⟨ev, hr2⟩ := st_order h hp1 hp2
  refine lv_icmp_eq (tgt := 872) hx hb dL_law_517 (by decide) (fun c_517 => ?_) (fun c_517 => absurd ev c_517)
  exact K _ _ _ _ w u hr2

set_option maxHeartbeats 4000000 in
set_option maxRecDepth 100000 in
/-- the law: put -/
theorem law_put (l : Launch) {p : Program} {e : Env} {s : State} {m : MethodId} {args : Array Value} {below : List Frame} {meth : Method} {c : Code} {G M : GT} {A : Nat → Prop} {b L : Nat} {xs : Nat → Int32} {k : SK} {a0 a1 a2 : Nat} {S T : PS} {H : Heap} {locs : List Loc} {cells slots : Nat} {Q : State → Prop} {ls : Array Slot} {i : Nat} (hc : LX p l s m args meth c G M A b L xs k a0 a1 a2) (w : Wd G A s.heap S H locs) (u : Wd M A s.heap T H locs) (hr : RR S T) (hl : lv_has ls 8 (LV G M b i)) (hi : i + 5 ≤ L) (hf : cells ≤ room_1.cells ∧ slots ≤ room_1.slots) (K : ∀ S T H locs, Wd G A s.heap S H locs → Wd M A s.heap T H locs → RR S T → W p l e room_1 s m args below meth c H locs cells slots Q (F0 m 872 ls [])) : W p l e room_1 s m args below meth c H locs cells slots Q (F0 m 522 ls []) := by
  have hx := hc.1.1
  have hb := hc.1.2.1
  have hown := hc.1.2.2.2.1
  have hts := hc.1.2.2.2.2.1
  have hL := hc.2.2.2.1.2.2.2
  obtain ⟨hX, hM, hdj, hm79, hN79⟩ := hc.2.2.2.2.1
  obtain ⟨n, nr, nh, z, tl, pl, wr, br, sp, h⟩ := hr
  refine lv_aload_n hx hb dL_law_522 rfl (lv_at hl 1 rfl) ?_
  refine lv_aload_n hx hb dL_law_523 rfl (lv_at hl 0 rfl) ?_
  refine lv_iload hx hb dL_law_524 (lv_at hl 4 rfl) ?_
  refine lv_iconst (v := nI 1) hx hb dL_law_526 (by decide) ?_
  refine lv_iadd hx hb dL_law_527 ?_
  rw [nI_add]
  refine va_sld hx hb hc.2.2.2.1.1 hc.2.2.2.1.2.1 hc.2.2.2.1.2.2.1 w.2.2 (vp_in_nI (show i + 1 < L by omega) (by omega)) dL_law_528 ?_
  rw [nI_clamp (show i + 1 < 2 ^ 31 by omega)]
  refine c2I (n := 1) hc.1 w u hdj hl dL_law_529 (c_X5_put l G hX S h.lk tl h.t.1.1 h.t.1.2.2 (xs (i + 1))) gL_law_X5_put rfl (by decide +kernel) rfl rfl (Nat.le_of_ble_eq_true rfl) ⟨(Nat.le_of_ble_eq_true rfl), (Nat.le_of_ble_eq_true rfl)⟩ (by decide) rfl (oP5 hX) hf (fun v1 S2 H locs hp1 w u => ?_)
  refine lv_aload_n hx hb dL_law_532 rfl (lv_at hl 2 rfl) ?_
  refine lv_aload_n hx hb dL_law_533 rfl (lv_at hl 0 rfl) ?_
  refine lv_iload hx hb dL_law_534 (lv_at hl 4 rfl) ?_
  refine lv_iconst (v := nI 1) hx hb dL_law_536 (by decide) ?_
  refine lv_iadd hx hb dL_law_537 ?_
  rw [nI_add]
  refine va_sld hx hb hc.2.2.2.1.1 hc.2.2.2.1.2.1 hc.2.2.2.1.2.2.1 w.2.2 (vp_in_nI (show i + 1 < L by omega) (by omega)) dL_law_538 ?_
  rw [nI_clamp (show i + 1 < 2 ^ 31 by omega)]
  refine c2I (n := 1) hc.2.1 u w hdj.sy hl dL_law_539 (c_X6_put l M hM T h.lm tl h.t.1.2.1 h.t.1.2.2 (xs (i + 1))) gL_law_X6_put rfl (by decide +kernel) rfl rfl (Nat.le_of_ble_eq_true rfl) ⟨(Nat.le_of_ble_eq_true rfl), (Nat.le_of_ble_eq_true rfl)⟩ (by decide) rfl (oM6 hM) hf (fun v2 T2 H locs hp2 u w => ?_)
  obtain ⟨ev, hr2⟩ := st_put h hp1 hp2
  refine lv_icmp_eq (tgt := 872) hx hb dL_law_542 (by decide) (fun c_542 => ?_) (fun c_542 => absurd ev c_542)
  exact K _ _ _ _ w u hr2

set_option maxHeartbeats 4000000 in
set_option maxRecDepth 100000 in
/-- the law: read -/
theorem law_read (l : Launch) {p : Program} {e : Env} {s : State} {m : MethodId} {args : Array Value} {below : List Frame} {meth : Method} {c : Code} {G M : GT} {A : Nat → Prop} {b L : Nat} {xs : Nat → Int32} {k : SK} {a0 a1 a2 : Nat} {S T : PS} {H : Heap} {locs : List Loc} {cells slots : Nat} {Q : State → Prop} {ls : Array Slot} {i : Nat} (hc : LX p l s m args meth c G M A b L xs k a0 a1 a2) (w : Wd G A s.heap S H locs) (u : Wd M A s.heap T H locs) (hr : RR S T) (hl : lv_has ls 8 (LV G M b i)) (hi : i + 5 ≤ L) (hf : cells ≤ room_1.cells ∧ slots ≤ room_1.slots) (K : ∀ S T H locs, Wd G A s.heap S H locs → Wd M A s.heap T H locs → RR S T → W p l e room_1 s m args below meth c H locs cells slots Q (F0 m 872 ls [])) : W p l e room_1 s m args below meth c H locs cells slots Q (F0 m 547 ls []) := by
  have hx := hc.1.1
  have hb := hc.1.2.1
  have hown := hc.1.2.2.2.1
  have hts := hc.1.2.2.2.2.1
  have hL := hc.2.2.2.1.2.2.2
  obtain ⟨hX, hM, hdj, hm79, hN79⟩ := hc.2.2.2.2.1
  obtain ⟨n, nr, nh, z, tl, pl, wr, br, sp, h⟩ := hr
  refine lv_aload_n hx hb dL_law_547 rfl (lv_at hl 1 rfl) ?_
  refine c2K (n := 0) hc.1 hc.2.2.1.1 w u hdj hl dL_law_548 (c_X5_read l G k hX S h.lk n h.nm.1 h.nm.2.2 (sI S 7 0) tl rfl h.t.1.1 h.t.1.2.2) gL_law_X5_read rfl (by decide +kernel) rfl rfl (Nat.le_of_ble_eq_true rfl) ⟨(Nat.le_of_ble_eq_true rfl), (Nat.le_of_ble_eq_true rfl)⟩ (by decide) rfl (oP5 hX) hf (fun v1 S2 H locs hp1 w u => ?_)
  refine lv_aload_n hx hb dL_law_551 rfl (lv_at hl 2 rfl) ?_
  refine c2I (n := 0) hc.2.1 u w hdj.sy hl dL_law_552 (c_X6_read l M hM T h.lm n h.nm.2.1 h.nm.2.2 (sI T 8 4) tl rfl h.t.1.2.1 h.t.1.2.2) gL_law_X6_read rfl (by decide +kernel) rfl rfl (Nat.le_of_ble_eq_true rfl) ⟨(Nat.le_of_ble_eq_true rfl), (Nat.le_of_ble_eq_true rfl)⟩ (by decide) rfl (oM6 hM) hf (fun v2 T2 H locs hp2 u w => ?_)
  obtain ⟨ev, hr2⟩ := st_read h hp1 hp2
  refine lv_icmp_eq (tgt := 872) hx hb dL_law_555 (by decide) (fun c_555 => ?_) (fun c_555 => absurd ev c_555)
  exact K _ _ _ _ w u hr2

set_option maxHeartbeats 4000000 in
set_option maxRecDepth 100000 in
/-- the law: print -/
theorem law_print (l : Launch) {p : Program} {e : Env} {s : State} {m : MethodId} {args : Array Value} {below : List Frame} {meth : Method} {c : Code} {G M : GT} {A : Nat → Prop} {b L : Nat} {xs : Nat → Int32} {k : SK} {a0 a1 a2 : Nat} {S T : PS} {H : Heap} {locs : List Loc} {cells slots : Nat} {Q : State → Prop} {ls : Array Slot} {i : Nat} (hc : LX p l s m args meth c G M A b L xs k a0 a1 a2) (w : Wd G A s.heap S H locs) (u : Wd M A s.heap T H locs) (hr : RR S T) (hl : lv_has ls 8 (LV G M b i)) (hi : i + 5 ≤ L) (hf : cells ≤ room_1.cells ∧ slots ≤ room_1.slots) (K : ∀ S T H locs, Wd G A s.heap S H locs → Wd M A s.heap T H locs → RR S T → W p l e room_1 s m args below meth c H locs cells slots Q (F0 m 872 ls [])) : W p l e room_1 s m args below meth c H locs cells slots Q (F0 m 560 ls []) := by
  have hx := hc.1.1
  have hb := hc.1.2.1
  have hown := hc.1.2.2.2.1
  have hts := hc.1.2.2.2.2.1
  have hL := hc.2.2.2.1.2.2.2
  obtain ⟨hX, hM, hdj, hm79, hN79⟩ := hc.2.2.2.2.1
  obtain ⟨n, nr, nh, z, tl, pl, wr, br, sp, h⟩ := hr
  refine lv_aload_n hx hb dL_law_560 rfl (lv_at hl 1 rfl) ?_
  refine lv_aload_n hx hb dL_law_561 rfl (lv_at hl 0 rfl) ?_
  refine lv_iload hx hb dL_law_562 (lv_at hl 4 rfl) ?_
  refine lv_iconst (v := nI 1) hx hb dL_law_564 (by decide) ?_
  refine lv_iadd hx hb dL_law_565 ?_
  rw [nI_add]
  refine va_sld hx hb hc.2.2.2.1.1 hc.2.2.2.1.2.1 hc.2.2.2.1.2.2.1 w.2.2 (vp_in_nI (show i + 1 < L by omega) (by omega)) dL_law_566 ?_
  rw [nI_clamp (show i + 1 < 2 ^ 31 by omega)]
  refine c2K (n := 1) hc.1 hc.2.2.1.1 w u hdj hl dL_law_567 (c_X5_print l G k hX S h.lk n h.nm.1 h.nm.2.2 h.s3 (fun i hi => (h.hd i hi).1) (fun i hi => (h.sz i hi).1) (xs (i + 1))) gL_law_X5_print rfl (by decide +kernel) rfl rfl (Nat.le_of_ble_eq_true rfl) ⟨(Nat.le_of_ble_eq_true rfl), (Nat.le_of_ble_eq_true rfl)⟩ (by decide) rfl (oP5 hX) hf (fun v1 S2 H locs hp1 w u => ?_)
  refine lv_aload_n hx hb dL_law_570 rfl (lv_at hl 2 rfl) ?_
  refine lv_aload_n hx hb dL_law_571 rfl (lv_at hl 0 rfl) ?_
  refine lv_iload hx hb dL_law_572 (lv_at hl 4 rfl) ?_
  refine lv_iconst (v := nI 1) hx hb dL_law_574 (by decide) ?_
  refine lv_iadd hx hb dL_law_575 ?_
  rw [nI_add]
  refine va_sld hx hb hc.2.2.2.1.1 hc.2.2.2.1.2.1 hc.2.2.2.1.2.2.1 w.2.2 (vp_in_nI (show i + 1 < L by omega) (by omega)) dL_law_576 ?_
  rw [nI_clamp (show i + 1 < 2 ^ 31 by omega)]
  refine c2I (n := 1) hc.2.1 u w hdj.sy hl dL_law_577 (c_X6_print l M hM T h.lm n h.nm.2.1 h.nm.2.2 h.s3M (fun i hi => (h.hdM i hi).1) (fun i hi => (h.szM i hi).1) h.s0M (xs (i + 1))) gL_law_X6_print rfl (by decide +kernel) rfl rfl (Nat.le_of_ble_eq_true rfl) ⟨(Nat.le_of_ble_eq_true rfl), (Nat.le_of_ble_eq_true rfl)⟩ (by decide) rfl (oM6 hM) hf (fun v2 T2 H locs hp2 u w => ?_)
  obtain ⟨ev, hr2⟩ := st_print h hp1 hp2
  refine lv_icmp_eq (tgt := 872) hx hb dL_law_580 (by decide) (fun c_580 => ?_) (fun c_580 => absurd ev c_580)
  exact K _ _ _ _ w u hr2

set_option maxHeartbeats 4000000 in
set_option maxRecDepth 100000 in
/-- the law: out -/
theorem law_out (l : Launch) {p : Program} {e : Env} {s : State} {m : MethodId} {args : Array Value} {below : List Frame} {meth : Method} {c : Code} {G M : GT} {A : Nat → Prop} {b L : Nat} {xs : Nat → Int32} {k : SK} {a0 a1 a2 : Nat} {S T : PS} {H : Heap} {locs : List Loc} {cells slots : Nat} {Q : State → Prop} {ls : Array Slot} {i : Nat} (hc : LX p l s m args meth c G M A b L xs k a0 a1 a2) (w : Wd G A s.heap S H locs) (u : Wd M A s.heap T H locs) (hr : RR S T) (hl : lv_has ls 8 (LV G M b i)) (hi : i + 5 ≤ L) (hf : cells ≤ room_1.cells ∧ slots ≤ room_1.slots) (K : ∀ S T H locs, Wd G A s.heap S H locs → Wd M A s.heap T H locs → RR S T → W p l e room_1 s m args below meth c H locs cells slots Q (F0 m 872 ls [])) : W p l e room_1 s m args below meth c H locs cells slots Q (F0 m 585 ls []) := by
  have hx := hc.1.1
  have hb := hc.1.2.1
  have hown := hc.1.2.2.2.1
  have hts := hc.1.2.2.2.2.1
  have hL := hc.2.2.2.1.2.2.2
  obtain ⟨hX, hM, hdj, hm79, hN79⟩ := hc.2.2.2.2.1
  obtain ⟨n, nr, nh, z, tl, pl, wr, br, sp, h⟩ := hr
  refine lv_aload_n hx hb dL_law_585 rfl (lv_at hl 1 rfl) ?_
  refine lv_aload_n hx hb dL_law_586 rfl (lv_at hl 0 rfl) ?_
  refine lv_iload hx hb dL_law_587 (lv_at hl 4 rfl) ?_
  refine lv_iconst (v := nI 1) hx hb dL_law_589 (by decide) ?_
  refine lv_iadd hx hb dL_law_590 ?_
  rw [nI_add]
  refine va_sld hx hb hc.2.2.2.1.1 hc.2.2.2.1.2.1 hc.2.2.2.1.2.2.1 w.2.2 (vp_in_nI (show i + 1 < L by omega) (by omega)) dL_law_591 ?_
  rw [nI_clamp (show i + 1 < 2 ^ 31 by omega)]
  refine c2I (n := 1) hc.1 w u hdj hl dL_law_592 (c_X5_out l G hX S h.lk pl h.t.2.2.1.1 h.t.2.2.1.2.2 (xs (i + 1))) gL_law_X5_out rfl (by decide +kernel) rfl rfl (Nat.le_of_ble_eq_true rfl) ⟨(Nat.le_of_ble_eq_true rfl), (Nat.le_of_ble_eq_true rfl)⟩ (by decide) rfl (oP5 hX) hf (fun v1 S2 H locs hp1 w u => ?_)
  refine lv_aload_n hx hb dL_law_595 rfl (lv_at hl 2 rfl) ?_
  refine lv_aload_n hx hb dL_law_596 rfl (lv_at hl 0 rfl) ?_
  refine lv_iload hx hb dL_law_597 (lv_at hl 4 rfl) ?_
  refine lv_iconst (v := nI 1) hx hb dL_law_599 (by decide) ?_
  refine lv_iadd hx hb dL_law_600 ?_
  rw [nI_add]
  refine va_sld hx hb hc.2.2.2.1.1 hc.2.2.2.1.2.1 hc.2.2.2.1.2.2.1 w.2.2 (vp_in_nI (show i + 1 < L by omega) (by omega)) dL_law_601 ?_
  rw [nI_clamp (show i + 1 < 2 ^ 31 by omega)]
  refine c2I (n := 1) hc.2.1 u w hdj.sy hl dL_law_602 (c_X6_out l M hM T h.lm pl h.t.2.2.1.2.1 (by have := h.t.2.2.1.2.2; omega) (xs (i + 1))) gL_law_X6_out rfl (by decide +kernel) rfl rfl (Nat.le_of_ble_eq_true rfl) ⟨(Nat.le_of_ble_eq_true rfl), (Nat.le_of_ble_eq_true rfl)⟩ (by decide) rfl (oM6 hM) hf (fun v2 T2 H locs hp2 u w => ?_)
  obtain ⟨ev, hr2⟩ := st_out h hp1 hp2
  refine lv_icmp_eq (tgt := 872) hx hb dL_law_605 (by decide) (fun c_605 => ?_) (fun c_605 => absurd ev c_605)
  exact K _ _ _ _ w u hr2
