theorem gLm {L i : Nat} (hL : L < 6) (hi : i < 2 ^ 31) : nI L - 6 < nI i := by
  have h0 : (0 : Int32) ≤ nI i := nI_pos' hi
  rcases (show L = 0 ∨ L = 1 ∨ L = 2 ∨ L = 3 ∨ L = 4 ∨ L = 5 by omega) with rfl | rfl | rfl | rfl | rfl | rfl <;> exact Int32.lt_of_lt_of_le (by decide) h0
theorem lc_feed {p : Program} {l : Launch} {e : Env} {s : State} {m : MethodId} {below : List Frame} {meth : Method} {c : Code} {b : Nat} {A : Nat → Prop} {Q : State → Prop} {D : va_G} {cI cB cZ : ClassId} {K : gKS} (G : gL p s m c b A D cI cB cZ K) {H : Heap} {locs : List Loc} {ls : Array Slot} {L : Nat} {xs : Nat → Int32} (hX : va_X b L xs s s.heap) (hbl : b < s.heap.size) (hbA : ¬ A b) {w8 w9 : va_W} {x0 y0 tz kc ns i : Nat} {f : Nat → Int32} {fp ld : Int32} {nc : Nat} {Lv : Nat → Nat} {cf : Nat → Int32} {pf : Nat → Int32} {vst : Int32} {vk : Nat} {vm : Int32} {vd : Nat → Int32} (hi : i + 6 ≤ L) (hL : L ≤ 3072) (h8 : HallI cI cB cZ x0 w8 tz f fp ld nc Lv cf pf vst vk vm vd kc ns) (h9 : ModelI cI cB cZ y0 w9 tz f fp ld nc Lv cf pf vst vk vm vd) (hP : va_P D vwCl (w8 ++ w9) H) (hD : va_D A (w8 ++ w9)) (hS : va_S A s.heap H locs) (hl : lv_has ls 4 [(3, .int (nI i)), (2, .ref y0), (1, .ref x0), (0, .ref b)]) (kk : ∀ (w8' w9' : va_W) (tz9 : Nat) (f9 : Nat → Int32) (fp9 ld9 : Int32) (nc9 : Nat) (Lv9 : Nat → Nat) (cf9 : Nat → Int32) (pf9 : Nat → Int32) (vst9 : Int32) (vk9 : Nat) (vm9 : Int32) (vd9 : Nat → Int32) (kc9 ns9 : Nat) (H1 : Heap) (locs1 : List Loc), HallI cI cB cZ x0 w8' tz9 f9 fp9 ld9 nc9 Lv9 cf9 pf9 vst9 vk9 vm9 vd9 kc9 ns9 → ModelI cI cB cZ y0 w9' tz9 f9 fp9 ld9 nc9 Lv9 cf9 pf9 vst9 vk9 vm9 vd9 → va_P D vwCl (w8' ++ w9') H1 → va_D A (w8' ++ w9') → va_S A s.heap H1 locs1 → W p l e room_1 s m #[Value.ref b] below meth c H1 locs1 kc9 ns9 Q (F0 m 705 ls [])) : W p l e room_1 s m #[Value.ref b] below meth c H locs kc ns Q (F0 m 132 ls []) := by
  obtain ⟨hx, hb, -⟩ := id G
  refine lv_aload_n hx hb dL_law_132 rfl (lv_at hl 2 rfl) ?_
  refine lv_aload_n hx hb dL_law_133 rfl (lv_at hl 3 rfl) ?_
  refine lv_iload_n hx hb dL_law_134 rfl (lv_at hl 0 rfl) ?_
  refine lv_iconst (v := 1) hx hb dL_law_135 (by decide) ?_
  refine lv_iadd hx hb dL_law_136 ?_
  refine gx_top (y := nI (i + 1)) (nI_add i 1) ?_
  refine va_sld hx hb hX hbl hbA hS (ge_vi (by omega) (by omega)) dL_law_137 ?_
  refine lv_aload_n hx hb dL_law_138 rfl (lv_at hl 3 rfl) ?_
  refine lv_iload_n hx hb dL_law_139 rfl (lv_at hl 0 rfl) ?_
  refine lv_iconst (v := 2) hx hb dL_law_140 (by decide) ?_
  refine lv_iadd hx hb dL_law_141 ?_
  refine gx_top (y := nI (i + 2)) (nI_add i 2) ?_
  refine va_sld hx hb hX hbl hbA hS (ge_vi (by omega) (by omega)) dL_law_142 ?_
  refine lv_aload_n hx hb dL_law_143 rfl (lv_at hl 3 rfl) ?_
  refine lv_iload_n hx hb dL_law_144 rfl (lv_at hl 0 rfl) ?_
  refine lv_iconst (v := 3) hx hb dL_law_145 (by decide) ?_
  refine lv_iadd hx hb dL_law_146 ?_
  refine gx_top (y := nI (i + 3)) (nI_add i 3) ?_
  refine va_sld hx hb hX hbl hbA hS (ge_vi (by omega) (by omega)) dL_law_147 ?_
  refine lv_aload_n hx hb dL_law_148 rfl (lv_at hl 3 rfl) ?_
  refine lv_iload_n hx hb dL_law_149 rfl (lv_at hl 0 rfl) ?_
  refine lv_iconst (v := 4) hx hb dL_law_150 (by decide) ?_
  refine lv_iadd hx hb dL_law_151 ?_
  refine gx_top (y := nI (i + 4)) (nI_add i 4) ?_
  refine va_sld hx hb hX hbl hbA hS (ge_vi (by omega) (by omega)) dL_law_152 ?_
  refine lv_aload_n hx hb dL_law_153 rfl (lv_at hl 3 rfl) ?_
  refine lv_iload_n hx hb dL_law_154 rfl (lv_at hl 0 rfl) ?_
  refine lv_iconst (v := 5) hx hb dL_law_155 (by decide) ?_
  refine lv_iadd hx hb dL_law_156 ?_
  refine gx_top (y := nI (i + 5)) (nI_add i 5) ?_
  refine va_sld hx hb hX hbl hbA hS (ge_vi (by omega) (by omega)) dL_law_157 ?_
  refine hl_feed G h8 hP hD hS ⟨hl.1, trivial⟩ (Model_sk h9) _ _ _ _ _ (fun r w8 tz9 f9 fp9 ld9 nc9 Lv9 cf9 pf9 vst9 vk9 vm9 vd9 kc9 ns9 H locs h8 hrel hP hD hS => ?_)
  refine lv_pop hx hb dL_law_161 rfl ?_
  refine lv_aload_n hx hb dL_law_162 rfl (lv_at hl 1 rfl) ?_
  refine lv_aload_n hx hb dL_law_163 rfl (lv_at hl 3 rfl) ?_
  refine lv_iload_n hx hb dL_law_164 rfl (lv_at hl 0 rfl) ?_
  refine lv_iconst (v := 1) hx hb dL_law_165 (by decide) ?_
  refine lv_iadd hx hb dL_law_166 ?_
  refine gx_top (y := nI (i + 1)) (nI_add i 1) ?_
  refine va_sld hx hb hX hbl hbA hS (ge_vi (by omega) (by omega)) dL_law_167 ?_
  refine lv_aload_n hx hb dL_law_168 rfl (lv_at hl 3 rfl) ?_
  refine lv_iload_n hx hb dL_law_169 rfl (lv_at hl 0 rfl) ?_
  refine lv_iconst (v := 2) hx hb dL_law_170 (by decide) ?_
  refine lv_iadd hx hb dL_law_171 ?_
  refine gx_top (y := nI (i + 2)) (nI_add i 2) ?_
  refine va_sld hx hb hX hbl hbA hS (ge_vi (by omega) (by omega)) dL_law_172 ?_
  refine lv_aload_n hx hb dL_law_173 rfl (lv_at hl 3 rfl) ?_
  refine lv_iload_n hx hb dL_law_174 rfl (lv_at hl 0 rfl) ?_
  refine lv_iconst (v := 3) hx hb dL_law_175 (by decide) ?_
  refine lv_iadd hx hb dL_law_176 ?_
  refine gx_top (y := nI (i + 3)) (nI_add i 3) ?_
  refine va_sld hx hb hX hbl hbA hS (ge_vi (by omega) (by omega)) dL_law_177 ?_
  refine lv_aload_n hx hb dL_law_178 rfl (lv_at hl 3 rfl) ?_
  refine lv_iload_n hx hb dL_law_179 rfl (lv_at hl 0 rfl) ?_
  refine lv_iconst (v := 4) hx hb dL_law_180 (by decide) ?_
  refine lv_iadd hx hb dL_law_181 ?_
  refine gx_top (y := nI (i + 4)) (nI_add i 4) ?_
  refine va_sld hx hb hX hbl hbA hS (ge_vi (by omega) (by omega)) dL_law_182 ?_
  refine lv_aload_n hx hb dL_law_183 rfl (lv_at hl 3 rfl) ?_
  refine lv_iload_n hx hb dL_law_184 rfl (lv_at hl 0 rfl) ?_
  refine lv_iconst (v := 5) hx hb dL_law_185 (by decide) ?_
  refine lv_iadd hx hb dL_law_186 ?_
  refine gx_top (y := nI (i + 5)) (nI_add i 5) ?_
  refine va_sld hx hb hX hbl hbA hS (ge_vi (by omega) (by omega)) dL_law_187 ?_
  have hle := Hall_le h8
  refine md_feed G ⟨hle.1, hle.2.1⟩ h9 (gq_swapP hP) (gq_swapD hD) hS ⟨hl.1, trivial⟩ _ _ _ _ _ r hrel (fun r9 w9 H locs h9 er hP hD hS => ?_)
  refine lv_pop hx hb dL_law_191 rfl ?_
  refine lv_goto (tgt := 705) hx hb dL_law_192 (by decide) ?_
  exact kk _ _ _ _ _ _ _ _ _ _ _ _ _ _ _ _ H locs h8 h9 (gq_swapP hP) (gq_swapD hD) hS
theorem lc_back {p : Program} {l : Launch} {e : Env} {s : State} {m : MethodId} {below : List Frame} {meth : Method} {c : Code} {b : Nat} {A : Nat → Prop} {Q : State → Prop} {D : va_G} {cI cB cZ : ClassId} {K : gKS} (G : gL p s m c b A D cI cB cZ K) {H : Heap} {locs : List Loc} {ls : Array Slot} {L : Nat} {xs : Nat → Int32} (hX : va_X b L xs s s.heap) (hbl : b < s.heap.size) (hbA : ¬ A b) {w8 w9 : va_W} {x0 y0 tz kc ns i : Nat} {f : Nat → Int32} {fp ld : Int32} {nc : Nat} {Lv : Nat → Nat} {cf : Nat → Int32} {pf : Nat → Int32} {vst : Int32} {vk : Nat} {vm : Int32} {vd : Nat → Int32} (hi : i + 6 ≤ L) (hL : L ≤ 3072) (h8 : HallI cI cB cZ x0 w8 tz f fp ld nc Lv cf pf vst vk vm vd kc ns) (h9 : ModelI cI cB cZ y0 w9 tz f fp ld nc Lv cf pf vst vk vm vd) (hP : va_P D vwCl (w8 ++ w9) H) (hD : va_D A (w8 ++ w9)) (hS : va_S A s.heap H locs) (hl : lv_has ls 4 [(3, .int (nI i)), (2, .ref y0), (1, .ref x0), (0, .ref b)]) (kk : ∀ (w8' w9' : va_W) (tz9 : Nat) (f9 : Nat → Int32) (fp9 ld9 : Int32) (nc9 : Nat) (Lv9 : Nat → Nat) (cf9 : Nat → Int32) (pf9 : Nat → Int32) (vst9 : Int32) (vk9 : Nat) (vm9 : Int32) (vd9 : Nat → Int32) (kc9 ns9 : Nat) (H1 : Heap) (locs1 : List Loc), HallI cI cB cZ x0 w8' tz9 f9 fp9 ld9 nc9 Lv9 cf9 pf9 vst9 vk9 vm9 vd9 kc9 ns9 → ModelI cI cB cZ y0 w9' tz9 f9 fp9 ld9 nc9 Lv9 cf9 pf9 vst9 vk9 vm9 vd9 → va_P D vwCl (w8' ++ w9') H1 → va_D A (w8' ++ w9') → va_S A s.heap H1 locs1 → W p l e room_1 s m #[Value.ref b] below meth c H1 locs1 kc9 ns9 Q (F0 m 705 ls [])) : W p l e room_1 s m #[Value.ref b] below meth c H locs kc ns Q (F0 m 195 ls []) := by
  obtain ⟨hx, hb, -⟩ := id G
  refine lv_aload_n hx hb dL_law_195 rfl (lv_at hl 2 rfl) ?_
  refine lv_aload_n hx hb dL_law_196 rfl (lv_at hl 3 rfl) ?_
  refine lv_iload_n hx hb dL_law_197 rfl (lv_at hl 0 rfl) ?_
  refine lv_iconst (v := 1) hx hb dL_law_198 (by decide) ?_
  refine lv_iadd hx hb dL_law_199 ?_
  refine gx_top (y := nI (i + 1)) (nI_add i 1) ?_
  refine va_sld hx hb hX hbl hbA hS (ge_vi (by omega) (by omega)) dL_law_200 ?_
  refine hl_back G h8 hP hD hS ⟨hl.1, trivial⟩ (Model_sk h9) _ (fun r w8 tz9 f9 fp9 ld9 nc9 Lv9 cf9 pf9 vst9 vk9 vm9 vd9 kc9 ns9 H locs h8 hrel hP hD hS => ?_)
  refine lv_pop hx hb dL_law_204 rfl ?_
  refine lv_aload_n hx hb dL_law_205 rfl (lv_at hl 1 rfl) ?_
  refine lv_aload_n hx hb dL_law_206 rfl (lv_at hl 3 rfl) ?_
  refine lv_iload_n hx hb dL_law_207 rfl (lv_at hl 0 rfl) ?_
  refine lv_iconst (v := 1) hx hb dL_law_208 (by decide) ?_
  refine lv_iadd hx hb dL_law_209 ?_
  refine gx_top (y := nI (i + 1)) (nI_add i 1) ?_
  refine va_sld hx hb hX hbl hbA hS (ge_vi (by omega) (by omega)) dL_law_210 ?_
  have hle := Hall_le h8
  refine md_back G ⟨hle.1, hle.2.1⟩ h9 (gq_swapP hP) (gq_swapD hD) hS ⟨hl.1, trivial⟩ _ r hrel (fun r9 w9 H locs h9 er hP hD hS => ?_)
  refine lv_pop hx hb dL_law_214 rfl ?_
  refine lv_goto (tgt := 705) hx hb dL_law_215 (by decide) ?_
  exact kk _ _ _ _ _ _ _ _ _ _ _ _ _ _ _ _ H locs h8 h9 (gq_swapP hP) (gq_swapD hD) hS
theorem lc_read {p : Program} {l : Launch} {e : Env} {s : State} {m : MethodId} {below : List Frame} {meth : Method} {c : Code} {b : Nat} {A : Nat → Prop} {Q : State → Prop} {D : va_G} {cI cB cZ : ClassId} {K : gKS} (G : gL p s m c b A D cI cB cZ K) {H : Heap} {locs : List Loc} {ls : Array Slot} {L : Nat} {xs : Nat → Int32} (hX : va_X b L xs s s.heap) (hbl : b < s.heap.size) (hbA : ¬ A b) {w8 w9 : va_W} {x0 y0 tz kc ns i : Nat} {f : Nat → Int32} {fp ld : Int32} {nc : Nat} {Lv : Nat → Nat} {cf : Nat → Int32} {pf : Nat → Int32} {vst : Int32} {vk : Nat} {vm : Int32} {vd : Nat → Int32} (hi : i + 6 ≤ L) (hL : L ≤ 3072) (h8 : HallI cI cB cZ x0 w8 tz f fp ld nc Lv cf pf vst vk vm vd kc ns) (h9 : ModelI cI cB cZ y0 w9 tz f fp ld nc Lv cf pf vst vk vm vd) (hP : va_P D vwCl (w8 ++ w9) H) (hD : va_D A (w8 ++ w9)) (hS : va_S A s.heap H locs) (hl : lv_has ls 4 [(3, .int (nI i)), (2, .ref y0), (1, .ref x0), (0, .ref b)]) (kk : ∀ (w8' w9' : va_W) (tz9 : Nat) (f9 : Nat → Int32) (fp9 ld9 : Int32) (nc9 : Nat) (Lv9 : Nat → Nat) (cf9 : Nat → Int32) (pf9 : Nat → Int32) (vst9 : Int32) (vk9 : Nat) (vm9 : Int32) (vd9 : Nat → Int32) (kc9 ns9 : Nat) (H1 : Heap) (locs1 : List Loc), HallI cI cB cZ x0 w8' tz9 f9 fp9 ld9 nc9 Lv9 cf9 pf9 vst9 vk9 vm9 vd9 kc9 ns9 → ModelI cI cB cZ y0 w9' tz9 f9 fp9 ld9 nc9 Lv9 cf9 pf9 vst9 vk9 vm9 vd9 → va_P D vwCl (w8' ++ w9') H1 → va_D A (w8' ++ w9') → va_S A s.heap H1 locs1 → W p l e room_1 s m #[Value.ref b] below meth c H1 locs1 kc9 ns9 Q (F0 m 705 ls [])) : W p l e room_1 s m #[Value.ref b] below meth c H locs kc ns Q (F0 m 218 ls []) := by
  obtain ⟨hx, hb, -⟩ := id G
  refine lv_aload_n hx hb dL_law_218 rfl (lv_at hl 2 rfl) ?_
  refine hl_read G h8 hP hD hS ⟨hl.1, trivial⟩ (Model_sk h9)  (fun r w8 tz9 f9 fp9 ld9 nc9 Lv9 cf9 pf9 vst9 vk9 vm9 vd9 kc9 ns9 H locs h8 hrel hP hD hS => ?_)
  refine lv_pop hx hb dL_law_222 rfl ?_
  refine lv_aload_n hx hb dL_law_223 rfl (lv_at hl 1 rfl) ?_
  have hle := Hall_le h8
  refine md_read G ⟨hle.1, hle.2.1⟩ h9 (gq_swapP hP) (gq_swapD hD) hS ⟨hl.1, trivial⟩ r hrel (fun r9 w9 H locs h9 er hP hD hS => ?_)
  refine lv_pop hx hb dL_law_227 rfl ?_
  refine lv_goto (tgt := 705) hx hb dL_law_228 (by decide) ?_
  exact kk _ _ _ _ _ _ _ _ _ _ _ _ _ _ _ _ H locs h8 h9 (gq_swapP hP) (gq_swapD hD) hS
theorem lc_place {p : Program} {l : Launch} {e : Env} {s : State} {m : MethodId} {below : List Frame} {meth : Method} {c : Code} {b : Nat} {A : Nat → Prop} {Q : State → Prop} {D : va_G} {cI cB cZ : ClassId} {K : gKS} (G : gL p s m c b A D cI cB cZ K) {H : Heap} {locs : List Loc} {ls : Array Slot} {L : Nat} {xs : Nat → Int32} (hX : va_X b L xs s s.heap) (hbl : b < s.heap.size) (hbA : ¬ A b) {w8 w9 : va_W} {x0 y0 tz kc ns i : Nat} {f : Nat → Int32} {fp ld : Int32} {nc : Nat} {Lv : Nat → Nat} {cf : Nat → Int32} {pf : Nat → Int32} {vst : Int32} {vk : Nat} {vm : Int32} {vd : Nat → Int32} (hi : i + 6 ≤ L) (hL : L ≤ 3072) (h8 : HallI cI cB cZ x0 w8 tz f fp ld nc Lv cf pf vst vk vm vd kc ns) (h9 : ModelI cI cB cZ y0 w9 tz f fp ld nc Lv cf pf vst vk vm vd) (hP : va_P D vwCl (w8 ++ w9) H) (hD : va_D A (w8 ++ w9)) (hS : va_S A s.heap H locs) (hl : lv_has ls 4 [(3, .int (nI i)), (2, .ref y0), (1, .ref x0), (0, .ref b)]) (kk : ∀ (w8' w9' : va_W) (tz9 : Nat) (f9 : Nat → Int32) (fp9 ld9 : Int32) (nc9 : Nat) (Lv9 : Nat → Nat) (cf9 : Nat → Int32) (pf9 : Nat → Int32) (vst9 : Int32) (vk9 : Nat) (vm9 : Int32) (vd9 : Nat → Int32) (kc9 ns9 : Nat) (H1 : Heap) (locs1 : List Loc), HallI cI cB cZ x0 w8' tz9 f9 fp9 ld9 nc9 Lv9 cf9 pf9 vst9 vk9 vm9 vd9 kc9 ns9 → ModelI cI cB cZ y0 w9' tz9 f9 fp9 ld9 nc9 Lv9 cf9 pf9 vst9 vk9 vm9 vd9 → va_P D vwCl (w8' ++ w9') H1 → va_D A (w8' ++ w9') → va_S A s.heap H1 locs1 → W p l e room_1 s m #[Value.ref b] below meth c H1 locs1 kc9 ns9 Q (F0 m 705 ls [])) : W p l e room_1 s m #[Value.ref b] below meth c H locs kc ns Q (F0 m 231 ls []) := by
  obtain ⟨hx, hb, -⟩ := id G
  refine lv_aload_n hx hb dL_law_231 rfl (lv_at hl 2 rfl) ?_
  refine hl_place G h8 hP hD hS ⟨hl.1, trivial⟩ (Model_sk h9)  (fun r w8 tz9 f9 fp9 ld9 nc9 Lv9 cf9 pf9 vst9 vk9 vm9 vd9 kc9 ns9 H locs h8 hrel hP hD hS => ?_)
  refine lv_pop hx hb dL_law_235 rfl ?_
  refine lv_aload_n hx hb dL_law_236 rfl (lv_at hl 1 rfl) ?_
  have hle := Hall_le h8
  refine md_place G ⟨hle.1, hle.2.1⟩ h9 (gq_swapP hP) (gq_swapD hD) hS ⟨hl.1, trivial⟩ r hrel (fun r9 w9 H locs h9 er hP hD hS => ?_)
  refine lv_pop hx hb dL_law_240 rfl ?_
  refine lv_goto (tgt := 705) hx hb dL_law_241 (by decide) ?_
  exact kk _ _ _ _ _ _ _ _ _ _ _ _ _ _ _ _ H locs h8 h9 (gq_swapP hP) (gq_swapD hD) hS
theorem lc_ins {p : Program} {l : Launch} {e : Env} {s : State} {m : MethodId} {below : List Frame} {meth : Method} {c : Code} {b : Nat} {A : Nat → Prop} {Q : State → Prop} {D : va_G} {cI cB cZ : ClassId} {K : gKS} (G : gL p s m c b A D cI cB cZ K) {H : Heap} {locs : List Loc} {ls : Array Slot} {L : Nat} {xs : Nat → Int32} (hX : va_X b L xs s s.heap) (hbl : b < s.heap.size) (hbA : ¬ A b) {w8 w9 : va_W} {x0 y0 tz kc ns i : Nat} {f : Nat → Int32} {fp ld : Int32} {nc : Nat} {Lv : Nat → Nat} {cf : Nat → Int32} {pf : Nat → Int32} {vst : Int32} {vk : Nat} {vm : Int32} {vd : Nat → Int32} (hi : i + 6 ≤ L) (hL : L ≤ 3072) (h8 : HallI cI cB cZ x0 w8 tz f fp ld nc Lv cf pf vst vk vm vd kc ns) (h9 : ModelI cI cB cZ y0 w9 tz f fp ld nc Lv cf pf vst vk vm vd) (hP : va_P D vwCl (w8 ++ w9) H) (hD : va_D A (w8 ++ w9)) (hS : va_S A s.heap H locs) (hl : lv_has ls 4 [(3, .int (nI i)), (2, .ref y0), (1, .ref x0), (0, .ref b)]) (kk : ∀ (w8' w9' : va_W) (tz9 : Nat) (f9 : Nat → Int32) (fp9 ld9 : Int32) (nc9 : Nat) (Lv9 : Nat → Nat) (cf9 : Nat → Int32) (pf9 : Nat → Int32) (vst9 : Int32) (vk9 : Nat) (vm9 : Int32) (vd9 : Nat → Int32) (kc9 ns9 : Nat) (H1 : Heap) (locs1 : List Loc), HallI cI cB cZ x0 w8' tz9 f9 fp9 ld9 nc9 Lv9 cf9 pf9 vst9 vk9 vm9 vd9 kc9 ns9 → ModelI cI cB cZ y0 w9' tz9 f9 fp9 ld9 nc9 Lv9 cf9 pf9 vst9 vk9 vm9 vd9 → va_P D vwCl (w8' ++ w9') H1 → va_D A (w8' ++ w9') → va_S A s.heap H1 locs1 → W p l e room_1 s m #[Value.ref b] below meth c H1 locs1 kc9 ns9 Q (F0 m 705 ls [])) : W p l e room_1 s m #[Value.ref b] below meth c H locs kc ns Q (F0 m 244 ls []) := by
  obtain ⟨hx, hb, -⟩ := id G
  refine lv_aload_n hx hb dL_law_244 rfl (lv_at hl 2 rfl) ?_
  refine lv_aload_n hx hb dL_law_245 rfl (lv_at hl 3 rfl) ?_
  refine lv_iload_n hx hb dL_law_246 rfl (lv_at hl 0 rfl) ?_
  refine lv_iconst (v := 1) hx hb dL_law_247 (by decide) ?_
  refine lv_iadd hx hb dL_law_248 ?_
  refine gx_top (y := nI (i + 1)) (nI_add i 1) ?_
  refine va_sld hx hb hX hbl hbA hS (ge_vi (by omega) (by omega)) dL_law_249 ?_
  refine lv_aload_n hx hb dL_law_250 rfl (lv_at hl 3 rfl) ?_
  refine lv_iload_n hx hb dL_law_251 rfl (lv_at hl 0 rfl) ?_
  refine lv_iconst (v := 2) hx hb dL_law_252 (by decide) ?_
  refine lv_iadd hx hb dL_law_253 ?_
  refine gx_top (y := nI (i + 2)) (nI_add i 2) ?_
  refine va_sld hx hb hX hbl hbA hS (ge_vi (by omega) (by omega)) dL_law_254 ?_
  refine lv_aload_n hx hb dL_law_255 rfl (lv_at hl 3 rfl) ?_
  refine lv_iload_n hx hb dL_law_256 rfl (lv_at hl 0 rfl) ?_
  refine lv_iconst (v := 3) hx hb dL_law_257 (by decide) ?_
  refine lv_iadd hx hb dL_law_258 ?_
  refine gx_top (y := nI (i + 3)) (nI_add i 3) ?_
  refine va_sld hx hb hX hbl hbA hS (ge_vi (by omega) (by omega)) dL_law_259 ?_
  refine hl_ins G h8 hP hD hS ⟨hl.1, trivial⟩ (Model_sk h9) _ _ _ (fun r w8 tz9 f9 fp9 ld9 nc9 Lv9 cf9 pf9 vst9 vk9 vm9 vd9 kc9 ns9 H locs h8 hrel hP hD hS => ?_)
  refine lv_pop hx hb dL_law_263 rfl ?_
  refine lv_aload_n hx hb dL_law_264 rfl (lv_at hl 1 rfl) ?_
  refine lv_aload_n hx hb dL_law_265 rfl (lv_at hl 3 rfl) ?_
  refine lv_iload_n hx hb dL_law_266 rfl (lv_at hl 0 rfl) ?_
  refine lv_iconst (v := 1) hx hb dL_law_267 (by decide) ?_
  refine lv_iadd hx hb dL_law_268 ?_
  refine gx_top (y := nI (i + 1)) (nI_add i 1) ?_
  refine va_sld hx hb hX hbl hbA hS (ge_vi (by omega) (by omega)) dL_law_269 ?_
  refine lv_aload_n hx hb dL_law_270 rfl (lv_at hl 3 rfl) ?_
  refine lv_iload_n hx hb dL_law_271 rfl (lv_at hl 0 rfl) ?_
  refine lv_iconst (v := 2) hx hb dL_law_272 (by decide) ?_
  refine lv_iadd hx hb dL_law_273 ?_
  refine gx_top (y := nI (i + 2)) (nI_add i 2) ?_
  refine va_sld hx hb hX hbl hbA hS (ge_vi (by omega) (by omega)) dL_law_274 ?_
  refine lv_aload_n hx hb dL_law_275 rfl (lv_at hl 3 rfl) ?_
  refine lv_iload_n hx hb dL_law_276 rfl (lv_at hl 0 rfl) ?_
  refine lv_iconst (v := 3) hx hb dL_law_277 (by decide) ?_
  refine lv_iadd hx hb dL_law_278 ?_
  refine gx_top (y := nI (i + 3)) (nI_add i 3) ?_
  refine va_sld hx hb hX hbl hbA hS (ge_vi (by omega) (by omega)) dL_law_279 ?_
  have hle := Hall_le h8
  refine md_ins G ⟨hle.1, hle.2.1⟩ h9 (gq_swapP hP) (gq_swapD hD) hS ⟨hl.1, trivial⟩ _ _ _ r hrel (fun r9 w9 H locs h9 er hP hD hS => ?_)
  refine lv_pop hx hb dL_law_283 rfl ?_
  refine lv_goto (tgt := 705) hx hb dL_law_284 (by decide) ?_
  exact kk _ _ _ _ _ _ _ _ _ _ _ _ _ _ _ _ H locs h8 h9 (gq_swapP hP) (gq_swapD hD) hS
theorem lc_begin {p : Program} {l : Launch} {e : Env} {s : State} {m : MethodId} {below : List Frame} {meth : Method} {c : Code} {b : Nat} {A : Nat → Prop} {Q : State → Prop} {D : va_G} {cI cB cZ : ClassId} {K : gKS} (G : gL p s m c b A D cI cB cZ K) {H : Heap} {locs : List Loc} {ls : Array Slot} {L : Nat} {xs : Nat → Int32} (hX : va_X b L xs s s.heap) (hbl : b < s.heap.size) (hbA : ¬ A b) {w8 w9 : va_W} {x0 y0 tz kc ns i : Nat} {f : Nat → Int32} {fp ld : Int32} {nc : Nat} {Lv : Nat → Nat} {cf : Nat → Int32} {pf : Nat → Int32} {vst : Int32} {vk : Nat} {vm : Int32} {vd : Nat → Int32} (hi : i + 6 ≤ L) (hL : L ≤ 3072) (h8 : HallI cI cB cZ x0 w8 tz f fp ld nc Lv cf pf vst vk vm vd kc ns) (h9 : ModelI cI cB cZ y0 w9 tz f fp ld nc Lv cf pf vst vk vm vd) (hP : va_P D vwCl (w8 ++ w9) H) (hD : va_D A (w8 ++ w9)) (hS : va_S A s.heap H locs) (hl : lv_has ls 4 [(3, .int (nI i)), (2, .ref y0), (1, .ref x0), (0, .ref b)]) (kk : ∀ (w8' w9' : va_W) (tz9 : Nat) (f9 : Nat → Int32) (fp9 ld9 : Int32) (nc9 : Nat) (Lv9 : Nat → Nat) (cf9 : Nat → Int32) (pf9 : Nat → Int32) (vst9 : Int32) (vk9 : Nat) (vm9 : Int32) (vd9 : Nat → Int32) (kc9 ns9 : Nat) (H1 : Heap) (locs1 : List Loc), HallI cI cB cZ x0 w8' tz9 f9 fp9 ld9 nc9 Lv9 cf9 pf9 vst9 vk9 vm9 vd9 kc9 ns9 → ModelI cI cB cZ y0 w9' tz9 f9 fp9 ld9 nc9 Lv9 cf9 pf9 vst9 vk9 vm9 vd9 → va_P D vwCl (w8' ++ w9') H1 → va_D A (w8' ++ w9') → va_S A s.heap H1 locs1 → W p l e room_1 s m #[Value.ref b] below meth c H1 locs1 kc9 ns9 Q (F0 m 705 ls [])) : W p l e room_1 s m #[Value.ref b] below meth c H locs kc ns Q (F0 m 287 ls []) := by
  obtain ⟨hx, hb, -⟩ := id G
  refine lv_aload_n hx hb dL_law_287 rfl (lv_at hl 2 rfl) ?_
  refine lv_aload_n hx hb dL_law_288 rfl (lv_at hl 3 rfl) ?_
  refine lv_iload_n hx hb dL_law_289 rfl (lv_at hl 0 rfl) ?_
  refine lv_iconst (v := 1) hx hb dL_law_290 (by decide) ?_
  refine lv_iadd hx hb dL_law_291 ?_
  refine gx_top (y := nI (i + 1)) (nI_add i 1) ?_
  refine va_sld hx hb hX hbl hbA hS (ge_vi (by omega) (by omega)) dL_law_292 ?_
  refine hl_begin G h8 hP hD hS ⟨hl.1, trivial⟩ (Model_sk h9) _ (fun r w8 tz9 f9 fp9 ld9 nc9 Lv9 cf9 pf9 vst9 vk9 vm9 vd9 kc9 ns9 H locs h8 hrel hP hD hS => ?_)
  refine lv_pop hx hb dL_law_296 rfl ?_
  refine lv_aload_n hx hb dL_law_297 rfl (lv_at hl 1 rfl) ?_
  refine lv_aload_n hx hb dL_law_298 rfl (lv_at hl 3 rfl) ?_
  refine lv_iload_n hx hb dL_law_299 rfl (lv_at hl 0 rfl) ?_
  refine lv_iconst (v := 1) hx hb dL_law_300 (by decide) ?_
  refine lv_iadd hx hb dL_law_301 ?_
  refine gx_top (y := nI (i + 1)) (nI_add i 1) ?_
  refine va_sld hx hb hX hbl hbA hS (ge_vi (by omega) (by omega)) dL_law_302 ?_
  have hle := Hall_le h8
  refine md_begin G ⟨hle.1, hle.2.1⟩ h9 (gq_swapP hP) (gq_swapD hD) hS ⟨hl.1, trivial⟩ _ r hrel (fun r9 w9 H locs h9 er hP hD hS => ?_)
  refine lv_pop hx hb dL_law_306 rfl ?_
  refine lv_goto (tgt := 705) hx hb dL_law_307 (by decide) ?_
  exact kk _ _ _ _ _ _ _ _ _ _ _ _ _ _ _ _ H locs h8 h9 (gq_swapP hP) (gq_swapD hD) hS
theorem lc_step {p : Program} {l : Launch} {e : Env} {s : State} {m : MethodId} {below : List Frame} {meth : Method} {c : Code} {b : Nat} {A : Nat → Prop} {Q : State → Prop} {D : va_G} {cI cB cZ : ClassId} {K : gKS} (G : gL p s m c b A D cI cB cZ K) {H : Heap} {locs : List Loc} {ls : Array Slot} {L : Nat} {xs : Nat → Int32} (hX : va_X b L xs s s.heap) (hbl : b < s.heap.size) (hbA : ¬ A b) {w8 w9 : va_W} {x0 y0 tz kc ns i : Nat} {f : Nat → Int32} {fp ld : Int32} {nc : Nat} {Lv : Nat → Nat} {cf : Nat → Int32} {pf : Nat → Int32} {vst : Int32} {vk : Nat} {vm : Int32} {vd : Nat → Int32} (hi : i + 6 ≤ L) (hL : L ≤ 3072) (h8 : HallI cI cB cZ x0 w8 tz f fp ld nc Lv cf pf vst vk vm vd kc ns) (h9 : ModelI cI cB cZ y0 w9 tz f fp ld nc Lv cf pf vst vk vm vd) (hP : va_P D vwCl (w8 ++ w9) H) (hD : va_D A (w8 ++ w9)) (hS : va_S A s.heap H locs) (hl : lv_has ls 4 [(3, .int (nI i)), (2, .ref y0), (1, .ref x0), (0, .ref b)]) (kk : ∀ (w8' w9' : va_W) (tz9 : Nat) (f9 : Nat → Int32) (fp9 ld9 : Int32) (nc9 : Nat) (Lv9 : Nat → Nat) (cf9 : Nat → Int32) (pf9 : Nat → Int32) (vst9 : Int32) (vk9 : Nat) (vm9 : Int32) (vd9 : Nat → Int32) (kc9 ns9 : Nat) (H1 : Heap) (locs1 : List Loc), HallI cI cB cZ x0 w8' tz9 f9 fp9 ld9 nc9 Lv9 cf9 pf9 vst9 vk9 vm9 vd9 kc9 ns9 → ModelI cI cB cZ y0 w9' tz9 f9 fp9 ld9 nc9 Lv9 cf9 pf9 vst9 vk9 vm9 vd9 → va_P D vwCl (w8' ++ w9') H1 → va_D A (w8' ++ w9') → va_S A s.heap H1 locs1 → W p l e room_1 s m #[Value.ref b] below meth c H1 locs1 kc9 ns9 Q (F0 m 705 ls [])) : W p l e room_1 s m #[Value.ref b] below meth c H locs kc ns Q (F0 m 310 ls []) := by
  obtain ⟨hx, hb, -⟩ := id G
  refine lv_aload_n hx hb dL_law_310 rfl (lv_at hl 2 rfl) ?_
  refine lv_aload_n hx hb dL_law_311 rfl (lv_at hl 3 rfl) ?_
  refine lv_iload_n hx hb dL_law_312 rfl (lv_at hl 0 rfl) ?_
  refine lv_iconst (v := 1) hx hb dL_law_313 (by decide) ?_
  refine lv_iadd hx hb dL_law_314 ?_
  refine gx_top (y := nI (i + 1)) (nI_add i 1) ?_
  refine va_sld hx hb hX hbl hbA hS (ge_vi (by omega) (by omega)) dL_law_315 ?_
  refine hl_step G h8 hP hD hS ⟨hl.1, trivial⟩ (Model_sk h9) _ (fun r w8 tz9 f9 fp9 ld9 nc9 Lv9 cf9 pf9 vst9 vk9 vm9 vd9 kc9 ns9 H locs h8 hrel hP hD hS => ?_)
  refine lv_pop hx hb dL_law_319 rfl ?_
  refine lv_aload_n hx hb dL_law_320 rfl (lv_at hl 1 rfl) ?_
  refine lv_aload_n hx hb dL_law_321 rfl (lv_at hl 3 rfl) ?_
  refine lv_iload_n hx hb dL_law_322 rfl (lv_at hl 0 rfl) ?_
  refine lv_iconst (v := 1) hx hb dL_law_323 (by decide) ?_
  refine lv_iadd hx hb dL_law_324 ?_
  refine gx_top (y := nI (i + 1)) (nI_add i 1) ?_
  refine va_sld hx hb hX hbl hbA hS (ge_vi (by omega) (by omega)) dL_law_325 ?_
  have hle := Hall_le h8
  refine md_step G ⟨hle.1, hle.2.1⟩ h9 (gq_swapP hP) (gq_swapD hD) hS ⟨hl.1, trivial⟩ _ r hrel (fun r9 w9 H locs h9 er hP hD hS => ?_)
  refine lv_pop hx hb dL_law_329 rfl ?_
  refine lv_goto (tgt := 705) hx hb dL_law_330 (by decide) ?_
  exact kk _ _ _ _ _ _ _ _ _ _ _ _ _ _ _ _ H locs h8 h9 (gq_swapP hP) (gq_swapD hD) hS
theorem lc_undo {p : Program} {l : Launch} {e : Env} {s : State} {m : MethodId} {below : List Frame} {meth : Method} {c : Code} {b : Nat} {A : Nat → Prop} {Q : State → Prop} {D : va_G} {cI cB cZ : ClassId} {K : gKS} (G : gL p s m c b A D cI cB cZ K) {H : Heap} {locs : List Loc} {ls : Array Slot} {L : Nat} {xs : Nat → Int32} (hX : va_X b L xs s s.heap) (hbl : b < s.heap.size) (hbA : ¬ A b) {w8 w9 : va_W} {x0 y0 tz kc ns i : Nat} {f : Nat → Int32} {fp ld : Int32} {nc : Nat} {Lv : Nat → Nat} {cf : Nat → Int32} {pf : Nat → Int32} {vst : Int32} {vk : Nat} {vm : Int32} {vd : Nat → Int32} (hi : i + 6 ≤ L) (hL : L ≤ 3072) (h8 : HallI cI cB cZ x0 w8 tz f fp ld nc Lv cf pf vst vk vm vd kc ns) (h9 : ModelI cI cB cZ y0 w9 tz f fp ld nc Lv cf pf vst vk vm vd) (hP : va_P D vwCl (w8 ++ w9) H) (hD : va_D A (w8 ++ w9)) (hS : va_S A s.heap H locs) (hl : lv_has ls 4 [(3, .int (nI i)), (2, .ref y0), (1, .ref x0), (0, .ref b)]) (kk : ∀ (w8' w9' : va_W) (tz9 : Nat) (f9 : Nat → Int32) (fp9 ld9 : Int32) (nc9 : Nat) (Lv9 : Nat → Nat) (cf9 : Nat → Int32) (pf9 : Nat → Int32) (vst9 : Int32) (vk9 : Nat) (vm9 : Int32) (vd9 : Nat → Int32) (kc9 ns9 : Nat) (H1 : Heap) (locs1 : List Loc), HallI cI cB cZ x0 w8' tz9 f9 fp9 ld9 nc9 Lv9 cf9 pf9 vst9 vk9 vm9 vd9 kc9 ns9 → ModelI cI cB cZ y0 w9' tz9 f9 fp9 ld9 nc9 Lv9 cf9 pf9 vst9 vk9 vm9 vd9 → va_P D vwCl (w8' ++ w9') H1 → va_D A (w8' ++ w9') → va_S A s.heap H1 locs1 → W p l e room_1 s m #[Value.ref b] below meth c H1 locs1 kc9 ns9 Q (F0 m 705 ls [])) : W p l e room_1 s m #[Value.ref b] below meth c H locs kc ns Q (F0 m 333 ls []) := by
  obtain ⟨hx, hb, -⟩ := id G
  refine lv_aload_n hx hb dL_law_333 rfl (lv_at hl 2 rfl) ?_
  refine hl_undo G h8 hP hD hS ⟨hl.1, trivial⟩ (Model_sk h9)  (fun r w8 tz9 f9 fp9 ld9 nc9 Lv9 cf9 pf9 vst9 vk9 vm9 vd9 kc9 ns9 H locs h8 hrel hP hD hS => ?_)
  refine lv_pop hx hb dL_law_337 rfl ?_
  refine lv_aload_n hx hb dL_law_338 rfl (lv_at hl 1 rfl) ?_
  have hle := Hall_le h8
  refine md_undo G ⟨hle.1, hle.2.1⟩ h9 (gq_swapP hP) (gq_swapD hD) hS ⟨hl.1, trivial⟩ r hrel (fun r9 w9 H locs h9 er hP hD hS => ?_)
  refine lv_pop hx hb dL_law_342 rfl ?_
  refine lv_goto (tgt := 705) hx hb dL_law_343 (by decide) ?_
  exact kk _ _ _ _ _ _ _ _ _ _ _ _ _ _ _ _ H locs h8 h9 (gq_swapP hP) (gq_swapD hD) hS
theorem lc_register {p : Program} {l : Launch} {e : Env} {s : State} {m : MethodId} {below : List Frame} {meth : Method} {c : Code} {b : Nat} {A : Nat → Prop} {Q : State → Prop} {D : va_G} {cI cB cZ : ClassId} {K : gKS} (G : gL p s m c b A D cI cB cZ K) {H : Heap} {locs : List Loc} {ls : Array Slot} {L : Nat} {xs : Nat → Int32} (hX : va_X b L xs s s.heap) (hbl : b < s.heap.size) (hbA : ¬ A b) {w8 w9 : va_W} {x0 y0 tz kc ns i : Nat} {f : Nat → Int32} {fp ld : Int32} {nc : Nat} {Lv : Nat → Nat} {cf : Nat → Int32} {pf : Nat → Int32} {vst : Int32} {vk : Nat} {vm : Int32} {vd : Nat → Int32} (hi : i + 6 ≤ L) (hL : L ≤ 3072) (h8 : HallI cI cB cZ x0 w8 tz f fp ld nc Lv cf pf vst vk vm vd kc ns) (h9 : ModelI cI cB cZ y0 w9 tz f fp ld nc Lv cf pf vst vk vm vd) (hP : va_P D vwCl (w8 ++ w9) H) (hD : va_D A (w8 ++ w9)) (hS : va_S A s.heap H locs) (hl : lv_has ls 4 [(3, .int (nI i)), (2, .ref y0), (1, .ref x0), (0, .ref b)]) (kk : ∀ (w8' w9' : va_W) (tz9 : Nat) (f9 : Nat → Int32) (fp9 ld9 : Int32) (nc9 : Nat) (Lv9 : Nat → Nat) (cf9 : Nat → Int32) (pf9 : Nat → Int32) (vst9 : Int32) (vk9 : Nat) (vm9 : Int32) (vd9 : Nat → Int32) (kc9 ns9 : Nat) (H1 : Heap) (locs1 : List Loc), HallI cI cB cZ x0 w8' tz9 f9 fp9 ld9 nc9 Lv9 cf9 pf9 vst9 vk9 vm9 vd9 kc9 ns9 → ModelI cI cB cZ y0 w9' tz9 f9 fp9 ld9 nc9 Lv9 cf9 pf9 vst9 vk9 vm9 vd9 → va_P D vwCl (w8' ++ w9') H1 → va_D A (w8' ++ w9') → va_S A s.heap H1 locs1 → W p l e room_1 s m #[Value.ref b] below meth c H1 locs1 kc9 ns9 Q (F0 m 705 ls [])) : W p l e room_1 s m #[Value.ref b] below meth c H locs kc ns Q (F0 m 346 ls []) := by
  obtain ⟨hx, hb, -⟩ := id G
  refine lv_aload_n hx hb dL_law_346 rfl (lv_at hl 2 rfl) ?_
  refine lv_aload_n hx hb dL_law_347 rfl (lv_at hl 3 rfl) ?_
  refine lv_iload_n hx hb dL_law_348 rfl (lv_at hl 0 rfl) ?_
  refine lv_iconst (v := 1) hx hb dL_law_349 (by decide) ?_
  refine lv_iadd hx hb dL_law_350 ?_
  refine gx_top (y := nI (i + 1)) (nI_add i 1) ?_
  refine va_sld hx hb hX hbl hbA hS (ge_vi (by omega) (by omega)) dL_law_351 ?_
  refine lv_aload_n hx hb dL_law_352 rfl (lv_at hl 3 rfl) ?_
  refine lv_iload_n hx hb dL_law_353 rfl (lv_at hl 0 rfl) ?_
  refine lv_iconst (v := 2) hx hb dL_law_354 (by decide) ?_
  refine lv_iadd hx hb dL_law_355 ?_
  refine gx_top (y := nI (i + 2)) (nI_add i 2) ?_
  refine va_sld hx hb hX hbl hbA hS (ge_vi (by omega) (by omega)) dL_law_356 ?_
  refine hl_register G h8 hP hD hS ⟨hl.1, trivial⟩ (Model_sk h9) _ _ (fun r w8 tz9 f9 fp9 ld9 nc9 Lv9 cf9 pf9 vst9 vk9 vm9 vd9 kc9 ns9 H locs h8 hrel hP hD hS => ?_)
  refine lv_pop hx hb dL_law_360 rfl ?_
  refine lv_aload_n hx hb dL_law_361 rfl (lv_at hl 1 rfl) ?_
  refine lv_aload_n hx hb dL_law_362 rfl (lv_at hl 3 rfl) ?_
  refine lv_iload_n hx hb dL_law_363 rfl (lv_at hl 0 rfl) ?_
  refine lv_iconst (v := 1) hx hb dL_law_364 (by decide) ?_
  refine lv_iadd hx hb dL_law_365 ?_
  refine gx_top (y := nI (i + 1)) (nI_add i 1) ?_
  refine va_sld hx hb hX hbl hbA hS (ge_vi (by omega) (by omega)) dL_law_366 ?_
  refine lv_aload_n hx hb dL_law_367 rfl (lv_at hl 3 rfl) ?_
  refine lv_iload_n hx hb dL_law_368 rfl (lv_at hl 0 rfl) ?_
  refine lv_iconst (v := 2) hx hb dL_law_369 (by decide) ?_
  refine lv_iadd hx hb dL_law_370 ?_
  refine gx_top (y := nI (i + 2)) (nI_add i 2) ?_
  refine va_sld hx hb hX hbl hbA hS (ge_vi (by omega) (by omega)) dL_law_371 ?_
  have hle := Hall_le h8
  refine md_register G ⟨hle.1, hle.2.1⟩ h9 (gq_swapP hP) (gq_swapD hD) hS ⟨hl.1, trivial⟩ _ _ r hrel (fun r9 w9 H locs h9 er hP hD hS => ?_)
  refine lv_pop hx hb dL_law_375 rfl ?_
  refine lv_goto (tgt := 705) hx hb dL_law_376 (by decide) ?_
  exact kk _ _ _ _ _ _ _ _ _ _ _ _ _ _ _ _ H locs h8 h9 (gq_swapP hP) (gq_swapD hD) hS
theorem lc_memory {p : Program} {l : Launch} {e : Env} {s : State} {m : MethodId} {below : List Frame} {meth : Method} {c : Code} {b : Nat} {A : Nat → Prop} {Q : State → Prop} {D : va_G} {cI cB cZ : ClassId} {K : gKS} (G : gL p s m c b A D cI cB cZ K) {H : Heap} {locs : List Loc} {ls : Array Slot} {L : Nat} {xs : Nat → Int32} (hX : va_X b L xs s s.heap) (hbl : b < s.heap.size) (hbA : ¬ A b) {w8 w9 : va_W} {x0 y0 tz kc ns i : Nat} {f : Nat → Int32} {fp ld : Int32} {nc : Nat} {Lv : Nat → Nat} {cf : Nat → Int32} {pf : Nat → Int32} {vst : Int32} {vk : Nat} {vm : Int32} {vd : Nat → Int32} (hi : i + 6 ≤ L) (hL : L ≤ 3072) (h8 : HallI cI cB cZ x0 w8 tz f fp ld nc Lv cf pf vst vk vm vd kc ns) (h9 : ModelI cI cB cZ y0 w9 tz f fp ld nc Lv cf pf vst vk vm vd) (hP : va_P D vwCl (w8 ++ w9) H) (hD : va_D A (w8 ++ w9)) (hS : va_S A s.heap H locs) (hl : lv_has ls 4 [(3, .int (nI i)), (2, .ref y0), (1, .ref x0), (0, .ref b)]) (kk : ∀ (w8' w9' : va_W) (tz9 : Nat) (f9 : Nat → Int32) (fp9 ld9 : Int32) (nc9 : Nat) (Lv9 : Nat → Nat) (cf9 : Nat → Int32) (pf9 : Nat → Int32) (vst9 : Int32) (vk9 : Nat) (vm9 : Int32) (vd9 : Nat → Int32) (kc9 ns9 : Nat) (H1 : Heap) (locs1 : List Loc), HallI cI cB cZ x0 w8' tz9 f9 fp9 ld9 nc9 Lv9 cf9 pf9 vst9 vk9 vm9 vd9 kc9 ns9 → ModelI cI cB cZ y0 w9' tz9 f9 fp9 ld9 nc9 Lv9 cf9 pf9 vst9 vk9 vm9 vd9 → va_P D vwCl (w8' ++ w9') H1 → va_D A (w8' ++ w9') → va_S A s.heap H1 locs1 → W p l e room_1 s m #[Value.ref b] below meth c H1 locs1 kc9 ns9 Q (F0 m 705 ls [])) : W p l e room_1 s m #[Value.ref b] below meth c H locs kc ns Q (F0 m 379 ls []) := by
  obtain ⟨hx, hb, -⟩ := id G
  refine lv_aload_n hx hb dL_law_379 rfl (lv_at hl 2 rfl) ?_
  refine lv_aload_n hx hb dL_law_380 rfl (lv_at hl 3 rfl) ?_
  refine lv_iload_n hx hb dL_law_381 rfl (lv_at hl 0 rfl) ?_
  refine lv_iconst (v := 1) hx hb dL_law_382 (by decide) ?_
  refine lv_iadd hx hb dL_law_383 ?_
  refine gx_top (y := nI (i + 1)) (nI_add i 1) ?_
  refine va_sld hx hb hX hbl hbA hS (ge_vi (by omega) (by omega)) dL_law_384 ?_
  refine hl_memory G h8 hP hD hS ⟨hl.1, trivial⟩ (Model_sk h9) _ (fun r w8 tz9 f9 fp9 ld9 nc9 Lv9 cf9 pf9 vst9 vk9 vm9 vd9 kc9 ns9 H locs h8 hrel hP hD hS => ?_)
  refine lv_pop hx hb dL_law_388 rfl ?_
  refine lv_aload_n hx hb dL_law_389 rfl (lv_at hl 1 rfl) ?_
  refine lv_aload_n hx hb dL_law_390 rfl (lv_at hl 3 rfl) ?_
  refine lv_iload_n hx hb dL_law_391 rfl (lv_at hl 0 rfl) ?_
  refine lv_iconst (v := 1) hx hb dL_law_392 (by decide) ?_
  refine lv_iadd hx hb dL_law_393 ?_
  refine gx_top (y := nI (i + 1)) (nI_add i 1) ?_
  refine va_sld hx hb hX hbl hbA hS (ge_vi (by omega) (by omega)) dL_law_394 ?_
  have hle := Hall_le h8
  refine md_memory G ⟨hle.1, hle.2.1⟩ h9 (gq_swapP hP) (gq_swapD hD) hS ⟨hl.1, trivial⟩ _ r hrel (fun r9 w9 H locs h9 er hP hD hS => ?_)
  refine lv_pop hx hb dL_law_398 rfl ?_
  refine lv_goto (tgt := 705) hx hb dL_law_399 (by decide) ?_
  exact kk _ _ _ _ _ _ _ _ _ _ _ _ _ _ _ _ H locs h8 h9 (gq_swapP hP) (gq_swapD hD) hS
theorem lc_next {p : Program} {l : Launch} {e : Env} {s : State} {m : MethodId} {below : List Frame} {meth : Method} {c : Code} {b : Nat} {A : Nat → Prop} {Q : State → Prop} {D : va_G} {cI cB cZ : ClassId} {K : gKS} (G : gL p s m c b A D cI cB cZ K) {H : Heap} {locs : List Loc} {ls : Array Slot} {L : Nat} {xs : Nat → Int32} (hX : va_X b L xs s s.heap) (hbl : b < s.heap.size) (hbA : ¬ A b) {w8 w9 : va_W} {x0 y0 tz kc ns i : Nat} {f : Nat → Int32} {fp ld : Int32} {nc : Nat} {Lv : Nat → Nat} {cf : Nat → Int32} {pf : Nat → Int32} {vst : Int32} {vk : Nat} {vm : Int32} {vd : Nat → Int32} (hi : i + 6 ≤ L) (hL : L ≤ 3072) (h8 : HallI cI cB cZ x0 w8 tz f fp ld nc Lv cf pf vst vk vm vd kc ns) (h9 : ModelI cI cB cZ y0 w9 tz f fp ld nc Lv cf pf vst vk vm vd) (hP : va_P D vwCl (w8 ++ w9) H) (hD : va_D A (w8 ++ w9)) (hS : va_S A s.heap H locs) (hl : lv_has ls 4 [(3, .int (nI i)), (2, .ref y0), (1, .ref x0), (0, .ref b)]) (kk : ∀ (w8' w9' : va_W) (tz9 : Nat) (f9 : Nat → Int32) (fp9 ld9 : Int32) (nc9 : Nat) (Lv9 : Nat → Nat) (cf9 : Nat → Int32) (pf9 : Nat → Int32) (vst9 : Int32) (vk9 : Nat) (vm9 : Int32) (vd9 : Nat → Int32) (kc9 ns9 : Nat) (H1 : Heap) (locs1 : List Loc), HallI cI cB cZ x0 w8' tz9 f9 fp9 ld9 nc9 Lv9 cf9 pf9 vst9 vk9 vm9 vd9 kc9 ns9 → ModelI cI cB cZ y0 w9' tz9 f9 fp9 ld9 nc9 Lv9 cf9 pf9 vst9 vk9 vm9 vd9 → va_P D vwCl (w8' ++ w9') H1 → va_D A (w8' ++ w9') → va_S A s.heap H1 locs1 → W p l e room_1 s m #[Value.ref b] below meth c H1 locs1 kc9 ns9 Q (F0 m 705 ls [])) : W p l e room_1 s m #[Value.ref b] below meth c H locs kc ns Q (F0 m 402 ls []) := by
  obtain ⟨hx, hb, -⟩ := id G
  refine lv_aload_n hx hb dL_law_402 rfl (lv_at hl 2 rfl) ?_
  refine lv_aload_n hx hb dL_law_403 rfl (lv_at hl 3 rfl) ?_
  refine lv_iload_n hx hb dL_law_404 rfl (lv_at hl 0 rfl) ?_
  refine lv_iconst (v := 1) hx hb dL_law_405 (by decide) ?_
  refine lv_iadd hx hb dL_law_406 ?_
  refine gx_top (y := nI (i + 1)) (nI_add i 1) ?_
  refine va_sld hx hb hX hbl hbA hS (ge_vi (by omega) (by omega)) dL_law_407 ?_
  refine hl_next G h8 hP hD hS ⟨hl.1, trivial⟩ (Model_sk h9) _ (fun r w8 tz9 f9 fp9 ld9 nc9 Lv9 cf9 pf9 vst9 vk9 vm9 vd9 kc9 ns9 H locs h8 hrel hP hD hS => ?_)
  refine lv_pop hx hb dL_law_411 rfl ?_
  refine lv_aload_n hx hb dL_law_412 rfl (lv_at hl 1 rfl) ?_
  refine lv_aload_n hx hb dL_law_413 rfl (lv_at hl 3 rfl) ?_
  refine lv_iload_n hx hb dL_law_414 rfl (lv_at hl 0 rfl) ?_
  refine lv_iconst (v := 1) hx hb dL_law_415 (by decide) ?_
  refine lv_iadd hx hb dL_law_416 ?_
  refine gx_top (y := nI (i + 1)) (nI_add i 1) ?_
  refine va_sld hx hb hX hbl hbA hS (ge_vi (by omega) (by omega)) dL_law_417 ?_
  have hle := Hall_le h8
  refine md_next G ⟨hle.1, hle.2.1⟩ h9 (gq_swapP hP) (gq_swapD hD) hS ⟨hl.1, trivial⟩ _ r hrel (fun r9 w9 H locs h9 er hP hD hS => ?_)
  refine lv_pop hx hb dL_law_421 rfl ?_
  refine lv_goto (tgt := 705) hx hb dL_law_422 (by decide) ?_
  exact kk _ _ _ _ _ _ _ _ _ _ _ _ _ _ _ _ H locs h8 h9 (gq_swapP hP) (gq_swapD hD) hS
theorem lc_store {p : Program} {l : Launch} {e : Env} {s : State} {m : MethodId} {below : List Frame} {meth : Method} {c : Code} {b : Nat} {A : Nat → Prop} {Q : State → Prop} {D : va_G} {cI cB cZ : ClassId} {K : gKS} (G : gL p s m c b A D cI cB cZ K) {H : Heap} {locs : List Loc} {ls : Array Slot} {L : Nat} {xs : Nat → Int32} (hX : va_X b L xs s s.heap) (hbl : b < s.heap.size) (hbA : ¬ A b) {w8 w9 : va_W} {x0 y0 tz kc ns i : Nat} {f : Nat → Int32} {fp ld : Int32} {nc : Nat} {Lv : Nat → Nat} {cf : Nat → Int32} {pf : Nat → Int32} {vst : Int32} {vk : Nat} {vm : Int32} {vd : Nat → Int32} (hi : i + 6 ≤ L) (hL : L ≤ 3072) (h8 : HallI cI cB cZ x0 w8 tz f fp ld nc Lv cf pf vst vk vm vd kc ns) (h9 : ModelI cI cB cZ y0 w9 tz f fp ld nc Lv cf pf vst vk vm vd) (hP : va_P D vwCl (w8 ++ w9) H) (hD : va_D A (w8 ++ w9)) (hS : va_S A s.heap H locs) (hl : lv_has ls 4 [(3, .int (nI i)), (2, .ref y0), (1, .ref x0), (0, .ref b)]) (kk : ∀ (w8' w9' : va_W) (tz9 : Nat) (f9 : Nat → Int32) (fp9 ld9 : Int32) (nc9 : Nat) (Lv9 : Nat → Nat) (cf9 : Nat → Int32) (pf9 : Nat → Int32) (vst9 : Int32) (vk9 : Nat) (vm9 : Int32) (vd9 : Nat → Int32) (kc9 ns9 : Nat) (H1 : Heap) (locs1 : List Loc), HallI cI cB cZ x0 w8' tz9 f9 fp9 ld9 nc9 Lv9 cf9 pf9 vst9 vk9 vm9 vd9 kc9 ns9 → ModelI cI cB cZ y0 w9' tz9 f9 fp9 ld9 nc9 Lv9 cf9 pf9 vst9 vk9 vm9 vd9 → va_P D vwCl (w8' ++ w9') H1 → va_D A (w8' ++ w9') → va_S A s.heap H1 locs1 → W p l e room_1 s m #[Value.ref b] below meth c H1 locs1 kc9 ns9 Q (F0 m 705 ls [])) : W p l e room_1 s m #[Value.ref b] below meth c H locs kc ns Q (F0 m 425 ls []) := by
  obtain ⟨hx, hb, -⟩ := id G
  refine lv_aload_n hx hb dL_law_425 rfl (lv_at hl 2 rfl) ?_
  refine lv_aload_n hx hb dL_law_426 rfl (lv_at hl 3 rfl) ?_
  refine lv_iload_n hx hb dL_law_427 rfl (lv_at hl 0 rfl) ?_
  refine lv_iconst (v := 1) hx hb dL_law_428 (by decide) ?_
  refine lv_iadd hx hb dL_law_429 ?_
  refine gx_top (y := nI (i + 1)) (nI_add i 1) ?_
  refine va_sld hx hb hX hbl hbA hS (ge_vi (by omega) (by omega)) dL_law_430 ?_
  refine lv_aload_n hx hb dL_law_431 rfl (lv_at hl 3 rfl) ?_
  refine lv_iload_n hx hb dL_law_432 rfl (lv_at hl 0 rfl) ?_
  refine lv_iconst (v := 2) hx hb dL_law_433 (by decide) ?_
  refine lv_iadd hx hb dL_law_434 ?_
  refine gx_top (y := nI (i + 2)) (nI_add i 2) ?_
  refine va_sld hx hb hX hbl hbA hS (ge_vi (by omega) (by omega)) dL_law_435 ?_
  refine lv_aload_n hx hb dL_law_436 rfl (lv_at hl 3 rfl) ?_
  refine lv_iload_n hx hb dL_law_437 rfl (lv_at hl 0 rfl) ?_
  refine lv_iconst (v := 3) hx hb dL_law_438 (by decide) ?_
  refine lv_iadd hx hb dL_law_439 ?_
  refine gx_top (y := nI (i + 3)) (nI_add i 3) ?_
  refine va_sld hx hb hX hbl hbA hS (ge_vi (by omega) (by omega)) dL_law_440 ?_
  refine hl_store G h8 hP hD hS ⟨hl.1, trivial⟩ (Model_sk h9) _ _ _ (fun r w8 tz9 f9 fp9 ld9 nc9 Lv9 cf9 pf9 vst9 vk9 vm9 vd9 kc9 ns9 H locs h8 hrel hP hD hS => ?_)
  refine lv_pop hx hb dL_law_444 rfl ?_
  refine lv_aload_n hx hb dL_law_445 rfl (lv_at hl 1 rfl) ?_
  refine lv_aload_n hx hb dL_law_446 rfl (lv_at hl 3 rfl) ?_
  refine lv_iload_n hx hb dL_law_447 rfl (lv_at hl 0 rfl) ?_
  refine lv_iconst (v := 1) hx hb dL_law_448 (by decide) ?_
  refine lv_iadd hx hb dL_law_449 ?_
  refine gx_top (y := nI (i + 1)) (nI_add i 1) ?_
  refine va_sld hx hb hX hbl hbA hS (ge_vi (by omega) (by omega)) dL_law_450 ?_
  refine lv_aload_n hx hb dL_law_451 rfl (lv_at hl 3 rfl) ?_
  refine lv_iload_n hx hb dL_law_452 rfl (lv_at hl 0 rfl) ?_
  refine lv_iconst (v := 2) hx hb dL_law_453 (by decide) ?_
  refine lv_iadd hx hb dL_law_454 ?_
  refine gx_top (y := nI (i + 2)) (nI_add i 2) ?_
  refine va_sld hx hb hX hbl hbA hS (ge_vi (by omega) (by omega)) dL_law_455 ?_
  refine lv_aload_n hx hb dL_law_456 rfl (lv_at hl 3 rfl) ?_
  refine lv_iload_n hx hb dL_law_457 rfl (lv_at hl 0 rfl) ?_
  refine lv_iconst (v := 3) hx hb dL_law_458 (by decide) ?_
  refine lv_iadd hx hb dL_law_459 ?_
  refine gx_top (y := nI (i + 3)) (nI_add i 3) ?_
  refine va_sld hx hb hX hbl hbA hS (ge_vi (by omega) (by omega)) dL_law_460 ?_
  have hle := Hall_le h8
  refine md_store G ⟨hle.1, hle.2.1⟩ h9 (gq_swapP hP) (gq_swapD hD) hS ⟨hl.1, trivial⟩ _ _ _ r hrel (fun r9 w9 H locs h9 er hP hD hS => ?_)
  refine lv_pop hx hb dL_law_464 rfl ?_
  refine lv_goto (tgt := 705) hx hb dL_law_465 (by decide) ?_
  exact kk _ _ _ _ _ _ _ _ _ _ _ _ _ _ _ _ H locs h8 h9 (gq_swapP hP) (gq_swapD hD) hS
theorem lc_outcomes {p : Program} {l : Launch} {e : Env} {s : State} {m : MethodId} {below : List Frame} {meth : Method} {c : Code} {b : Nat} {A : Nat → Prop} {Q : State → Prop} {D : va_G} {cI cB cZ : ClassId} {K : gKS} (G : gL p s m c b A D cI cB cZ K) {H : Heap} {locs : List Loc} {ls : Array Slot} {L : Nat} {xs : Nat → Int32} (hX : va_X b L xs s s.heap) (hbl : b < s.heap.size) (hbA : ¬ A b) {w8 w9 : va_W} {x0 y0 tz kc ns i : Nat} {f : Nat → Int32} {fp ld : Int32} {nc : Nat} {Lv : Nat → Nat} {cf : Nat → Int32} {pf : Nat → Int32} {vst : Int32} {vk : Nat} {vm : Int32} {vd : Nat → Int32} (hi : i + 6 ≤ L) (hL : L ≤ 3072) (h8 : HallI cI cB cZ x0 w8 tz f fp ld nc Lv cf pf vst vk vm vd kc ns) (h9 : ModelI cI cB cZ y0 w9 tz f fp ld nc Lv cf pf vst vk vm vd) (hP : va_P D vwCl (w8 ++ w9) H) (hD : va_D A (w8 ++ w9)) (hS : va_S A s.heap H locs) (hl : lv_has ls 4 [(3, .int (nI i)), (2, .ref y0), (1, .ref x0), (0, .ref b)]) (kk : ∀ (w8' w9' : va_W) (tz9 : Nat) (f9 : Nat → Int32) (fp9 ld9 : Int32) (nc9 : Nat) (Lv9 : Nat → Nat) (cf9 : Nat → Int32) (pf9 : Nat → Int32) (vst9 : Int32) (vk9 : Nat) (vm9 : Int32) (vd9 : Nat → Int32) (kc9 ns9 : Nat) (H1 : Heap) (locs1 : List Loc), HallI cI cB cZ x0 w8' tz9 f9 fp9 ld9 nc9 Lv9 cf9 pf9 vst9 vk9 vm9 vd9 kc9 ns9 → ModelI cI cB cZ y0 w9' tz9 f9 fp9 ld9 nc9 Lv9 cf9 pf9 vst9 vk9 vm9 vd9 → va_P D vwCl (w8' ++ w9') H1 → va_D A (w8' ++ w9') → va_S A s.heap H1 locs1 → W p l e room_1 s m #[Value.ref b] below meth c H1 locs1 kc9 ns9 Q (F0 m 705 ls [])) : W p l e room_1 s m #[Value.ref b] below meth c H locs kc ns Q (F0 m 468 ls []) := by
  obtain ⟨hx, hb, -⟩ := id G
  refine lv_aload_n hx hb dL_law_468 rfl (lv_at hl 2 rfl) ?_
  refine lv_aload_n hx hb dL_law_469 rfl (lv_at hl 3 rfl) ?_
  refine lv_iload_n hx hb dL_law_470 rfl (lv_at hl 0 rfl) ?_
  refine lv_iconst (v := 1) hx hb dL_law_471 (by decide) ?_
  refine lv_iadd hx hb dL_law_472 ?_
  refine gx_top (y := nI (i + 1)) (nI_add i 1) ?_
  refine va_sld hx hb hX hbl hbA hS (ge_vi (by omega) (by omega)) dL_law_473 ?_
  refine hl_outcomes G h8 hP hD hS ⟨hl.1, trivial⟩ (Model_sk h9) _ (fun r w8 tz9 f9 fp9 ld9 nc9 Lv9 cf9 pf9 vst9 vk9 vm9 vd9 kc9 ns9 H locs h8 hrel hP hD hS => ?_)
  refine lv_pop hx hb dL_law_477 rfl ?_
  refine lv_aload_n hx hb dL_law_478 rfl (lv_at hl 1 rfl) ?_
  refine lv_aload_n hx hb dL_law_479 rfl (lv_at hl 3 rfl) ?_
  refine lv_iload_n hx hb dL_law_480 rfl (lv_at hl 0 rfl) ?_
  refine lv_iconst (v := 1) hx hb dL_law_481 (by decide) ?_
  refine lv_iadd hx hb dL_law_482 ?_
  refine gx_top (y := nI (i + 1)) (nI_add i 1) ?_
  refine va_sld hx hb hX hbl hbA hS (ge_vi (by omega) (by omega)) dL_law_483 ?_
  have hle := Hall_le h8
  refine md_outcomes G ⟨hle.1, hle.2.1⟩ h9 (gq_swapP hP) (gq_swapD hD) hS ⟨hl.1, trivial⟩ _ r hrel (fun r9 w9 H locs h9 er hP hD hS => ?_)
  refine lv_pop hx hb dL_law_487 rfl ?_
  refine lv_goto (tgt := 705) hx hb dL_law_488 (by decide) ?_
  exact kk _ _ _ _ _ _ _ _ _ _ _ _ _ _ _ _ H locs h8 h9 (gq_swapP hP) (gq_swapD hD) hS
theorem lc_outcome {p : Program} {l : Launch} {e : Env} {s : State} {m : MethodId} {below : List Frame} {meth : Method} {c : Code} {b : Nat} {A : Nat → Prop} {Q : State → Prop} {D : va_G} {cI cB cZ : ClassId} {K : gKS} (G : gL p s m c b A D cI cB cZ K) {H : Heap} {locs : List Loc} {ls : Array Slot} {L : Nat} {xs : Nat → Int32} (hX : va_X b L xs s s.heap) (hbl : b < s.heap.size) (hbA : ¬ A b) {w8 w9 : va_W} {x0 y0 tz kc ns i : Nat} {f : Nat → Int32} {fp ld : Int32} {nc : Nat} {Lv : Nat → Nat} {cf : Nat → Int32} {pf : Nat → Int32} {vst : Int32} {vk : Nat} {vm : Int32} {vd : Nat → Int32} (hi : i + 6 ≤ L) (hL : L ≤ 3072) (h8 : HallI cI cB cZ x0 w8 tz f fp ld nc Lv cf pf vst vk vm vd kc ns) (h9 : ModelI cI cB cZ y0 w9 tz f fp ld nc Lv cf pf vst vk vm vd) (hP : va_P D vwCl (w8 ++ w9) H) (hD : va_D A (w8 ++ w9)) (hS : va_S A s.heap H locs) (hl : lv_has ls 4 [(3, .int (nI i)), (2, .ref y0), (1, .ref x0), (0, .ref b)]) (kk : ∀ (w8' w9' : va_W) (tz9 : Nat) (f9 : Nat → Int32) (fp9 ld9 : Int32) (nc9 : Nat) (Lv9 : Nat → Nat) (cf9 : Nat → Int32) (pf9 : Nat → Int32) (vst9 : Int32) (vk9 : Nat) (vm9 : Int32) (vd9 : Nat → Int32) (kc9 ns9 : Nat) (H1 : Heap) (locs1 : List Loc), HallI cI cB cZ x0 w8' tz9 f9 fp9 ld9 nc9 Lv9 cf9 pf9 vst9 vk9 vm9 vd9 kc9 ns9 → ModelI cI cB cZ y0 w9' tz9 f9 fp9 ld9 nc9 Lv9 cf9 pf9 vst9 vk9 vm9 vd9 → va_P D vwCl (w8' ++ w9') H1 → va_D A (w8' ++ w9') → va_S A s.heap H1 locs1 → W p l e room_1 s m #[Value.ref b] below meth c H1 locs1 kc9 ns9 Q (F0 m 705 ls [])) : W p l e room_1 s m #[Value.ref b] below meth c H locs kc ns Q (F0 m 491 ls []) := by
  obtain ⟨hx, hb, -⟩ := id G
  refine lv_aload_n hx hb dL_law_491 rfl (lv_at hl 2 rfl) ?_
  refine lv_aload_n hx hb dL_law_492 rfl (lv_at hl 3 rfl) ?_
  refine lv_iload_n hx hb dL_law_493 rfl (lv_at hl 0 rfl) ?_
  refine lv_iconst (v := 1) hx hb dL_law_494 (by decide) ?_
  refine lv_iadd hx hb dL_law_495 ?_
  refine gx_top (y := nI (i + 1)) (nI_add i 1) ?_
  refine va_sld hx hb hX hbl hbA hS (ge_vi (by omega) (by omega)) dL_law_496 ?_
  refine lv_aload_n hx hb dL_law_497 rfl (lv_at hl 3 rfl) ?_
  refine lv_iload_n hx hb dL_law_498 rfl (lv_at hl 0 rfl) ?_
  refine lv_iconst (v := 2) hx hb dL_law_499 (by decide) ?_
  refine lv_iadd hx hb dL_law_500 ?_
  refine gx_top (y := nI (i + 2)) (nI_add i 2) ?_
  refine va_sld hx hb hX hbl hbA hS (ge_vi (by omega) (by omega)) dL_law_501 ?_
  refine lv_aload_n hx hb dL_law_502 rfl (lv_at hl 3 rfl) ?_
  refine lv_iload_n hx hb dL_law_503 rfl (lv_at hl 0 rfl) ?_
  refine lv_iconst (v := 3) hx hb dL_law_504 (by decide) ?_
  refine lv_iadd hx hb dL_law_505 ?_
  refine gx_top (y := nI (i + 3)) (nI_add i 3) ?_
  refine va_sld hx hb hX hbl hbA hS (ge_vi (by omega) (by omega)) dL_law_506 ?_
  refine hl_outcome G h8 hP hD hS ⟨hl.1, trivial⟩ (Model_sk h9) _ _ _ (fun r w8 tz9 f9 fp9 ld9 nc9 Lv9 cf9 pf9 vst9 vk9 vm9 vd9 kc9 ns9 H locs h8 hrel hP hD hS => ?_)
  refine lv_pop hx hb dL_law_510 rfl ?_
  refine lv_aload_n hx hb dL_law_511 rfl (lv_at hl 1 rfl) ?_
  refine lv_aload_n hx hb dL_law_512 rfl (lv_at hl 3 rfl) ?_
  refine lv_iload_n hx hb dL_law_513 rfl (lv_at hl 0 rfl) ?_
  refine lv_iconst (v := 1) hx hb dL_law_514 (by decide) ?_
  refine lv_iadd hx hb dL_law_515 ?_
  refine gx_top (y := nI (i + 1)) (nI_add i 1) ?_
  refine va_sld hx hb hX hbl hbA hS (ge_vi (by omega) (by omega)) dL_law_516 ?_
  refine lv_aload_n hx hb dL_law_517 rfl (lv_at hl 3 rfl) ?_
  refine lv_iload_n hx hb dL_law_518 rfl (lv_at hl 0 rfl) ?_
  refine lv_iconst (v := 2) hx hb dL_law_519 (by decide) ?_
  refine lv_iadd hx hb dL_law_520 ?_
  refine gx_top (y := nI (i + 2)) (nI_add i 2) ?_
  refine va_sld hx hb hX hbl hbA hS (ge_vi (by omega) (by omega)) dL_law_521 ?_
  refine lv_aload_n hx hb dL_law_522 rfl (lv_at hl 3 rfl) ?_
  refine lv_iload_n hx hb dL_law_523 rfl (lv_at hl 0 rfl) ?_
  refine lv_iconst (v := 3) hx hb dL_law_524 (by decide) ?_
  refine lv_iadd hx hb dL_law_525 ?_
  refine gx_top (y := nI (i + 3)) (nI_add i 3) ?_
  refine va_sld hx hb hX hbl hbA hS (ge_vi (by omega) (by omega)) dL_law_526 ?_
  have hle := Hall_le h8
  refine md_outcome G ⟨hle.1, hle.2.1⟩ h9 (gq_swapP hP) (gq_swapD hD) hS ⟨hl.1, trivial⟩ _ _ _ r hrel (fun r9 w9 H locs h9 er hP hD hS => ?_)
  refine lv_pop hx hb dL_law_530 rfl ?_
  refine lv_goto (tgt := 705) hx hb dL_law_531 (by decide) ?_
  exact kk _ _ _ _ _ _ _ _ _ _ _ _ _ _ _ _ H locs h8 h9 (gq_swapP hP) (gq_swapD hD) hS
theorem lc_schedule {p : Program} {l : Launch} {e : Env} {s : State} {m : MethodId} {below : List Frame} {meth : Method} {c : Code} {b : Nat} {A : Nat → Prop} {Q : State → Prop} {D : va_G} {cI cB cZ : ClassId} {K : gKS} (G : gL p s m c b A D cI cB cZ K) {H : Heap} {locs : List Loc} {ls : Array Slot} {L : Nat} {xs : Nat → Int32} (hX : va_X b L xs s s.heap) (hbl : b < s.heap.size) (hbA : ¬ A b) {w8 w9 : va_W} {x0 y0 tz kc ns i : Nat} {f : Nat → Int32} {fp ld : Int32} {nc : Nat} {Lv : Nat → Nat} {cf : Nat → Int32} {pf : Nat → Int32} {vst : Int32} {vk : Nat} {vm : Int32} {vd : Nat → Int32} (hi : i + 6 ≤ L) (hL : L ≤ 3072) (h8 : HallI cI cB cZ x0 w8 tz f fp ld nc Lv cf pf vst vk vm vd kc ns) (h9 : ModelI cI cB cZ y0 w9 tz f fp ld nc Lv cf pf vst vk vm vd) (hP : va_P D vwCl (w8 ++ w9) H) (hD : va_D A (w8 ++ w9)) (hS : va_S A s.heap H locs) (hl : lv_has ls 4 [(3, .int (nI i)), (2, .ref y0), (1, .ref x0), (0, .ref b)]) (kk : ∀ (w8' w9' : va_W) (tz9 : Nat) (f9 : Nat → Int32) (fp9 ld9 : Int32) (nc9 : Nat) (Lv9 : Nat → Nat) (cf9 : Nat → Int32) (pf9 : Nat → Int32) (vst9 : Int32) (vk9 : Nat) (vm9 : Int32) (vd9 : Nat → Int32) (kc9 ns9 : Nat) (H1 : Heap) (locs1 : List Loc), HallI cI cB cZ x0 w8' tz9 f9 fp9 ld9 nc9 Lv9 cf9 pf9 vst9 vk9 vm9 vd9 kc9 ns9 → ModelI cI cB cZ y0 w9' tz9 f9 fp9 ld9 nc9 Lv9 cf9 pf9 vst9 vk9 vm9 vd9 → va_P D vwCl (w8' ++ w9') H1 → va_D A (w8' ++ w9') → va_S A s.heap H1 locs1 → W p l e room_1 s m #[Value.ref b] below meth c H1 locs1 kc9 ns9 Q (F0 m 705 ls [])) : W p l e room_1 s m #[Value.ref b] below meth c H locs kc ns Q (F0 m 534 ls []) := by
  obtain ⟨hx, hb, -⟩ := id G
  refine lv_aload_n hx hb dL_law_534 rfl (lv_at hl 2 rfl) ?_
  refine lv_aload_n hx hb dL_law_535 rfl (lv_at hl 3 rfl) ?_
  refine lv_iload_n hx hb dL_law_536 rfl (lv_at hl 0 rfl) ?_
  refine lv_iconst (v := 1) hx hb dL_law_537 (by decide) ?_
  refine lv_iadd hx hb dL_law_538 ?_
  refine gx_top (y := nI (i + 1)) (nI_add i 1) ?_
  refine va_sld hx hb hX hbl hbA hS (ge_vi (by omega) (by omega)) dL_law_539 ?_
  refine lv_aload_n hx hb dL_law_540 rfl (lv_at hl 3 rfl) ?_
  refine lv_iload_n hx hb dL_law_541 rfl (lv_at hl 0 rfl) ?_
  refine lv_iconst (v := 2) hx hb dL_law_542 (by decide) ?_
  refine lv_iadd hx hb dL_law_543 ?_
  refine gx_top (y := nI (i + 2)) (nI_add i 2) ?_
  refine va_sld hx hb hX hbl hbA hS (ge_vi (by omega) (by omega)) dL_law_544 ?_
  refine lv_aload_n hx hb dL_law_545 rfl (lv_at hl 3 rfl) ?_
  refine lv_iload_n hx hb dL_law_546 rfl (lv_at hl 0 rfl) ?_
  refine lv_iconst (v := 3) hx hb dL_law_547 (by decide) ?_
  refine lv_iadd hx hb dL_law_548 ?_
  refine gx_top (y := nI (i + 3)) (nI_add i 3) ?_
  refine va_sld hx hb hX hbl hbA hS (ge_vi (by omega) (by omega)) dL_law_549 ?_
  refine hl_schedule G h8 hP hD hS ⟨hl.1, trivial⟩ (Model_sk h9) _ _ _ (fun r w8 tz9 f9 fp9 ld9 nc9 Lv9 cf9 pf9 vst9 vk9 vm9 vd9 kc9 ns9 H locs h8 hrel hP hD hS => ?_)
  refine lv_pop hx hb dL_law_553 rfl ?_
  refine lv_aload_n hx hb dL_law_554 rfl (lv_at hl 1 rfl) ?_
  refine lv_aload_n hx hb dL_law_555 rfl (lv_at hl 3 rfl) ?_
  refine lv_iload_n hx hb dL_law_556 rfl (lv_at hl 0 rfl) ?_
  refine lv_iconst (v := 1) hx hb dL_law_557 (by decide) ?_
  refine lv_iadd hx hb dL_law_558 ?_
  refine gx_top (y := nI (i + 1)) (nI_add i 1) ?_
  refine va_sld hx hb hX hbl hbA hS (ge_vi (by omega) (by omega)) dL_law_559 ?_
  refine lv_aload_n hx hb dL_law_560 rfl (lv_at hl 3 rfl) ?_
  refine lv_iload_n hx hb dL_law_561 rfl (lv_at hl 0 rfl) ?_
  refine lv_iconst (v := 2) hx hb dL_law_562 (by decide) ?_
  refine lv_iadd hx hb dL_law_563 ?_
  refine gx_top (y := nI (i + 2)) (nI_add i 2) ?_
  refine va_sld hx hb hX hbl hbA hS (ge_vi (by omega) (by omega)) dL_law_564 ?_
  refine lv_aload_n hx hb dL_law_565 rfl (lv_at hl 3 rfl) ?_
  refine lv_iload_n hx hb dL_law_566 rfl (lv_at hl 0 rfl) ?_
  refine lv_iconst (v := 3) hx hb dL_law_567 (by decide) ?_
  refine lv_iadd hx hb dL_law_568 ?_
  refine gx_top (y := nI (i + 3)) (nI_add i 3) ?_
  refine va_sld hx hb hX hbl hbA hS (ge_vi (by omega) (by omega)) dL_law_569 ?_
  have hle := Hall_le h8
  refine md_schedule G ⟨hle.1, hle.2.1⟩ h9 (gq_swapP hP) (gq_swapD hD) hS ⟨hl.1, trivial⟩ _ _ _ r hrel (fun r9 w9 H locs h9 er hP hD hS => ?_)
  refine lv_pop hx hb dL_law_573 rfl ?_
  refine lv_goto (tgt := 705) hx hb dL_law_574 (by decide) ?_
  exact kk _ _ _ _ _ _ _ _ _ _ _ _ _ _ _ _ H locs h8 h9 (gq_swapP hP) (gq_swapD hD) hS
theorem lc_more {p : Program} {l : Launch} {e : Env} {s : State} {m : MethodId} {below : List Frame} {meth : Method} {c : Code} {b : Nat} {A : Nat → Prop} {Q : State → Prop} {D : va_G} {cI cB cZ : ClassId} {K : gKS} (G : gL p s m c b A D cI cB cZ K) {H : Heap} {locs : List Loc} {ls : Array Slot} {L : Nat} {xs : Nat → Int32} (hX : va_X b L xs s s.heap) (hbl : b < s.heap.size) (hbA : ¬ A b) {w8 w9 : va_W} {x0 y0 tz kc ns i : Nat} {f : Nat → Int32} {fp ld : Int32} {nc : Nat} {Lv : Nat → Nat} {cf : Nat → Int32} {pf : Nat → Int32} {vst : Int32} {vk : Nat} {vm : Int32} {vd : Nat → Int32} (hi : i + 6 ≤ L) (hL : L ≤ 3072) (h8 : HallI cI cB cZ x0 w8 tz f fp ld nc Lv cf pf vst vk vm vd kc ns) (h9 : ModelI cI cB cZ y0 w9 tz f fp ld nc Lv cf pf vst vk vm vd) (hP : va_P D vwCl (w8 ++ w9) H) (hD : va_D A (w8 ++ w9)) (hS : va_S A s.heap H locs) (hl : lv_has ls 4 [(3, .int (nI i)), (2, .ref y0), (1, .ref x0), (0, .ref b)]) (kk : ∀ (w8' w9' : va_W) (tz9 : Nat) (f9 : Nat → Int32) (fp9 ld9 : Int32) (nc9 : Nat) (Lv9 : Nat → Nat) (cf9 : Nat → Int32) (pf9 : Nat → Int32) (vst9 : Int32) (vk9 : Nat) (vm9 : Int32) (vd9 : Nat → Int32) (kc9 ns9 : Nat) (H1 : Heap) (locs1 : List Loc), HallI cI cB cZ x0 w8' tz9 f9 fp9 ld9 nc9 Lv9 cf9 pf9 vst9 vk9 vm9 vd9 kc9 ns9 → ModelI cI cB cZ y0 w9' tz9 f9 fp9 ld9 nc9 Lv9 cf9 pf9 vst9 vk9 vm9 vd9 → va_P D vwCl (w8' ++ w9') H1 → va_D A (w8' ++ w9') → va_S A s.heap H1 locs1 → W p l e room_1 s m #[Value.ref b] below meth c H1 locs1 kc9 ns9 Q (F0 m 705 ls [])) : W p l e room_1 s m #[Value.ref b] below meth c H locs kc ns Q (F0 m 577 ls []) := by
  obtain ⟨hx, hb, -⟩ := id G
  refine lv_aload_n hx hb dL_law_577 rfl (lv_at hl 2 rfl) ?_
  refine lv_aload_n hx hb dL_law_578 rfl (lv_at hl 3 rfl) ?_
  refine lv_iload_n hx hb dL_law_579 rfl (lv_at hl 0 rfl) ?_
  refine lv_iconst (v := 1) hx hb dL_law_580 (by decide) ?_
  refine lv_iadd hx hb dL_law_581 ?_
  refine gx_top (y := nI (i + 1)) (nI_add i 1) ?_
  refine va_sld hx hb hX hbl hbA hS (ge_vi (by omega) (by omega)) dL_law_582 ?_
  refine hl_more G h8 hP hD hS ⟨hl.1, trivial⟩ (Model_sk h9) _ (fun r w8 tz9 f9 fp9 ld9 nc9 Lv9 cf9 pf9 vst9 vk9 vm9 vd9 kc9 ns9 H locs h8 hrel hP hD hS => ?_)
  refine lv_pop hx hb dL_law_586 rfl ?_
  refine lv_aload_n hx hb dL_law_587 rfl (lv_at hl 1 rfl) ?_
  refine lv_aload_n hx hb dL_law_588 rfl (lv_at hl 3 rfl) ?_
  refine lv_iload_n hx hb dL_law_589 rfl (lv_at hl 0 rfl) ?_
  refine lv_iconst (v := 1) hx hb dL_law_590 (by decide) ?_
  refine lv_iadd hx hb dL_law_591 ?_
  refine gx_top (y := nI (i + 1)) (nI_add i 1) ?_
  refine va_sld hx hb hX hbl hbA hS (ge_vi (by omega) (by omega)) dL_law_592 ?_
  have hle := Hall_le h8
  refine md_more G ⟨hle.1, hle.2.1⟩ h9 (gq_swapP hP) (gq_swapD hD) hS ⟨hl.1, trivial⟩ _ r hrel (fun r9 w9 H locs h9 er hP hD hS => ?_)
  refine lv_pop hx hb dL_law_596 rfl ?_
  refine lv_goto (tgt := 705) hx hb dL_law_597 (by decide) ?_
  exact kk _ _ _ _ _ _ _ _ _ _ _ _ _ _ _ _ H locs h8 h9 (gq_swapP hP) (gq_swapD hD) hS
theorem lc_race {p : Program} {l : Launch} {e : Env} {s : State} {m : MethodId} {below : List Frame} {meth : Method} {c : Code} {b : Nat} {A : Nat → Prop} {Q : State → Prop} {D : va_G} {cI cB cZ : ClassId} {K : gKS} (G : gL p s m c b A D cI cB cZ K) {H : Heap} {locs : List Loc} {ls : Array Slot} {L : Nat} {xs : Nat → Int32} (hX : va_X b L xs s s.heap) (hbl : b < s.heap.size) (hbA : ¬ A b) {w8 w9 : va_W} {x0 y0 tz kc ns i : Nat} {f : Nat → Int32} {fp ld : Int32} {nc : Nat} {Lv : Nat → Nat} {cf : Nat → Int32} {pf : Nat → Int32} {vst : Int32} {vk : Nat} {vm : Int32} {vd : Nat → Int32} (hi : i + 6 ≤ L) (hL : L ≤ 3072) (h8 : HallI cI cB cZ x0 w8 tz f fp ld nc Lv cf pf vst vk vm vd kc ns) (h9 : ModelI cI cB cZ y0 w9 tz f fp ld nc Lv cf pf vst vk vm vd) (hP : va_P D vwCl (w8 ++ w9) H) (hD : va_D A (w8 ++ w9)) (hS : va_S A s.heap H locs) (hl : lv_has ls 4 [(3, .int (nI i)), (2, .ref y0), (1, .ref x0), (0, .ref b)]) (kk : ∀ (w8' w9' : va_W) (tz9 : Nat) (f9 : Nat → Int32) (fp9 ld9 : Int32) (nc9 : Nat) (Lv9 : Nat → Nat) (cf9 : Nat → Int32) (pf9 : Nat → Int32) (vst9 : Int32) (vk9 : Nat) (vm9 : Int32) (vd9 : Nat → Int32) (kc9 ns9 : Nat) (H1 : Heap) (locs1 : List Loc), HallI cI cB cZ x0 w8' tz9 f9 fp9 ld9 nc9 Lv9 cf9 pf9 vst9 vk9 vm9 vd9 kc9 ns9 → ModelI cI cB cZ y0 w9' tz9 f9 fp9 ld9 nc9 Lv9 cf9 pf9 vst9 vk9 vm9 vd9 → va_P D vwCl (w8' ++ w9') H1 → va_D A (w8' ++ w9') → va_S A s.heap H1 locs1 → W p l e room_1 s m #[Value.ref b] below meth c H1 locs1 kc9 ns9 Q (F0 m 705 ls [])) : W p l e room_1 s m #[Value.ref b] below meth c H locs kc ns Q (F0 m 600 ls []) := by
  obtain ⟨hx, hb, -⟩ := id G
  refine lv_aload_n hx hb dL_law_600 rfl (lv_at hl 2 rfl) ?_
  refine hl_race G h8 hP hD hS ⟨hl.1, trivial⟩ (Model_sk h9)  (fun r w8 tz9 f9 fp9 ld9 nc9 Lv9 cf9 pf9 vst9 vk9 vm9 vd9 kc9 ns9 H locs h8 hrel hP hD hS => ?_)
  refine lv_pop hx hb dL_law_604 rfl ?_
  refine lv_aload_n hx hb dL_law_605 rfl (lv_at hl 1 rfl) ?_
  have hle := Hall_le h8
  refine md_race G ⟨hle.1, hle.2.1⟩ h9 (gq_swapP hP) (gq_swapD hD) hS ⟨hl.1, trivial⟩ r hrel (fun r9 w9 H locs h9 er hP hD hS => ?_)
  refine lv_pop hx hb dL_law_609 rfl ?_
  refine lv_goto (tgt := 705) hx hb dL_law_610 (by decide) ?_
  exact kk _ _ _ _ _ _ _ _ _ _ _ _ _ _ _ _ H locs h8 h9 (gq_swapP hP) (gq_swapD hD) hS
theorem lc_racer {p : Program} {l : Launch} {e : Env} {s : State} {m : MethodId} {below : List Frame} {meth : Method} {c : Code} {b : Nat} {A : Nat → Prop} {Q : State → Prop} {D : va_G} {cI cB cZ : ClassId} {K : gKS} (G : gL p s m c b A D cI cB cZ K) {H : Heap} {locs : List Loc} {ls : Array Slot} {L : Nat} {xs : Nat → Int32} (hX : va_X b L xs s s.heap) (hbl : b < s.heap.size) (hbA : ¬ A b) {w8 w9 : va_W} {x0 y0 tz kc ns i : Nat} {f : Nat → Int32} {fp ld : Int32} {nc : Nat} {Lv : Nat → Nat} {cf : Nat → Int32} {pf : Nat → Int32} {vst : Int32} {vk : Nat} {vm : Int32} {vd : Nat → Int32} (hi : i + 6 ≤ L) (hL : L ≤ 3072) (h8 : HallI cI cB cZ x0 w8 tz f fp ld nc Lv cf pf vst vk vm vd kc ns) (h9 : ModelI cI cB cZ y0 w9 tz f fp ld nc Lv cf pf vst vk vm vd) (hP : va_P D vwCl (w8 ++ w9) H) (hD : va_D A (w8 ++ w9)) (hS : va_S A s.heap H locs) (hl : lv_has ls 4 [(3, .int (nI i)), (2, .ref y0), (1, .ref x0), (0, .ref b)]) (kk : ∀ (w8' w9' : va_W) (tz9 : Nat) (f9 : Nat → Int32) (fp9 ld9 : Int32) (nc9 : Nat) (Lv9 : Nat → Nat) (cf9 : Nat → Int32) (pf9 : Nat → Int32) (vst9 : Int32) (vk9 : Nat) (vm9 : Int32) (vd9 : Nat → Int32) (kc9 ns9 : Nat) (H1 : Heap) (locs1 : List Loc), HallI cI cB cZ x0 w8' tz9 f9 fp9 ld9 nc9 Lv9 cf9 pf9 vst9 vk9 vm9 vd9 kc9 ns9 → ModelI cI cB cZ y0 w9' tz9 f9 fp9 ld9 nc9 Lv9 cf9 pf9 vst9 vk9 vm9 vd9 → va_P D vwCl (w8' ++ w9') H1 → va_D A (w8' ++ w9') → va_S A s.heap H1 locs1 → W p l e room_1 s m #[Value.ref b] below meth c H1 locs1 kc9 ns9 Q (F0 m 705 ls [])) : W p l e room_1 s m #[Value.ref b] below meth c H locs kc ns Q (F0 m 613 ls []) := by
  obtain ⟨hx, hb, -⟩ := id G
  refine lv_aload_n hx hb dL_law_613 rfl (lv_at hl 2 rfl) ?_
  refine lv_aload_n hx hb dL_law_614 rfl (lv_at hl 3 rfl) ?_
  refine lv_iload_n hx hb dL_law_615 rfl (lv_at hl 0 rfl) ?_
  refine lv_iconst (v := 1) hx hb dL_law_616 (by decide) ?_
  refine lv_iadd hx hb dL_law_617 ?_
  refine gx_top (y := nI (i + 1)) (nI_add i 1) ?_
  refine va_sld hx hb hX hbl hbA hS (ge_vi (by omega) (by omega)) dL_law_618 ?_
  refine hl_racer G h8 hP hD hS ⟨hl.1, trivial⟩ (Model_sk h9) _ (fun r w8 tz9 f9 fp9 ld9 nc9 Lv9 cf9 pf9 vst9 vk9 vm9 vd9 kc9 ns9 H locs h8 hrel hP hD hS => ?_)
  refine lv_pop hx hb dL_law_622 rfl ?_
  refine lv_aload_n hx hb dL_law_623 rfl (lv_at hl 1 rfl) ?_
  refine lv_aload_n hx hb dL_law_624 rfl (lv_at hl 3 rfl) ?_
  refine lv_iload_n hx hb dL_law_625 rfl (lv_at hl 0 rfl) ?_
  refine lv_iconst (v := 1) hx hb dL_law_626 (by decide) ?_
  refine lv_iadd hx hb dL_law_627 ?_
  refine gx_top (y := nI (i + 1)) (nI_add i 1) ?_
  refine va_sld hx hb hX hbl hbA hS (ge_vi (by omega) (by omega)) dL_law_628 ?_
  have hle := Hall_le h8
  refine md_racer G ⟨hle.1, hle.2.1⟩ h9 (gq_swapP hP) (gq_swapD hD) hS ⟨hl.1, trivial⟩ _ r hrel (fun r9 w9 H locs h9 er hP hD hS => ?_)
  refine lv_pop hx hb dL_law_632 rfl ?_
  refine lv_goto (tgt := 705) hx hb dL_law_633 (by decide) ?_
  exact kk _ _ _ _ _ _ _ _ _ _ _ _ _ _ _ _ H locs h8 h9 (gq_swapP hP) (gq_swapD hD) hS
theorem lc_cure {p : Program} {l : Launch} {e : Env} {s : State} {m : MethodId} {below : List Frame} {meth : Method} {c : Code} {b : Nat} {A : Nat → Prop} {Q : State → Prop} {D : va_G} {cI cB cZ : ClassId} {K : gKS} (G : gL p s m c b A D cI cB cZ K) {H : Heap} {locs : List Loc} {ls : Array Slot} {L : Nat} {xs : Nat → Int32} (hX : va_X b L xs s s.heap) (hbl : b < s.heap.size) (hbA : ¬ A b) {w8 w9 : va_W} {x0 y0 tz kc ns i : Nat} {f : Nat → Int32} {fp ld : Int32} {nc : Nat} {Lv : Nat → Nat} {cf : Nat → Int32} {pf : Nat → Int32} {vst : Int32} {vk : Nat} {vm : Int32} {vd : Nat → Int32} (hi : i + 6 ≤ L) (hL : L ≤ 3072) (h8 : HallI cI cB cZ x0 w8 tz f fp ld nc Lv cf pf vst vk vm vd kc ns) (h9 : ModelI cI cB cZ y0 w9 tz f fp ld nc Lv cf pf vst vk vm vd) (hP : va_P D vwCl (w8 ++ w9) H) (hD : va_D A (w8 ++ w9)) (hS : va_S A s.heap H locs) (hl : lv_has ls 4 [(3, .int (nI i)), (2, .ref y0), (1, .ref x0), (0, .ref b)]) (kk : ∀ (w8' w9' : va_W) (tz9 : Nat) (f9 : Nat → Int32) (fp9 ld9 : Int32) (nc9 : Nat) (Lv9 : Nat → Nat) (cf9 : Nat → Int32) (pf9 : Nat → Int32) (vst9 : Int32) (vk9 : Nat) (vm9 : Int32) (vd9 : Nat → Int32) (kc9 ns9 : Nat) (H1 : Heap) (locs1 : List Loc), HallI cI cB cZ x0 w8' tz9 f9 fp9 ld9 nc9 Lv9 cf9 pf9 vst9 vk9 vm9 vd9 kc9 ns9 → ModelI cI cB cZ y0 w9' tz9 f9 fp9 ld9 nc9 Lv9 cf9 pf9 vst9 vk9 vm9 vd9 → va_P D vwCl (w8' ++ w9') H1 → va_D A (w8' ++ w9') → va_S A s.heap H1 locs1 → W p l e room_1 s m #[Value.ref b] below meth c H1 locs1 kc9 ns9 Q (F0 m 705 ls [])) : W p l e room_1 s m #[Value.ref b] below meth c H locs kc ns Q (F0 m 636 ls []) := by
  obtain ⟨hx, hb, -⟩ := id G
  refine lv_aload_n hx hb dL_law_636 rfl (lv_at hl 2 rfl) ?_
  refine lv_aload_n hx hb dL_law_637 rfl (lv_at hl 3 rfl) ?_
  refine lv_iload_n hx hb dL_law_638 rfl (lv_at hl 0 rfl) ?_
  refine lv_iconst (v := 1) hx hb dL_law_639 (by decide) ?_
  refine lv_iadd hx hb dL_law_640 ?_
  refine gx_top (y := nI (i + 1)) (nI_add i 1) ?_
  refine va_sld hx hb hX hbl hbA hS (ge_vi (by omega) (by omega)) dL_law_641 ?_
  refine hl_cure G h8 hP hD hS ⟨hl.1, trivial⟩ (Model_sk h9) _ (fun r w8 tz9 f9 fp9 ld9 nc9 Lv9 cf9 pf9 vst9 vk9 vm9 vd9 kc9 ns9 H locs h8 hrel hP hD hS => ?_)
  refine lv_aload_n hx hb dL_law_645 rfl (lv_at hl 1 rfl) ?_
  refine lv_aload_n hx hb dL_law_646 rfl (lv_at hl 3 rfl) ?_
  refine lv_iload_n hx hb dL_law_647 rfl (lv_at hl 0 rfl) ?_
  refine lv_iconst (v := 1) hx hb dL_law_648 (by decide) ?_
  refine lv_iadd hx hb dL_law_649 ?_
  refine gx_top (y := nI (i + 1)) (nI_add i 1) ?_
  refine va_sld hx hb hX hbl hbA hS (ge_vi (by omega) (by omega)) dL_law_650 ?_
  have hle := Hall_le h8
  refine md_cure G ⟨hle.1, hle.2.1⟩ h9 (gq_swapP hP) (gq_swapD hD) hS ⟨hl.1, trivial⟩ _ r hrel (fun r9 w9 H locs h9 er hP hD hS => ?_)
  refine lv_icmp_eq (tgt := 705) hx hb dL_law_654 (by decide) (fun _ => ?_) (fun c9 => absurd er c9)
  exact kk _ _ _ _ _ _ _ _ _ _ _ _ _ _ _ _ H locs h8 h9 (gq_swapP hP) (gq_swapD hD) hS
theorem lc_cured {p : Program} {l : Launch} {e : Env} {s : State} {m : MethodId} {below : List Frame} {meth : Method} {c : Code} {b : Nat} {A : Nat → Prop} {Q : State → Prop} {D : va_G} {cI cB cZ : ClassId} {K : gKS} (G : gL p s m c b A D cI cB cZ K) {H : Heap} {locs : List Loc} {ls : Array Slot} {L : Nat} {xs : Nat → Int32} (hX : va_X b L xs s s.heap) (hbl : b < s.heap.size) (hbA : ¬ A b) {w8 w9 : va_W} {x0 y0 tz kc ns i : Nat} {f : Nat → Int32} {fp ld : Int32} {nc : Nat} {Lv : Nat → Nat} {cf : Nat → Int32} {pf : Nat → Int32} {vst : Int32} {vk : Nat} {vm : Int32} {vd : Nat → Int32} (hi : i + 6 ≤ L) (hL : L ≤ 3072) (h8 : HallI cI cB cZ x0 w8 tz f fp ld nc Lv cf pf vst vk vm vd kc ns) (h9 : ModelI cI cB cZ y0 w9 tz f fp ld nc Lv cf pf vst vk vm vd) (hP : va_P D vwCl (w8 ++ w9) H) (hD : va_D A (w8 ++ w9)) (hS : va_S A s.heap H locs) (hl : lv_has ls 4 [(3, .int (nI i)), (2, .ref y0), (1, .ref x0), (0, .ref b)]) (kk : ∀ (w8' w9' : va_W) (tz9 : Nat) (f9 : Nat → Int32) (fp9 ld9 : Int32) (nc9 : Nat) (Lv9 : Nat → Nat) (cf9 : Nat → Int32) (pf9 : Nat → Int32) (vst9 : Int32) (vk9 : Nat) (vm9 : Int32) (vd9 : Nat → Int32) (kc9 ns9 : Nat) (H1 : Heap) (locs1 : List Loc), HallI cI cB cZ x0 w8' tz9 f9 fp9 ld9 nc9 Lv9 cf9 pf9 vst9 vk9 vm9 vd9 kc9 ns9 → ModelI cI cB cZ y0 w9' tz9 f9 fp9 ld9 nc9 Lv9 cf9 pf9 vst9 vk9 vm9 vd9 → va_P D vwCl (w8' ++ w9') H1 → va_D A (w8' ++ w9') → va_S A s.heap H1 locs1 → W p l e room_1 s m #[Value.ref b] below meth c H1 locs1 kc9 ns9 Q (F0 m 705 ls [])) : W p l e room_1 s m #[Value.ref b] below meth c H locs kc ns Q (F0 m 659 ls []) := by
  obtain ⟨hx, hb, -⟩ := id G
  refine lv_aload_n hx hb dL_law_659 rfl (lv_at hl 2 rfl) ?_
  refine lv_aload_n hx hb dL_law_660 rfl (lv_at hl 3 rfl) ?_
  refine lv_iload_n hx hb dL_law_661 rfl (lv_at hl 0 rfl) ?_
  refine lv_iconst (v := 1) hx hb dL_law_662 (by decide) ?_
  refine lv_iadd hx hb dL_law_663 ?_
  refine gx_top (y := nI (i + 1)) (nI_add i 1) ?_
  refine va_sld hx hb hX hbl hbA hS (ge_vi (by omega) (by omega)) dL_law_664 ?_
  refine hl_cured G h8 hP hD hS ⟨hl.1, trivial⟩ (Model_sk h9) _ (fun r w8 tz9 f9 fp9 ld9 nc9 Lv9 cf9 pf9 vst9 vk9 vm9 vd9 kc9 ns9 H locs h8 hrel hP hD hS => ?_)
  refine lv_pop hx hb dL_law_668 rfl ?_
  refine lv_aload_n hx hb dL_law_669 rfl (lv_at hl 1 rfl) ?_
  refine lv_aload_n hx hb dL_law_670 rfl (lv_at hl 3 rfl) ?_
  refine lv_iload_n hx hb dL_law_671 rfl (lv_at hl 0 rfl) ?_
  refine lv_iconst (v := 1) hx hb dL_law_672 (by decide) ?_
  refine lv_iadd hx hb dL_law_673 ?_
  refine gx_top (y := nI (i + 1)) (nI_add i 1) ?_
  refine va_sld hx hb hX hbl hbA hS (ge_vi (by omega) (by omega)) dL_law_674 ?_
  have hle := Hall_le h8
  refine md_cured G ⟨hle.1, hle.2.1⟩ h9 (gq_swapP hP) (gq_swapD hD) hS ⟨hl.1, trivial⟩ _ r hrel (fun r9 w9 H locs h9 er hP hD hS => ?_)
  refine lv_pop hx hb dL_law_678 rfl ?_
  refine lv_goto (tgt := 705) hx hb dL_law_679 (by decide) ?_
  exact kk _ _ _ _ _ _ _ _ _ _ _ _ _ _ _ _ H locs h8 h9 (gq_swapP hP) (gq_swapD hD) hS
theorem lc_count {p : Program} {l : Launch} {e : Env} {s : State} {m : MethodId} {below : List Frame} {meth : Method} {c : Code} {b : Nat} {A : Nat → Prop} {Q : State → Prop} {D : va_G} {cI cB cZ : ClassId} {K : gKS} (G : gL p s m c b A D cI cB cZ K) {H : Heap} {locs : List Loc} {ls : Array Slot} {L : Nat} {xs : Nat → Int32} (hX : va_X b L xs s s.heap) (hbl : b < s.heap.size) (hbA : ¬ A b) {w8 w9 : va_W} {x0 y0 tz kc ns i : Nat} {f : Nat → Int32} {fp ld : Int32} {nc : Nat} {Lv : Nat → Nat} {cf : Nat → Int32} {pf : Nat → Int32} {vst : Int32} {vk : Nat} {vm : Int32} {vd : Nat → Int32} (hi : i + 6 ≤ L) (hL : L ≤ 3072) (h8 : HallI cI cB cZ x0 w8 tz f fp ld nc Lv cf pf vst vk vm vd kc ns) (h9 : ModelI cI cB cZ y0 w9 tz f fp ld nc Lv cf pf vst vk vm vd) (hP : va_P D vwCl (w8 ++ w9) H) (hD : va_D A (w8 ++ w9)) (hS : va_S A s.heap H locs) (hl : lv_has ls 4 [(3, .int (nI i)), (2, .ref y0), (1, .ref x0), (0, .ref b)]) (kk : ∀ (w8' w9' : va_W) (tz9 : Nat) (f9 : Nat → Int32) (fp9 ld9 : Int32) (nc9 : Nat) (Lv9 : Nat → Nat) (cf9 : Nat → Int32) (pf9 : Nat → Int32) (vst9 : Int32) (vk9 : Nat) (vm9 : Int32) (vd9 : Nat → Int32) (kc9 ns9 : Nat) (H1 : Heap) (locs1 : List Loc), HallI cI cB cZ x0 w8' tz9 f9 fp9 ld9 nc9 Lv9 cf9 pf9 vst9 vk9 vm9 vd9 kc9 ns9 → ModelI cI cB cZ y0 w9' tz9 f9 fp9 ld9 nc9 Lv9 cf9 pf9 vst9 vk9 vm9 vd9 → va_P D vwCl (w8' ++ w9') H1 → va_D A (w8' ++ w9') → va_S A s.heap H1 locs1 → W p l e room_1 s m #[Value.ref b] below meth c H1 locs1 kc9 ns9 Q (F0 m 705 ls [])) : W p l e room_1 s m #[Value.ref b] below meth c H locs kc ns Q (F0 m 682 ls []) := by
  obtain ⟨hx, hb, -⟩ := id G
  refine lv_aload_n hx hb dL_law_682 rfl (lv_at hl 2 rfl) ?_
  refine lv_aload_n hx hb dL_law_683 rfl (lv_at hl 3 rfl) ?_
  refine lv_iload_n hx hb dL_law_684 rfl (lv_at hl 0 rfl) ?_
  refine lv_iconst (v := 1) hx hb dL_law_685 (by decide) ?_
  refine lv_iadd hx hb dL_law_686 ?_
  refine gx_top (y := nI (i + 1)) (nI_add i 1) ?_
  refine va_sld hx hb hX hbl hbA hS (ge_vi (by omega) (by omega)) dL_law_687 ?_
  refine hl_count G h8 hP hD hS ⟨hl.1, trivial⟩ (Model_sk h9) _ (fun r w8 tz9 f9 fp9 ld9 nc9 Lv9 cf9 pf9 vst9 vk9 vm9 vd9 kc9 ns9 H locs h8 hrel hP hD hS => ?_)
  refine lv_pop hx hb dL_law_691 rfl ?_
  refine lv_aload_n hx hb dL_law_692 rfl (lv_at hl 1 rfl) ?_
  refine lv_aload_n hx hb dL_law_693 rfl (lv_at hl 3 rfl) ?_
  refine lv_iload_n hx hb dL_law_694 rfl (lv_at hl 0 rfl) ?_
  refine lv_iconst (v := 1) hx hb dL_law_695 (by decide) ?_
  refine lv_iadd hx hb dL_law_696 ?_
  refine gx_top (y := nI (i + 1)) (nI_add i 1) ?_
  refine va_sld hx hb hX hbl hbA hS (ge_vi (by omega) (by omega)) dL_law_697 ?_
  have hle := Hall_le h8
  refine md_count G ⟨hle.1, hle.2.1⟩ h9 (gq_swapP hP) (gq_swapD hD) hS ⟨hl.1, trivial⟩ _ r hrel (fun r9 w9 H locs h9 er hP hD hS => ?_)
  refine lv_pop hx hb dL_law_701 rfl ?_
  refine lv_goto (tgt := 705) hx hb dL_law_702 (by decide) ?_
  exact kk _ _ _ _ _ _ _ _ _ _ _ _ _ _ _ _ H locs h8 h9 (gq_swapP hP) (gq_swapD hD) hS
