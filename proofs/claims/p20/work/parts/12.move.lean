theorem dX7_move_0 : decode cX7_move 0 = .ok (.iload_n 2, 1) := by decide +kernel
theorem dX7_move_1 : decode cX7_move 1 = .ok (.iconst 3, 1) := by decide +kernel
theorem dX7_move_12 : decode cX7_move 12 = .ok (.return_, 1) := by decide +kernel
theorem dX7_move_124 : decode cX7_move 124 = .ok (.aload_n 0, 1) := by decide +kernel
theorem dX7_move_125 : decode cX7_move 125 = .ok (.getfield 11, 3) := by decide +kernel
theorem dX7_move_128 : decode cX7_move 128 = .ok (.iload 7, 2) := by decide +kernel
theorem dX7_move_13 : decode cX7_move 13 = .ok (.aload_n 1, 1) := by decide +kernel
theorem dX7_move_130 : decode cX7_move 130 = .ok (.aload_n 0, 1) := by decide +kernel
theorem dX7_move_131 : decode cX7_move 131 = .ok (.iload_n 2, 1) := by decide +kernel
theorem dX7_move_132 : decode cX7_move 132 = .ok (.iload 6, 2) := by decide +kernel
theorem dX7_move_134 : decode cX7_move 134 = .ok (.invokevirtual 68, 3) := by decide +kernel
theorem dX7_move_137 : decode cX7_move 137 = .ok (.iastore, 1) := by decide +kernel
theorem dX7_move_138 : decode cX7_move 138 = .ok (.goto 129, 3) := by decide +kernel
theorem dX7_move_14 : decode cX7_move 14 = .ok (.getfield 61, 3) := by decide +kernel
theorem dX7_move_141 : decode cX7_move 141 = .ok (.aload_n 0, 1) := by decide +kernel
theorem dX7_move_142 : decode cX7_move 142 = .ok (.iload_n 2, 1) := by decide +kernel
theorem dX7_move_143 : decode cX7_move 143 = .ok (.iload 6, 2) := by decide +kernel
theorem dX7_move_145 : decode cX7_move 145 = .ok (.aload_n 0, 1) := by decide +kernel
theorem dX7_move_146 : decode cX7_move 146 = .ok (.aload 4, 2) := by decide +kernel
theorem dX7_move_148 : decode cX7_move 148 = .ok (.iload 5, 2) := by decide +kernel
theorem dX7_move_150 : decode cX7_move 150 = .ok (.iconst 3, 1) := by decide +kernel
theorem dX7_move_151 : decode cX7_move 151 = .ok (.iadd, 1) := by decide +kernel
theorem dX7_move_152 : decode cX7_move 152 = .ok (.iload_n 2, 1) := by decide +kernel
theorem dX7_move_153 : decode cX7_move 153 = .ok (.invokevirtual 71, 3) := by decide +kernel
theorem dX7_move_156 : decode cX7_move 156 = .ok (.iload_n 3, 1) := by decide +kernel
theorem dX7_move_157 : decode cX7_move 157 = .ok (.invokevirtual 75, 3) := by decide +kernel
theorem dX7_move_160 : decode cX7_move 160 = .ok (.goto 107, 3) := by decide +kernel
theorem dX7_move_163 : decode cX7_move 163 = .ok (.aload_n 0, 1) := by decide +kernel
theorem dX7_move_164 : decode cX7_move 164 = .ok (.getfield 11, 3) := by decide +kernel
theorem dX7_move_167 : decode cX7_move 167 = .ok (.iload 7, 2) := by decide +kernel
theorem dX7_move_169 : decode cX7_move 169 = .ok (.aload_n 0, 1) := by decide +kernel
theorem dX7_move_17 : decode cX7_move 17 = .ok (.astore 4, 2) := by decide +kernel
theorem dX7_move_170 : decode cX7_move 170 = .ok (.aload 4, 2) := by decide +kernel
theorem dX7_move_172 : decode cX7_move 172 = .ok (.iload 5, 2) := by decide +kernel
theorem dX7_move_174 : decode cX7_move 174 = .ok (.iconst 3, 1) := by decide +kernel
theorem dX7_move_175 : decode cX7_move 175 = .ok (.iadd, 1) := by decide +kernel
theorem dX7_move_176 : decode cX7_move 176 = .ok (.iload_n 2, 1) := by decide +kernel
theorem dX7_move_177 : decode cX7_move 177 = .ok (.invokevirtual 71, 3) := by decide +kernel
theorem dX7_move_180 : decode cX7_move 180 = .ok (.iastore, 1) := by decide +kernel
theorem dX7_move_181 : decode cX7_move 181 = .ok (.goto 86, 3) := by decide +kernel
theorem dX7_move_184 : decode cX7_move 184 = .ok (.aload_n 0, 1) := by decide +kernel
theorem dX7_move_185 : decode cX7_move 185 = .ok (.getfield 11, 3) := by decide +kernel
theorem dX7_move_188 : decode cX7_move 188 = .ok (.iload 7, 2) := by decide +kernel
theorem dX7_move_19 : decode cX7_move 19 = .ok (.iload_n 2, 1) := by decide +kernel
theorem dX7_move_190 : decode cX7_move 190 = .ok (.dup2, 1) := by decide +kernel
theorem dX7_move_191 : decode cX7_move 191 = .ok (.iaload, 1) := by decide +kernel
theorem dX7_move_192 : decode cX7_move 192 = .ok (.aload_n 0, 1) := by decide +kernel
theorem dX7_move_193 : decode cX7_move 193 = .ok (.aload 4, 2) := by decide +kernel
theorem dX7_move_195 : decode cX7_move 195 = .ok (.iload 5, 2) := by decide +kernel
theorem dX7_move_197 : decode cX7_move 197 = .ok (.iconst 3, 1) := by decide +kernel
theorem dX7_move_198 : decode cX7_move 198 = .ok (.iadd, 1) := by decide +kernel
theorem dX7_move_199 : decode cX7_move 199 = .ok (.iload_n 2, 1) := by decide +kernel
theorem dX7_move_2 : decode cX7_move 2 = .ok (.if_icmp .lt 11, 3) := by decide +kernel
theorem dX7_move_20 : decode cX7_move 20 = .ok (.aload_n 0, 1) := by decide +kernel
theorem dX7_move_200 : decode cX7_move 200 = .ok (.invokevirtual 71, 3) := by decide +kernel
theorem dX7_move_203 : decode cX7_move 203 = .ok (.iadd, 1) := by decide +kernel
theorem dX7_move_204 : decode cX7_move 204 = .ok (.iastore, 1) := by decide +kernel
theorem dX7_move_205 : decode cX7_move 205 = .ok (.goto 62, 3) := by decide +kernel
theorem dX7_move_208 : decode cX7_move 208 = .ok (.aload_n 0, 1) := by decide +kernel
theorem dX7_move_209 : decode cX7_move 209 = .ok (.getfield 11, 3) := by decide +kernel
theorem dX7_move_21 : decode cX7_move 21 = .ok (.iload_n 2, 1) := by decide +kernel
theorem dX7_move_212 : decode cX7_move 212 = .ok (.bipush 13, 2) := by decide +kernel
theorem dX7_move_214 : decode cX7_move 214 = .ok (.iload_n 2, 1) := by decide +kernel
theorem dX7_move_215 : decode cX7_move 215 = .ok (.iadd, 1) := by decide +kernel
theorem dX7_move_216 : decode cX7_move 216 = .ok (.dup2, 1) := by decide +kernel
theorem dX7_move_217 : decode cX7_move 217 = .ok (.iaload, 1) := by decide +kernel
theorem dX7_move_218 : decode cX7_move 218 = .ok (.aload_n 0, 1) := by decide +kernel
theorem dX7_move_219 : decode cX7_move 219 = .ok (.getfield 11, 3) := by decide +kernel
theorem dX7_move_22 : decode cX7_move 22 = .ok (.invokevirtual 43, 3) := by decide +kernel
theorem dX7_move_222 : decode cX7_move 222 = .ok (.iload 7, 2) := by decide +kernel
theorem dX7_move_224 : decode cX7_move 224 = .ok (.iaload, 1) := by decide +kernel
theorem dX7_move_225 : decode cX7_move 225 = .ok (.ifCond .eq 14, 3) := by decide +kernel
theorem dX7_move_228 : decode cX7_move 228 = .ok (.aload 4, 2) := by decide +kernel
theorem dX7_move_230 : decode cX7_move 230 = .ok (.iload 5, 2) := by decide +kernel
theorem dX7_move_232 : decode cX7_move 232 = .ok (.bipush 7, 2) := by decide +kernel
theorem dX7_move_234 : decode cX7_move 234 = .ok (.iadd, 1) := by decide +kernel
theorem dX7_move_235 : decode cX7_move 235 = .ok (.iaload, 1) := by decide +kernel
theorem dX7_move_236 : decode cX7_move 236 = .ok (.goto 4, 3) := by decide +kernel
theorem dX7_move_239 : decode cX7_move 239 = .ok (.iconst 0, 1) := by decide +kernel
theorem dX7_move_240 : decode cX7_move 240 = .ok (.iadd, 1) := by decide +kernel
theorem dX7_move_241 : decode cX7_move 241 = .ok (.iastore, 1) := by decide +kernel
theorem dX7_move_242 : decode cX7_move 242 = .ok (.goto 25, 3) := by decide +kernel
theorem dX7_move_245 : decode cX7_move 245 = .ok (.aload_n 0, 1) := by decide +kernel
theorem dX7_move_246 : decode cX7_move 246 = .ok (.iload_n 2, 1) := by decide +kernel
theorem dX7_move_247 : decode cX7_move 247 = .ok (.invokevirtual 79, 3) := by decide +kernel
theorem dX7_move_25 : decode cX7_move 25 = .ok (.invokestatic 64, 3) := by decide +kernel
theorem dX7_move_250 : decode cX7_move 250 = .ok (.goto 17, 3) := by decide +kernel
theorem dX7_move_253 : decode cX7_move 253 = .ok (.aload_n 0, 1) := by decide +kernel
theorem dX7_move_254 : decode cX7_move 254 = .ok (.aload 4, 2) := by decide +kernel
theorem dX7_move_256 : decode cX7_move 256 = .ok (.iload 5, 2) := by decide +kernel
theorem dX7_move_258 : decode cX7_move 258 = .ok (.iload_n 2, 1) := by decide +kernel
theorem dX7_move_259 : decode cX7_move 259 = .ok (.invokevirtual 82, 3) := by decide +kernel
theorem dX7_move_262 : decode cX7_move 262 = .ok (.aload_n 0, 1) := by decide +kernel
theorem dX7_move_263 : decode cX7_move 263 = .ok (.iload_n 2, 1) := by decide +kernel
theorem dX7_move_264 : decode cX7_move 264 = .ok (.invokevirtual 79, 3) := by decide +kernel
theorem dX7_move_267 : decode cX7_move 267 = .ok (.return_, 1) := by decide +kernel
theorem dX7_move_28 : decode cX7_move 28 = .ok (.istore 5, 2) := by decide +kernel
theorem dX7_move_30 : decode cX7_move 30 = .ok (.aload 4, 2) := by decide +kernel
theorem dX7_move_32 : decode cX7_move 32 = .ok (.iload 5, 2) := by decide +kernel
theorem dX7_move_34 : decode cX7_move 34 = .ok (.iconst 1, 1) := by decide +kernel
theorem dX7_move_35 : decode cX7_move 35 = .ok (.iadd, 1) := by decide +kernel
theorem dX7_move_36 : decode cX7_move 36 = .ok (.iaload, 1) := by decide +kernel
theorem dX7_move_37 : decode cX7_move 37 = .ok (.istore 6, 2) := by decide +kernel
theorem dX7_move_39 : decode cX7_move 39 = .ok (.iload_n 2, 1) := by decide +kernel
theorem dX7_move_40 : decode cX7_move 40 = .ok (.iconst 3, 1) := by decide +kernel
theorem dX7_move_41 : decode cX7_move 41 = .ok (.imul, 1) := by decide +kernel
theorem dX7_move_42 : decode cX7_move 42 = .ok (.aload 4, 2) := by decide +kernel
theorem dX7_move_44 : decode cX7_move 44 = .ok (.iload 5, 2) := by decide +kernel
theorem dX7_move_46 : decode cX7_move 46 = .ok (.iconst 2, 1) := by decide +kernel
theorem dX7_move_47 : decode cX7_move 47 = .ok (.iadd, 1) := by decide +kernel
theorem dX7_move_48 : decode cX7_move 48 = .ok (.iaload, 1) := by decide +kernel
theorem dX7_move_49 : decode cX7_move 49 = .ok (.iadd, 1) := by decide +kernel
theorem dX7_move_5 : decode cX7_move 5 = .ok (.aload_n 0, 1) := by decide +kernel
theorem dX7_move_50 : decode cX7_move 50 = .ok (.istore 7, 2) := by decide +kernel
theorem dX7_move_52 : decode cX7_move 52 = .ok (.aload_n 0, 1) := by decide +kernel
theorem dX7_move_53 : decode cX7_move 53 = .ok (.getfield 11, 3) := by decide +kernel
theorem dX7_move_56 : decode cX7_move 56 = .ok (.bipush 13, 2) := by decide +kernel
theorem dX7_move_58 : decode cX7_move 58 = .ok (.iload_n 2, 1) := by decide +kernel
theorem dX7_move_59 : decode cX7_move 59 = .ok (.iadd, 1) := by decide +kernel
theorem dX7_move_6 : decode cX7_move 6 = .ok (.iload_n 2, 1) := by decide +kernel
theorem dX7_move_60 : decode cX7_move 60 = .ok (.dup2, 1) := by decide +kernel
theorem dX7_move_61 : decode cX7_move 61 = .ok (.iaload, 1) := by decide +kernel
theorem dX7_move_62 : decode cX7_move 62 = .ok (.iconst 1, 1) := by decide +kernel
theorem dX7_move_63 : decode cX7_move 63 = .ok (.iadd, 1) := by decide +kernel
theorem dX7_move_64 : decode cX7_move 64 = .ok (.iastore, 1) := by decide +kernel
theorem dX7_move_65 : decode cX7_move 65 = .ok (.aload 4, 2) := by decide +kernel
theorem dX7_move_67 : decode cX7_move 67 = .ok (.iload 5, 2) := by decide +kernel
theorem dX7_move_69 : decode cX7_move 69 = .ok (.iconst 0, 1) := by decide +kernel
theorem dX7_move_7 : decode cX7_move 7 = .ok (.iconst 3, 1) := by decide +kernel
theorem dX7_move_70 : decode cX7_move 70 = .ok (.iadd, 1) := by decide +kernel
theorem dX7_move_71 : decode cX7_move 71 = .ok (.iaload, 1) := by decide +kernel
theorem dX7_move_72 : decode cX7_move 72 = .ok (.tableswitch 181 0 8 #[52, 69, 91, 112, 173, 181, 181, 181, 136], 52) := by decide +kernel
theorem dX7_move_8 : decode cX7_move 8 = .ok (.isub, 1) := by decide +kernel
theorem dX7_move_9 : decode cX7_move 9 = .ok (.invokevirtual 57, 3) := by decide +kernel
def gIns (pf : Nat → Int32) (n b : Nat) : Prop := ∃ q, q ≤ 8 ∧ pf (n + 0) = nI q ∧ (q ≠ 1 → q ≠ 4 → ∃ r, r < 3 ∧ pf (n + 2) = nI r) ∧ (q ≠ 2 → q ≠ 3 → q ≠ 4 → q ≠ 8 → ∃ x, x < 4 ∧ pf (n + 1) = nI x) ∧ (pf (n + 3) = (-1) ∨ ∃ r, r < 3 ∧ pf (n + 3) = nI r) ∧ (pf (n + 5) = (-1) ∨ ∃ r, r < 3 ∧ pf (n + 5) = nI r) ∧ (q = 8 → ∃ y, y ≤ b ∧ pf (n + 7) = nI y)
theorem gLo_inc {w : Int32} {i y : Nat} (h : gLo w < 112) (hi : gNx w = i) (hy : i + y < 16) : gLo (w + nI y) < 112 := by
  rw [gLo_add]
  have := gNx_lo w
  omega
theorem gLo_inc2 {w : Int32} {i y : Nat} (h : gLo w < 112) (hi : gNx w = i) (hy : i + 1 + y < 16) : gLo (w + 1 + nI y) < 112 := by
  have e : gLo (w + 1) = (gLo w + 1) % 128 := gLo_add w 1
  rw [gLo_add, e]
  have := gNx_lo w
  omega
def gG (L : Nat → Nat) (pf : Nat → Int32) (b : Nat) : Prop := ∀ k, k < 3 → ∀ i, i < L k → gIns pf (((k * 8) + i) * 8) b
def wsP_c_moveG : List Cond := .code yX7_move cX7_move 8 none :: ([.methodLink RX7 57 yX7_letGo, .instanceMethod yX7_letGo, .selects RX7 yX7_letGo yX7_letGo, .initialized RX7, .fieldLink RX7 11 "LitmusHall$State" "words" "[I", .methodLink RX7 86 yX7_rowCell, .instanceMethod yX7_rowCell, .selects RX7 yX7_rowCell yX7_rowCell, .code yX7_rowCell cX7_rowCell 3 (some .int), .methodLink RX7 30 arraycopyName, .native arraycopyName, .static arraycopyName, .initialized "java/lang/System", .constant RX7 89 (-524161), .code yX7_letGo cX7_letGo 5 none] ++ wsX70)
set_option maxRecDepth 20000 in
theorem gP_c_moveG__c_letGo : GoodIn wsP_c_moveG (wsV RX7 57 RX7 yX7_letGo wsP_c_letGo) := goodIn_r _ [1, 2, 3, 4, 15, 5, 6, 7, 8, 4, 9, 10, 11, 12, 13, 14, 16] (by decide +kernel) (by decide +kernel)
set_option maxHeartbeats 4000000 in
set_option maxRecDepth 100000 in
theorem c_moveG (l : Launch) (D : va_G) (cI cB cZ : ClassId) (h0 : Nat) (a1 : Nat) (f : Nat → Int32) (p0 : Nat) (k : Nat) (mode : Int32) (hk : k < 3) (hW : gOkW f) (hz : 0 < gSz (f (13 + k))) : gMv l yX7_move wsP_c_moveG ({ frames := 2, cells := 0, slots := 0, locals := 64 }) D cI cB cZ [] [.ref h0, .ref p0, .int (nI (3 + k)), .int mode] [(h0, .inr (7, [.ref a1])), (a1, .inl (cI, 34, .inl f))] (fun w9 => ∃ g : Nat → Int32, (gOkW g) ∧ w9 = [(h0, .inr (7, [.ref a1])), (a1, .inl (cI, 34, .inl g))]) := by
  refine gMv.of (cc := cX7_move) (maxL := 8) (ret := none) (by decide) rfl (Nat.le_of_ble_eq_true rfl) (fun p e s m below meth c A ls hx hb hr hlk hml hts hown hin hA hP hK hD hS hN hl => ?_)
  have hown : s.vm.findClass RX7 = some m.cls := hown
  have hl : lv_has ls 8 [(0, .ref h0), (1, .ref p0), (2, .int (nI (3 + k))), (3, .int mode)] := hl
  refine lv_iload_n hx hb dX7_move_0 rfl (lv_at hl 2 rfl) ?_
  refine lv_iconst (v := 3) hx hb dX7_move_1 (by decide) ?_
  refine gy_lt (a := (3 + k)) (b := 3) (tgt := 13) hx hb (by omega) (by omega) dX7_move_2 (by decide) (fun c_1 => ?_) (fun c_1 => ?_)
  · exfalso; omega
  · refine lv_aload_n hx hb dX7_move_5 rfl (lv_at hl 0 rfl) ?_
    refine lv_iload_n hx hb dX7_move_6 rfl (lv_at hl 2 rfl) ?_
    refine lv_iconst (v := 3) hx hb dX7_move_7 (by decide) ?_
    refine lv_isub hx hb dX7_move_8 ?_
    refine gx_top (y := nI k) (show nI (3 + k) - nI 3 = nI k by rw [pk_sub (a := 3 + k) (b := 3) (by omega)]; congr 1; omega) ?_
    refine gx_gov (wc := [(h0, .inr (7, [.ref a1])), (a1, .inl (cI, 34, .inl f))]) (wr := []) (va_runV (As := [.int (nI k)]) (rest := []) ⟨hx, hb, hml, hown, hts⟩ (c_letGo l D cI cB cZ h0 a1 f k (by omega) hW hz _) (cwV 1 hts gP_c_moveG__c_letGo rfl rfl rfl (by decide +kernel) ⟨Nat.le_of_ble_eq_true rfl, Nat.le_of_ble_eq_true rfl⟩) (gx_preV (ci := 7) (q0 := 0) hK gN.nil hP hD [0, 1] rfl rfl rfl rfl) rfl rfl hl.1 rfl (lv_room (Nat.le_of_ble_eq_true rfl)) dX7_move_9 ⟨Nat.le_of_ble_eq_true rfl, Nat.le_of_ble_eq_true rfl⟩) hP hD hS hA [0, 1] [] rfl rfl rfl (by decide) (fun w1 H locs hp hP hD hS => ?_)
    obtain ⟨e_2, hq_3, rfl⟩ := hp
    have hq_3 : gOkW e_2 := hq_3
    have hP : va_P D vwCl [(h0, .inr (7, [.ref a1])), (a1, .inl (cI, 34, .inl e_2))] H := hP
    have hD : va_D A [(h0, .inr (7, [.ref a1])), (a1, .inl (cI, 34, .inl e_2))] := hD
    exact gx_vret (w' := [(h0, .inr (7, [.ref a1])), (a1, .inl (cI, 34, .inl e_2))]) hx hb hr hlk hK hP hD hS (Nat.le_of_ble_eq_true rfl) (Nat.le_of_ble_eq_true rfl) dX7_move_12 ⟨e_2, hq_3, rfl⟩
def wsP_c_moveK : List Cond := .code yX7_move cX7_move 8 none :: ([.fieldLink RX7 61 "LitmusHall$Program" "parts" "[I", .methodLink RX7 43 yX7_nextOf, .instanceMethod yX7_nextOf, .selects RX7 yX7_nextOf yX7_nextOf, .initialized RX7, .fieldLink RX7 11 "LitmusHall$State" "words" "[I", .code yX7_nextOf cX7_nextOf 2 (some .int), .methodLink RX7 64 yX4_partsAt, .static yX4_partsAt, .initialized RX4, .code yX4_partsAt cX4_partsAt 2 (some .int), .methodLink RX7 68 yX7_seen, .instanceMethod yX7_seen, .selects RX7 yX7_seen yX7_seen, .methodLink RX7 39 yX7_rowSize, .instanceMethod yX7_rowSize, .selects RX7 yX7_rowSize yX7_rowSize, .code yX7_rowSize cX7_rowSize 2 (some .int), .methodLink RX7 86 yX7_rowCell, .instanceMethod yX7_rowCell, .selects RX7 yX7_rowCell yX7_rowCell, .code yX7_rowCell cX7_rowCell 3 (some .int), .methodLink RX7 90 yX7_rowInt, .instanceMethod yX7_rowInt, .selects RX7 yX7_rowInt yX7_rowInt, .code yX7_rowInt cX7_rowInt 3 (some .int), .code yX7_seen cX7_seen 4 (some .int), .methodLink RX7 71 yX7_valueOf, .instanceMethod yX7_valueOf, .selects RX7 yX7_valueOf yX7_valueOf, .code yX7_valueOf cX7_valueOf 5 (some .int), .methodLink RX7 75 yX7_put, .instanceMethod yX7_put, .selects RX7 yX7_put yX7_put, .code yX7_put cX7_put 6 none, .methodLink RX7 79 yX7_forgetStored, .instanceMethod yX7_forgetStored, .selects RX7 yX7_forgetStored yX7_forgetStored, .constant RX7 93 (-7864321), .code yX7_forgetStored cX7_forgetStored 2 none, .methodLink RX7 82 yX7_lock, .instanceMethod yX7_lock, .selects RX7 yX7_lock yX7_lock, .code yX7_lock cX7_lock 11 none] ++ wsX40 ++ wsX70)
set_option maxRecDepth 20000 in
theorem gP_c_moveK__c_nextOf : GoodIn wsP_c_moveK (wsV RX7 43 RX7 yX7_nextOf wsP_c_nextOf) := goodIn_r _ [2, 3, 4, 5, 7, 6, 49] (by decide +kernel) (by decide +kernel)
set_option maxRecDepth 20000 in
theorem gP_c_moveK__c_partsAt : GoodIn wsP_c_moveK (va_wsS RX7 64 yX4_partsAt wsP_c_partsAt) := goodIn_r _ [8, 9, 10, 11] (by decide +kernel) (by decide +kernel)
set_option maxRecDepth 20000 in
theorem gP_c_moveK__c_seen : GoodIn wsP_c_moveK (wsV RX7 68 RX7 yX7_seen wsP_c_seen) := goodIn_r _ [12, 13, 14, 5, 27, 15, 16, 17, 5, 6, 18, 19, 20, 21, 22, 23, 24, 25, 26, 49] (by decide +kernel) (by decide +kernel)
set_option maxRecDepth 20000 in
theorem gP_c_moveK__c_valueOf : GoodIn wsP_c_moveK (wsV RX7 71 RX7 yX7_valueOf wsP_c_valueOf) := goodIn_r _ [28, 29, 30, 5, 31, 6, 49] (by decide +kernel) (by decide +kernel)
set_option maxRecDepth 20000 in
theorem gP_c_moveK__c_put : GoodIn wsP_c_moveK (wsV RX7 75 RX7 yX7_put wsP_c_put) := goodIn_r _ [32, 33, 34, 5, 35, 15, 16, 17, 5, 6, 18, 49] (by decide +kernel) (by decide +kernel)
set_option maxRecDepth 20000 in
theorem gP_c_moveK__c_forgetStored : GoodIn wsP_c_moveK (wsV RX7 79 RX7 yX7_forgetStored wsP_c_forgetStored) := goodIn_r _ [36, 37, 38, 5, 40, 6, 39, 49] (by decide +kernel) (by decide +kernel)
set_option maxRecDepth 20000 in
theorem gP_c_moveK__c_lock : GoodIn wsP_c_moveK (wsV RX7 82 RX7 yX7_lock wsP_c_lock) := goodIn_r _ [41, 42, 43, 5, 44, 28, 29, 30, 5, 6, 31, 49] (by decide +kernel) (by decide +kernel)
set_option maxHeartbeats 4000000 in
set_option maxRecDepth 100000 in
theorem c_moveK (l : Launch) (D : va_G) (cI cB cZ : ClassId) (h0 : Nat) (a1 : Nat) (f : Nat → Int32) (p0 : Nat) (b1 : Nat) (b3 : Nat) (v2 : Value) (nc : Nat) (L : Nat → Nat) (pf : Nat → Int32) (k : Nat) (i : Nat) (n : Nat) (b9 : Nat) (mode : Int32) (hc : nc ≤ 3) (hL : ∀ k, k < 3 → L k ≤ 8) (hk : k < nc) (hi : gNx (f (13 + k)) = i) (hnl : i < L k) (hn : ((k * 8) + i) * 8 = n) (hb9 : i + 1 + b9 < 16) (hI : gIns pf n b9) (hW : gOkW f) : gMv l yX7_move wsP_c_moveK ({ frames := 2, cells := 0, slots := 0, locals := 54 }) D cI cB cZ [] [.ref h0, .ref p0, .int (nI k), .int mode] [(h0, .inr (7, [.ref a1])), (a1, .inl (cI, 34, .inl f)), (p0, .inr (4, [.int (nI nc), .ref b1, v2, .ref b3])), (b1, .inl (cI, 3, .inl (fun j => nI (L j)))), (b3, .inl (cI, 192, .inl pf))] (fun w9 => ∃ g : Nat → Int32, (gOkW g) ∧ w9 = [(h0, .inr (7, [.ref a1])), (a1, .inl (cI, 34, .inl g)), (p0, .inr (4, [.int (nI nc), .ref b1, v2, .ref b3])), (b1, .inl (cI, 3, .inl (fun j => nI (L j)))), (b3, .inl (cI, 192, .inl pf))]) := by
  refine gMv.of (cc := cX7_move) (maxL := 8) (ret := none) (by decide) rfl (Nat.le_of_ble_eq_true rfl) (fun p e s m below meth c A ls hx hb hr hlk hml hts hown hin hA hP hK hD hS hN hl => ?_)
  have hown : s.vm.findClass RX7 = some m.cls := hown
  have hl : lv_has ls 8 [(0, .ref h0), (1, .ref p0), (2, .int (nI k)), (3, .int mode)] := hl
  have hL0 := hL k (by omega)
  obtain ⟨q, hq8, hq, hgr, hgc, h3, h5, hgs⟩ := hI
  have hW1 : gOkW (upd f (13 + k) ((f (13 + k)) + 1)) := gOkW_in' hW (gLo_inc (y := 1) (gOkW_lo hW (by omega)) hi (by omega))
  refine lv_iload_n hx hb dX7_move_0 rfl (lv_at hl 2 rfl) ?_
  refine lv_iconst (v := 3) hx hb dX7_move_1 (by decide) ?_
  refine gy_lt (a := k) (b := 3) (tgt := 13) hx hb (by omega) (by omega) dX7_move_2 (by decide) (fun c_1 => ?_) (fun c_1 => ?_)
  · refine lv_aload_n hx hb dX7_move_13 rfl (lv_at hl 1 rfl) ?_
    refine va_get (D := D) (ci := 4) (v := .ref b3) (C := RX4) (T := TX4) (N := 4) hx hb hts (fun _ h => List.mem_cons_of_mem _ (List.mem_append_left _ (List.mem_append_right _ h))) hown hK hP 2 rfl rfl 3 (by decide) (hts (.fieldLink RX7 61 "LitmusHall$Program" "parts" "[I") (by decide +kernel)) (fun _ h9 => h9) rfl dX7_move_14 ?_
    refine lv_astore (lv' := [(4, .ref b3), (0, .ref h0), (1, .ref p0), (2, .int (nI k)), (3, .int mode)]) hx hb dX7_move_17 hl (by decide) rfl (fun ls hl => ?_)
    refine lv_iload_n hx hb dX7_move_19 rfl (lv_at hl 3 rfl) ?_
    refine lv_aload_n hx hb dX7_move_20 rfl (lv_at hl 1 rfl) ?_
    refine lv_iload_n hx hb dX7_move_21 rfl (lv_at hl 3 rfl) ?_
    refine gx_goi (wc := [(h0, .inr (7, [.ref a1])), (a1, .inl (cI, 34, .inl f))]) (wr := [(p0, .inr (4, [.int (nI nc), .ref b1, v2, .ref b3])), (b1, .inl (cI, 3, .inl (fun j => nI (L j)))), (b3, .inl (cI, 192, .inl pf))]) (va_runV (As := [.int (nI k)]) (rest := [.int (nI k)]) ⟨hx, hb, hml, hown, hts⟩ (c_nextOf l D cI cB cZ h0 a1 f k (by omega) _) (cwV 1 hts gP_c_moveK__c_nextOf rfl rfl rfl (by decide +kernel) ⟨Nat.le_of_ble_eq_true rfl, Nat.le_of_ble_eq_true rfl⟩) (gx_preV (ci := 7) (q0 := 0) hK gN.nil hP hD [0, 1] rfl rfl rfl rfl) rfl rfl hl.1 rfl (lv_room (Nat.le_of_ble_eq_true rfl)) dX7_move_22 ⟨Nat.le_of_ble_eq_true rfl, Nat.le_of_ble_eq_true rfl⟩) hP hD hS hA [0, 1] [2, 3, 4] rfl rfl rfl (by decide) (fun r1 w1 H locs hp hP hD hS => ?_)
    obtain ⟨h9, rfl⟩ := hp
    have h9 := h9.symm
    subst h9
    have hP : va_P D vwCl [(p0, .inr (4, [.int (nI nc), .ref b1, v2, .ref b3])), (b1, .inl (cI, 3, .inl (fun j => nI (L j)))), (b3, .inl (cI, 192, .inl pf)), (h0, .inr (7, [.ref a1])), (a1, .inl (cI, 34, .inl f))] H := hP
    have hD : va_D A [(p0, .inr (4, [.int (nI nc), .ref b1, v2, .ref b3])), (b1, .inl (cI, 3, .inl (fun j => nI (L j)))), (b3, .inl (cI, 192, .inl pf)), (h0, .inr (7, [.ref a1])), (a1, .inl (cI, 34, .inl f))] := hD
    refine gx_top (y := nI i) (by rw [hi]) ?_
    refine gx_goi (wc := []) (wr := [(p0, .inr (4, [.int (nI nc), .ref b1, v2, .ref b3])), (b1, .inl (cI, 3, .inl (fun j => nI (L j)))), (b3, .inl (cI, 192, .inl pf)), (h0, .inr (7, [.ref a1])), (a1, .inl (cI, 34, .inl f))]) (va_runS (As := [.int (nI k), .int (nI i)]) (rest := []) ⟨hx, hb, hml, hown, hts⟩ (c_partsAt l D cI cB cZ k i _) (va_cwS 2 hts gP_c_moveK__c_partsAt rfl rfl rfl (by decide +kernel) ⟨Nat.le_of_ble_eq_true rfl, Nat.le_of_ble_eq_true rfl⟩) (gx_preS hK gN.nil hP hD [] rfl rfl) rfl rfl hl.1 rfl (lv_room (Nat.le_of_ble_eq_true rfl)) dX7_move_25 ⟨Nat.le_of_ble_eq_true rfl, Nat.le_of_ble_eq_true rfl⟩) hP hD hS hA [] [0, 1, 2, 3, 4] rfl rfl rfl (by decide) (fun r1 w1 H locs hp hP hD hS => ?_)
    obtain ⟨h9, rfl⟩ := hp
    have h9 := h9.symm
    subst h9
    have hP : va_P D vwCl [(p0, .inr (4, [.int (nI nc), .ref b1, v2, .ref b3])), (b1, .inl (cI, 3, .inl (fun j => nI (L j)))), (b3, .inl (cI, 192, .inl pf)), (h0, .inr (7, [.ref a1])), (a1, .inl (cI, 34, .inl f))] H := hP
    have hD : va_D A [(p0, .inr (4, [.int (nI nc), .ref b1, v2, .ref b3])), (b1, .inl (cI, 3, .inl (fun j => nI (L j)))), (b3, .inl (cI, 192, .inl pf)), (h0, .inr (7, [.ref a1])), (a1, .inl (cI, 34, .inl f))] := hD
    refine gx_top (y := nI n) (by rw [hn]) ?_
    refine lv_istore (lv' := [(5, .int (nI n)), (4, .ref b3), (0, .ref h0), (1, .ref p0), (2, .int (nI k)), (3, .int mode)]) hx hb dX7_move_28 hl (by decide) rfl (fun ls hl => ?_)
    refine lv_aload hx hb dX7_move_30 (lv_at hl 1 rfl) ?_
    refine lv_iload hx hb dX7_move_32 (lv_at hl 0 rfl) ?_
    refine lv_iconst (v := 1) hx hb dX7_move_34 (by decide) ?_
    refine lv_iadd hx hb dX7_move_35 ?_
    refine gx_top (y := nI (n + 1)) (nI_add n 1) ?_
    refine gy_ild (i := (n + 1)) hx hb hK hP 2 rfl (by omega) (by omega) dX7_move_36 ?_
    refine lv_istore (lv' := [(6, .int (pf (n + 1))), (5, .int (nI n)), (4, .ref b3), (0, .ref h0), (1, .ref p0), (2, .int (nI k)), (3, .int mode)]) hx hb dX7_move_37 hl (by decide) rfl (fun ls hl => ?_)
    refine lv_iload_n hx hb dX7_move_39 rfl (lv_at hl 5 rfl) ?_
    refine lv_iconst (v := 3) hx hb dX7_move_40 (by decide) ?_
    refine lv_imul hx hb dX7_move_41 ?_
    refine gx_top (y := nI (k * 3)) (pk_mul k 3) ?_
    refine lv_aload hx hb dX7_move_42 (lv_at hl 2 rfl) ?_
    refine lv_iload hx hb dX7_move_44 (lv_at hl 1 rfl) ?_
    refine lv_iconst (v := 2) hx hb dX7_move_46 (by decide) ?_
    refine lv_iadd hx hb dX7_move_47 ?_
    refine gx_top (y := nI (n + 2)) (nI_add n 2) ?_
    refine gy_ild (i := (n + 2)) hx hb hK hP 2 rfl (by omega) (by omega) dX7_move_48 ?_
    refine lv_iadd hx hb dX7_move_49 ?_
    refine lv_istore (lv' := [(7, .int ((nI (k * 3)) + (pf (n + 2)))), (6, .int (pf (n + 1))), (5, .int (nI n)), (4, .ref b3), (0, .ref h0), (1, .ref p0), (2, .int (nI k)), (3, .int mode)]) hx hb dX7_move_50 hl (by decide) rfl (fun ls hl => ?_)
    refine lv_aload_n hx hb dX7_move_52 rfl (lv_at hl 4 rfl) ?_
    refine va_get (D := D) (ci := 7) (v := .ref a1) (C := RX7) (T := TX7) (N := 1) hx hb hts (fun _ h => List.mem_cons_of_mem _ (List.mem_append_right _ h)) hown hK hP 3 rfl rfl 0 (by decide) (hts (.fieldLink RX7 11 "LitmusHall$State" "words" "[I") (by decide +kernel)) (fun _ h9 => h9) rfl dX7_move_53 ?_
    refine lv_bipush (v := 13) hx hb dX7_move_56 (by decide) ?_
    refine lv_iload_n hx hb dX7_move_58 rfl (lv_at hl 6 rfl) ?_
    refine lv_iadd hx hb dX7_move_59 ?_
    refine gx_top (y := nI (13 + k)) (nI_add 13 k) ?_
    refine lv_dup2_11 hx hb dX7_move_60 rfl rfl ?_
    refine gy_ild (i := (13 + k)) hx hb hK hP 4 rfl (by omega) (by omega) dX7_move_61 ?_
    refine lv_iconst (v := 1) hx hb dX7_move_62 (by decide) ?_
    refine lv_iadd hx hb dX7_move_63 ?_
    refine gy_ist (i := (13 + k)) hx hb hK hP hD hS 4 rfl (by omega) (by omega) dX7_move_64 (fun H locs hP hD hS => ?_)
    have hP : va_P D vwCl [(p0, .inr (4, [.int (nI nc), .ref b1, v2, .ref b3])), (b1, .inl (cI, 3, .inl (fun j => nI (L j)))), (b3, .inl (cI, 192, .inl pf)), (h0, .inr (7, [.ref a1])), (a1, .inl (cI, 34, .inl (upd f (13 + k) ((f (13 + k)) + 1))))] H := hP
    have hD : va_D A [(p0, .inr (4, [.int (nI nc), .ref b1, v2, .ref b3])), (b1, .inl (cI, 3, .inl (fun j => nI (L j)))), (b3, .inl (cI, 192, .inl pf)), (h0, .inr (7, [.ref a1])), (a1, .inl (cI, 34, .inl (upd f (13 + k) ((f (13 + k)) + 1))))] := hD
    refine lv_aload hx hb dX7_move_65 (lv_at hl 3 rfl) ?_
    refine lv_iload hx hb dX7_move_67 (lv_at hl 2 rfl) ?_
    refine lv_iconst (v := 0) hx hb dX7_move_69 (by decide) ?_
    refine lv_iadd hx hb dX7_move_70 ?_
    refine gx_top (y := nI (n + 0)) (nI_add n 0) ?_
    refine gy_ild (i := (n + 0)) hx hb hK hP 2 rfl (by omega) (by omega) dX7_move_71 ?_
    refine gx_top (y := nI q) hq ?_
    rcases (show q = 0 ∨ q = 1 ∨ q = 2 ∨ q = 3 ∨ q = 4 ∨ q = 5 ∨ q = 6 ∨ q = 7 ∨ q = 8 by omega) with rfl | rfl | rfl | rfl | rfl | rfl | rfl | rfl | rfl
    · refine lv_tableIn (off := 52) (tgt := 124) hx hb dX7_move_72 (by decide +kernel) (by decide +kernel) (by decide +kernel) (by decide) ?_
      obtain ⟨r, hr0, er⟩ := hgr (by decide) (by decide)
      obtain ⟨x, hx0, ex⟩ := hgc (by decide) (by decide) (by decide) (by decide)
      refine lv_aload_n hx hb dX7_move_124 rfl (lv_at hl 4 rfl) ?_
      refine va_get (D := D) (ci := 7) (v := .ref a1) (C := RX7) (T := TX7) (N := 1) hx hb hts (fun _ h => List.mem_cons_of_mem _ (List.mem_append_right _ h)) hown hK hP 3 rfl rfl 0 (by decide) (hts (.fieldLink RX7 11 "LitmusHall$State" "words" "[I") (by decide +kernel)) (fun _ h9 => h9) rfl dX7_move_125 ?_
      refine lv_iload hx hb dX7_move_128 (lv_at hl 0 rfl) ?_
      refine gx_top (y := nI ((k * 3) + r)) (by rw [er]; exact nI_add (k * 3) r) ?_
      refine lv_aload_n hx hb dX7_move_130 rfl (lv_at hl 4 rfl) ?_
      refine lv_iload_n hx hb dX7_move_131 rfl (lv_at hl 6 rfl) ?_
      refine lv_iload hx hb dX7_move_132 (lv_at hl 1 rfl) ?_
      refine gx_top (y := nI x) ex ?_
      refine gx_goi (wc := [(h0, .inr (7, [.ref a1])), (a1, .inl (cI, 34, .inl (upd f (13 + k) ((f (13 + k)) + 1))))]) (wr := [(p0, .inr (4, [.int (nI nc), .ref b1, v2, .ref b3])), (b1, .inl (cI, 3, .inl (fun j => nI (L j)))), (b3, .inl (cI, 192, .inl pf))]) (va_runV (As := [.int (nI k), .int (nI x)]) (rest := [.int (nI ((k * 3) + r)), .ref a1]) ⟨hx, hb, hml, hown, hts⟩ (c_seen l D cI cB cZ h0 a1 (upd f (13 + k) ((f (13 + k)) + 1)) k x (by omega) (by omega) hW1 _) (cwV 2 hts gP_c_moveK__c_seen rfl rfl rfl (by decide +kernel) ⟨Nat.le_of_ble_eq_true rfl, Nat.le_of_ble_eq_true rfl⟩) (gx_preV (ci := 7) (q0 := 0) hK gN.nil hP hD [3, 4] rfl rfl rfl rfl) rfl rfl hl.1 rfl (lv_room (Nat.le_of_ble_eq_true rfl)) dX7_move_134 ⟨Nat.le_of_ble_eq_true rfl, Nat.le_of_ble_eq_true rfl⟩) hP hD hS hA [3, 4] [0, 1, 2] rfl rfl rfl (by decide) (fun r1 w1 H locs hp hP hD hS => ?_)
      obtain ⟨e_2, h9, rfl⟩ := hp
      have h9 := h9.symm
      subst h9
      have hP : va_P D vwCl [(p0, .inr (4, [.int (nI nc), .ref b1, v2, .ref b3])), (b1, .inl (cI, 3, .inl (fun j => nI (L j)))), (b3, .inl (cI, 192, .inl pf)), (h0, .inr (7, [.ref a1])), (a1, .inl (cI, 34, .inl (upd f (13 + k) ((f (13 + k)) + 1))))] H := hP
      have hD : va_D A [(p0, .inr (4, [.int (nI nc), .ref b1, v2, .ref b3])), (b1, .inl (cI, 3, .inl (fun j => nI (L j)))), (b3, .inl (cI, 192, .inl pf)), (h0, .inr (7, [.ref a1])), (a1, .inl (cI, 34, .inl (upd f (13 + k) ((f (13 + k)) + 1))))] := hD
      refine gy_ist (i := ((k * 3) + r)) hx hb hK hP hD hS 4 rfl (by omega) (by omega) dX7_move_137 (fun H locs hP hD hS => ?_)
      have hP : va_P D vwCl [(p0, .inr (4, [.int (nI nc), .ref b1, v2, .ref b3])), (b1, .inl (cI, 3, .inl (fun j => nI (L j)))), (b3, .inl (cI, 192, .inl pf)), (h0, .inr (7, [.ref a1])), (a1, .inl (cI, 34, .inl (upd (upd f (13 + k) ((f (13 + k)) + 1)) ((k * 3) + r) e_2)))] H := hP
      have hD : va_D A [(p0, .inr (4, [.int (nI nc), .ref b1, v2, .ref b3])), (b1, .inl (cI, 3, .inl (fun j => nI (L j)))), (b3, .inl (cI, 192, .inl pf)), (h0, .inr (7, [.ref a1])), (a1, .inl (cI, 34, .inl (upd (upd f (13 + k) ((f (13 + k)) + 1)) ((k * 3) + r) e_2)))] := hD
      have hWf := gOkW_out hW1 (i := (k * 3) + r) (x := e_2) (by omega)
      refine lv_goto (tgt := 267) hx hb dX7_move_138 (by decide) ?_
      have hP := hP.sub (ws' := [(h0, .inr (7, [.ref a1])), (a1, .inl (cI, 34, .inl (upd (upd f (13 + k) ((f (13 + k)) + 1)) ((k * 3) + r) e_2))), (p0, .inr (4, [.int (nI nc), .ref b1, v2, .ref b3])), (b1, .inl (cI, 3, .inl (fun j => nI (L j)))), (b3, .inl (cI, 192, .inl pf))]) [3, 4, 0, 1, 2] rfl
      have hD := hD.sub (ws' := [(h0, .inr (7, [.ref a1])), (a1, .inl (cI, 34, .inl (upd (upd f (13 + k) ((f (13 + k)) + 1)) ((k * 3) + r) e_2))), (p0, .inr (4, [.int (nI nc), .ref b1, v2, .ref b3])), (b1, .inl (cI, 3, .inl (fun j => nI (L j)))), (b3, .inl (cI, 192, .inl pf))]) [3, 4, 0, 1, 2] (by decide) rfl
      exact gx_vret (w' := [(h0, .inr (7, [.ref a1])), (a1, .inl (cI, 34, .inl (upd (upd f (13 + k) ((f (13 + k)) + 1)) ((k * 3) + r) e_2))), (p0, .inr (4, [.int (nI nc), .ref b1, v2, .ref b3])), (b1, .inl (cI, 3, .inl (fun j => nI (L j)))), (b3, .inl (cI, 192, .inl pf))]) hx hb hr hlk hK hP hD hS (Nat.le_of_ble_eq_true rfl) (Nat.le_of_ble_eq_true rfl) dX7_move_267 ⟨(upd (upd f (13 + k) ((f (13 + k)) + 1)) ((k * 3) + r) e_2), hWf, rfl⟩
    · refine lv_tableIn (off := 69) (tgt := 141) hx hb dX7_move_72 (by decide +kernel) (by decide +kernel) (by decide +kernel) (by decide) ?_
      obtain ⟨x, hx0, ex⟩ := hgc (by decide) (by decide) (by decide) (by decide)
      refine lv_aload_n hx hb dX7_move_141 rfl (lv_at hl 4 rfl) ?_
      refine lv_iload_n hx hb dX7_move_142 rfl (lv_at hl 6 rfl) ?_
      refine lv_iload hx hb dX7_move_143 (lv_at hl 1 rfl) ?_
      refine gx_top (y := nI x) ex ?_
      refine lv_aload_n hx hb dX7_move_145 rfl (lv_at hl 4 rfl) ?_
      refine lv_aload hx hb dX7_move_146 (lv_at hl 3 rfl) ?_
      refine lv_iload hx hb dX7_move_148 (lv_at hl 2 rfl) ?_
      refine lv_iconst (v := 3) hx hb dX7_move_150 (by decide) ?_
      refine lv_iadd hx hb dX7_move_151 ?_
      refine gx_top (y := nI (n + 3)) (nI_add n 3) ?_
      refine lv_iload_n hx hb dX7_move_152 rfl (lv_at hl 6 rfl) ?_
      refine gx_goi (wc := [(h0, .inr (7, [.ref a1])), (a1, .inl (cI, 34, .inl (upd f (13 + k) ((f (13 + k)) + 1)))), (b3, .inl (cI, 192, .inl pf))]) (wr := [(p0, .inr (4, [.int (nI nc), .ref b1, v2, .ref b3])), (b1, .inl (cI, 3, .inl (fun j => nI (L j))))]) (va_runV (As := [.ref b3, .int (nI (n + 3)), .int (nI k)]) (rest := [.int (nI x), .int (nI k), .ref h0]) ⟨hx, hb, hml, hown, hts⟩ (c_valueOf l D cI cB cZ h0 a1 (upd f (13 + k) ((f (13 + k)) + 1)) b3 pf (n + 3) k (by omega) (by omega) h3 _) (cwV 3 hts gP_c_moveK__c_valueOf rfl rfl rfl (by decide +kernel) ⟨Nat.le_of_ble_eq_true rfl, Nat.le_of_ble_eq_true rfl⟩) (gx_preV (ci := 7) (q0 := 0) hK gN.nil hP hD [3, 4, 2] rfl rfl rfl rfl) rfl rfl hl.1 rfl (lv_room (Nat.le_of_ble_eq_true rfl)) dX7_move_153 ⟨Nat.le_of_ble_eq_true rfl, Nat.le_of_ble_eq_true rfl⟩) hP hD hS hA [3, 4, 2] [0, 1] rfl rfl rfl (by decide) (fun r1 w1 H locs hp hP hD hS => ?_)
      obtain ⟨e_3, h9, rfl⟩ := hp
      have h9 := h9.symm
      subst h9
      have hP : va_P D vwCl [(p0, .inr (4, [.int (nI nc), .ref b1, v2, .ref b3])), (b1, .inl (cI, 3, .inl (fun j => nI (L j)))), (h0, .inr (7, [.ref a1])), (a1, .inl (cI, 34, .inl (upd f (13 + k) ((f (13 + k)) + 1)))), (b3, .inl (cI, 192, .inl pf))] H := hP
      have hD : va_D A [(p0, .inr (4, [.int (nI nc), .ref b1, v2, .ref b3])), (b1, .inl (cI, 3, .inl (fun j => nI (L j)))), (h0, .inr (7, [.ref a1])), (a1, .inl (cI, 34, .inl (upd f (13 + k) ((f (13 + k)) + 1)))), (b3, .inl (cI, 192, .inl pf))] := hD
      refine lv_iload_n hx hb dX7_move_156 rfl (lv_at hl 7 rfl) ?_
      refine gx_gov (wc := [(h0, .inr (7, [.ref a1])), (a1, .inl (cI, 34, .inl (upd f (13 + k) ((f (13 + k)) + 1))))]) (wr := [(p0, .inr (4, [.int (nI nc), .ref b1, v2, .ref b3])), (b1, .inl (cI, 3, .inl (fun j => nI (L j)))), (b3, .inl (cI, 192, .inl pf))]) (va_runV (As := [.int (nI k), .int (nI x), .int e_3, .int mode]) (rest := []) ⟨hx, hb, hml, hown, hts⟩ (c_put l D cI cB cZ h0 a1 (upd f (13 + k) ((f (13 + k)) + 1)) k x e_3 mode (by omega) (by omega) hW1 _) (cwV 4 hts gP_c_moveK__c_put rfl rfl rfl (by decide +kernel) ⟨Nat.le_of_ble_eq_true rfl, Nat.le_of_ble_eq_true rfl⟩) (gx_preV (ci := 7) (q0 := 0) hK gN.nil hP hD [2, 3] rfl rfl rfl rfl) rfl rfl hl.1 rfl (lv_room (Nat.le_of_ble_eq_true rfl)) dX7_move_157 ⟨Nat.le_of_ble_eq_true rfl, Nat.le_of_ble_eq_true rfl⟩) hP hD hS hA [2, 3] [0, 1, 4] rfl rfl rfl (by decide) (fun w1 H locs hp hP hD hS => ?_)
      obtain ⟨e_4, hq_5, rfl⟩ := hp
      have hq_5 : gOkW e_4 := hq_5
      have hP : va_P D vwCl [(p0, .inr (4, [.int (nI nc), .ref b1, v2, .ref b3])), (b1, .inl (cI, 3, .inl (fun j => nI (L j)))), (b3, .inl (cI, 192, .inl pf)), (h0, .inr (7, [.ref a1])), (a1, .inl (cI, 34, .inl e_4))] H := hP
      have hD : va_D A [(p0, .inr (4, [.int (nI nc), .ref b1, v2, .ref b3])), (b1, .inl (cI, 3, .inl (fun j => nI (L j)))), (b3, .inl (cI, 192, .inl pf)), (h0, .inr (7, [.ref a1])), (a1, .inl (cI, 34, .inl e_4))] := hD
      have hWf := hq_5
      refine lv_goto (tgt := 267) hx hb dX7_move_160 (by decide) ?_
      have hP := hP.sub (ws' := [(h0, .inr (7, [.ref a1])), (a1, .inl (cI, 34, .inl e_4)), (p0, .inr (4, [.int (nI nc), .ref b1, v2, .ref b3])), (b1, .inl (cI, 3, .inl (fun j => nI (L j)))), (b3, .inl (cI, 192, .inl pf))]) [3, 4, 0, 1, 2] rfl
      have hD := hD.sub (ws' := [(h0, .inr (7, [.ref a1])), (a1, .inl (cI, 34, .inl e_4)), (p0, .inr (4, [.int (nI nc), .ref b1, v2, .ref b3])), (b1, .inl (cI, 3, .inl (fun j => nI (L j)))), (b3, .inl (cI, 192, .inl pf))]) [3, 4, 0, 1, 2] (by decide) rfl
      exact gx_vret (w' := [(h0, .inr (7, [.ref a1])), (a1, .inl (cI, 34, .inl e_4)), (p0, .inr (4, [.int (nI nc), .ref b1, v2, .ref b3])), (b1, .inl (cI, 3, .inl (fun j => nI (L j)))), (b3, .inl (cI, 192, .inl pf))]) hx hb hr hlk hK hP hD hS (Nat.le_of_ble_eq_true rfl) (Nat.le_of_ble_eq_true rfl) dX7_move_267 ⟨e_4, hWf, rfl⟩
    · refine lv_tableIn (off := 91) (tgt := 163) hx hb dX7_move_72 (by decide +kernel) (by decide +kernel) (by decide +kernel) (by decide) ?_
      obtain ⟨r, hr0, er⟩ := hgr (by decide) (by decide)
      refine lv_aload_n hx hb dX7_move_163 rfl (lv_at hl 4 rfl) ?_
      refine va_get (D := D) (ci := 7) (v := .ref a1) (C := RX7) (T := TX7) (N := 1) hx hb hts (fun _ h => List.mem_cons_of_mem _ (List.mem_append_right _ h)) hown hK hP 3 rfl rfl 0 (by decide) (hts (.fieldLink RX7 11 "LitmusHall$State" "words" "[I") (by decide +kernel)) (fun _ h9 => h9) rfl dX7_move_164 ?_
      refine lv_iload hx hb dX7_move_167 (lv_at hl 0 rfl) ?_
      refine gx_top (y := nI ((k * 3) + r)) (by rw [er]; exact nI_add (k * 3) r) ?_
      refine lv_aload_n hx hb dX7_move_169 rfl (lv_at hl 4 rfl) ?_
      refine lv_aload hx hb dX7_move_170 (lv_at hl 3 rfl) ?_
      refine lv_iload hx hb dX7_move_172 (lv_at hl 2 rfl) ?_
      refine lv_iconst (v := 3) hx hb dX7_move_174 (by decide) ?_
      refine lv_iadd hx hb dX7_move_175 ?_
      refine gx_top (y := nI (n + 3)) (nI_add n 3) ?_
      refine lv_iload_n hx hb dX7_move_176 rfl (lv_at hl 6 rfl) ?_
      refine gx_goi (wc := [(h0, .inr (7, [.ref a1])), (a1, .inl (cI, 34, .inl (upd f (13 + k) ((f (13 + k)) + 1)))), (b3, .inl (cI, 192, .inl pf))]) (wr := [(p0, .inr (4, [.int (nI nc), .ref b1, v2, .ref b3])), (b1, .inl (cI, 3, .inl (fun j => nI (L j))))]) (va_runV (As := [.ref b3, .int (nI (n + 3)), .int (nI k)]) (rest := [.int (nI ((k * 3) + r)), .ref a1]) ⟨hx, hb, hml, hown, hts⟩ (c_valueOf l D cI cB cZ h0 a1 (upd f (13 + k) ((f (13 + k)) + 1)) b3 pf (n + 3) k (by omega) (by omega) h3 _) (cwV 3 hts gP_c_moveK__c_valueOf rfl rfl rfl (by decide +kernel) ⟨Nat.le_of_ble_eq_true rfl, Nat.le_of_ble_eq_true rfl⟩) (gx_preV (ci := 7) (q0 := 0) hK gN.nil hP hD [3, 4, 2] rfl rfl rfl rfl) rfl rfl hl.1 rfl (lv_room (Nat.le_of_ble_eq_true rfl)) dX7_move_177 ⟨Nat.le_of_ble_eq_true rfl, Nat.le_of_ble_eq_true rfl⟩) hP hD hS hA [3, 4, 2] [0, 1] rfl rfl rfl (by decide) (fun r1 w1 H locs hp hP hD hS => ?_)
      obtain ⟨e_6, h9, rfl⟩ := hp
      have h9 := h9.symm
      subst h9
      have hP : va_P D vwCl [(p0, .inr (4, [.int (nI nc), .ref b1, v2, .ref b3])), (b1, .inl (cI, 3, .inl (fun j => nI (L j)))), (h0, .inr (7, [.ref a1])), (a1, .inl (cI, 34, .inl (upd f (13 + k) ((f (13 + k)) + 1)))), (b3, .inl (cI, 192, .inl pf))] H := hP
      have hD : va_D A [(p0, .inr (4, [.int (nI nc), .ref b1, v2, .ref b3])), (b1, .inl (cI, 3, .inl (fun j => nI (L j)))), (h0, .inr (7, [.ref a1])), (a1, .inl (cI, 34, .inl (upd f (13 + k) ((f (13 + k)) + 1)))), (b3, .inl (cI, 192, .inl pf))] := hD
      refine gy_ist (i := ((k * 3) + r)) hx hb hK hP hD hS 3 rfl (by omega) (by omega) dX7_move_180 (fun H locs hP hD hS => ?_)
      have hP : va_P D vwCl [(p0, .inr (4, [.int (nI nc), .ref b1, v2, .ref b3])), (b1, .inl (cI, 3, .inl (fun j => nI (L j)))), (h0, .inr (7, [.ref a1])), (a1, .inl (cI, 34, .inl (upd (upd f (13 + k) ((f (13 + k)) + 1)) ((k * 3) + r) e_6))), (b3, .inl (cI, 192, .inl pf))] H := hP
      have hD : va_D A [(p0, .inr (4, [.int (nI nc), .ref b1, v2, .ref b3])), (b1, .inl (cI, 3, .inl (fun j => nI (L j)))), (h0, .inr (7, [.ref a1])), (a1, .inl (cI, 34, .inl (upd (upd f (13 + k) ((f (13 + k)) + 1)) ((k * 3) + r) e_6))), (b3, .inl (cI, 192, .inl pf))] := hD
      have hWf := gOkW_out hW1 (i := (k * 3) + r) (x := e_6) (by omega)
      refine lv_goto (tgt := 267) hx hb dX7_move_181 (by decide) ?_
      have hP := hP.sub (ws' := [(h0, .inr (7, [.ref a1])), (a1, .inl (cI, 34, .inl (upd (upd f (13 + k) ((f (13 + k)) + 1)) ((k * 3) + r) e_6))), (p0, .inr (4, [.int (nI nc), .ref b1, v2, .ref b3])), (b1, .inl (cI, 3, .inl (fun j => nI (L j)))), (b3, .inl (cI, 192, .inl pf))]) [2, 3, 0, 1, 4] rfl
      have hD := hD.sub (ws' := [(h0, .inr (7, [.ref a1])), (a1, .inl (cI, 34, .inl (upd (upd f (13 + k) ((f (13 + k)) + 1)) ((k * 3) + r) e_6))), (p0, .inr (4, [.int (nI nc), .ref b1, v2, .ref b3])), (b1, .inl (cI, 3, .inl (fun j => nI (L j)))), (b3, .inl (cI, 192, .inl pf))]) [2, 3, 0, 1, 4] (by decide) rfl
      exact gx_vret (w' := [(h0, .inr (7, [.ref a1])), (a1, .inl (cI, 34, .inl (upd (upd f (13 + k) ((f (13 + k)) + 1)) ((k * 3) + r) e_6))), (p0, .inr (4, [.int (nI nc), .ref b1, v2, .ref b3])), (b1, .inl (cI, 3, .inl (fun j => nI (L j)))), (b3, .inl (cI, 192, .inl pf))]) hx hb hr hlk hK hP hD hS (Nat.le_of_ble_eq_true rfl) (Nat.le_of_ble_eq_true rfl) dX7_move_267 ⟨(upd (upd f (13 + k) ((f (13 + k)) + 1)) ((k * 3) + r) e_6), hWf, rfl⟩
    · refine lv_tableIn (off := 112) (tgt := 184) hx hb dX7_move_72 (by decide +kernel) (by decide +kernel) (by decide +kernel) (by decide) ?_
      obtain ⟨r, hr0, er⟩ := hgr (by decide) (by decide)
      refine lv_aload_n hx hb dX7_move_184 rfl (lv_at hl 4 rfl) ?_
      refine va_get (D := D) (ci := 7) (v := .ref a1) (C := RX7) (T := TX7) (N := 1) hx hb hts (fun _ h => List.mem_cons_of_mem _ (List.mem_append_right _ h)) hown hK hP 3 rfl rfl 0 (by decide) (hts (.fieldLink RX7 11 "LitmusHall$State" "words" "[I") (by decide +kernel)) (fun _ h9 => h9) rfl dX7_move_185 ?_
      refine lv_iload hx hb dX7_move_188 (lv_at hl 0 rfl) ?_
      refine gx_top (y := nI ((k * 3) + r)) (by rw [er]; exact nI_add (k * 3) r) ?_
      refine lv_dup2_11 hx hb dX7_move_190 rfl rfl ?_
      refine gy_ild (i := ((k * 3) + r)) hx hb hK hP 4 rfl (by omega) (by omega) dX7_move_191 ?_
      refine lv_aload_n hx hb dX7_move_192 rfl (lv_at hl 4 rfl) ?_
      refine lv_aload hx hb dX7_move_193 (lv_at hl 3 rfl) ?_
      refine lv_iload hx hb dX7_move_195 (lv_at hl 2 rfl) ?_
      refine lv_iconst (v := 3) hx hb dX7_move_197 (by decide) ?_
      refine lv_iadd hx hb dX7_move_198 ?_
      refine gx_top (y := nI (n + 3)) (nI_add n 3) ?_
      refine lv_iload_n hx hb dX7_move_199 rfl (lv_at hl 6 rfl) ?_
      refine gx_goi (wc := [(h0, .inr (7, [.ref a1])), (a1, .inl (cI, 34, .inl (upd f (13 + k) ((f (13 + k)) + 1)))), (b3, .inl (cI, 192, .inl pf))]) (wr := [(p0, .inr (4, [.int (nI nc), .ref b1, v2, .ref b3])), (b1, .inl (cI, 3, .inl (fun j => nI (L j))))]) (va_runV (As := [.ref b3, .int (nI (n + 3)), .int (nI k)]) (rest := [.int ((upd f (13 + k) ((f (13 + k)) + 1)) ((k * 3) + r)), .int (nI ((k * 3) + r)), .ref a1]) ⟨hx, hb, hml, hown, hts⟩ (c_valueOf l D cI cB cZ h0 a1 (upd f (13 + k) ((f (13 + k)) + 1)) b3 pf (n + 3) k (by omega) (by omega) h3 _) (cwV 3 hts gP_c_moveK__c_valueOf rfl rfl rfl (by decide +kernel) ⟨Nat.le_of_ble_eq_true rfl, Nat.le_of_ble_eq_true rfl⟩) (gx_preV (ci := 7) (q0 := 0) hK gN.nil hP hD [3, 4, 2] rfl rfl rfl rfl) rfl rfl hl.1 rfl (lv_room (Nat.le_of_ble_eq_true rfl)) dX7_move_200 ⟨Nat.le_of_ble_eq_true rfl, Nat.le_of_ble_eq_true rfl⟩) hP hD hS hA [3, 4, 2] [0, 1] rfl rfl rfl (by decide) (fun r1 w1 H locs hp hP hD hS => ?_)
      obtain ⟨e_7, h9, rfl⟩ := hp
      have h9 := h9.symm
      subst h9
      have hP : va_P D vwCl [(p0, .inr (4, [.int (nI nc), .ref b1, v2, .ref b3])), (b1, .inl (cI, 3, .inl (fun j => nI (L j)))), (h0, .inr (7, [.ref a1])), (a1, .inl (cI, 34, .inl (upd f (13 + k) ((f (13 + k)) + 1)))), (b3, .inl (cI, 192, .inl pf))] H := hP
      have hD : va_D A [(p0, .inr (4, [.int (nI nc), .ref b1, v2, .ref b3])), (b1, .inl (cI, 3, .inl (fun j => nI (L j)))), (h0, .inr (7, [.ref a1])), (a1, .inl (cI, 34, .inl (upd f (13 + k) ((f (13 + k)) + 1)))), (b3, .inl (cI, 192, .inl pf))] := hD
      refine lv_iadd hx hb dX7_move_203 ?_
      refine gy_ist (i := ((k * 3) + r)) hx hb hK hP hD hS 3 rfl (by omega) (by omega) dX7_move_204 (fun H locs hP hD hS => ?_)
      have hP : va_P D vwCl [(p0, .inr (4, [.int (nI nc), .ref b1, v2, .ref b3])), (b1, .inl (cI, 3, .inl (fun j => nI (L j)))), (h0, .inr (7, [.ref a1])), (a1, .inl (cI, 34, .inl (upd (upd f (13 + k) ((f (13 + k)) + 1)) ((k * 3) + r) (((upd f (13 + k) ((f (13 + k)) + 1)) ((k * 3) + r)) + e_7)))), (b3, .inl (cI, 192, .inl pf))] H := hP
      have hD : va_D A [(p0, .inr (4, [.int (nI nc), .ref b1, v2, .ref b3])), (b1, .inl (cI, 3, .inl (fun j => nI (L j)))), (h0, .inr (7, [.ref a1])), (a1, .inl (cI, 34, .inl (upd (upd f (13 + k) ((f (13 + k)) + 1)) ((k * 3) + r) (((upd f (13 + k) ((f (13 + k)) + 1)) ((k * 3) + r)) + e_7)))), (b3, .inl (cI, 192, .inl pf))] := hD
      have hWf := gOkW_out hW1 (i := (k * 3) + r) (x := (upd f (13 + k) ((f (13 + k)) + 1)) ((k * 3) + r) + e_7) (by omega)
      refine lv_goto (tgt := 267) hx hb dX7_move_205 (by decide) ?_
      have hP := hP.sub (ws' := [(h0, .inr (7, [.ref a1])), (a1, .inl (cI, 34, .inl (upd (upd f (13 + k) ((f (13 + k)) + 1)) ((k * 3) + r) (((upd f (13 + k) ((f (13 + k)) + 1)) ((k * 3) + r)) + e_7)))), (p0, .inr (4, [.int (nI nc), .ref b1, v2, .ref b3])), (b1, .inl (cI, 3, .inl (fun j => nI (L j)))), (b3, .inl (cI, 192, .inl pf))]) [2, 3, 0, 1, 4] rfl
      have hD := hD.sub (ws' := [(h0, .inr (7, [.ref a1])), (a1, .inl (cI, 34, .inl (upd (upd f (13 + k) ((f (13 + k)) + 1)) ((k * 3) + r) (((upd f (13 + k) ((f (13 + k)) + 1)) ((k * 3) + r)) + e_7)))), (p0, .inr (4, [.int (nI nc), .ref b1, v2, .ref b3])), (b1, .inl (cI, 3, .inl (fun j => nI (L j)))), (b3, .inl (cI, 192, .inl pf))]) [2, 3, 0, 1, 4] (by decide) rfl
      exact gx_vret (w' := [(h0, .inr (7, [.ref a1])), (a1, .inl (cI, 34, .inl (upd (upd f (13 + k) ((f (13 + k)) + 1)) ((k * 3) + r) (((upd f (13 + k) ((f (13 + k)) + 1)) ((k * 3) + r)) + e_7)))), (p0, .inr (4, [.int (nI nc), .ref b1, v2, .ref b3])), (b1, .inl (cI, 3, .inl (fun j => nI (L j)))), (b3, .inl (cI, 192, .inl pf))]) hx hb hr hlk hK hP hD hS (Nat.le_of_ble_eq_true rfl) (Nat.le_of_ble_eq_true rfl) dX7_move_267 ⟨(upd (upd f (13 + k) ((f (13 + k)) + 1)) ((k * 3) + r) (((upd f (13 + k) ((f (13 + k)) + 1)) ((k * 3) + r)) + e_7)), hWf, rfl⟩
    · refine lv_tableIn (off := 173) (tgt := 245) hx hb dX7_move_72 (by decide +kernel) (by decide +kernel) (by decide +kernel) (by decide) ?_
      refine lv_aload_n hx hb dX7_move_245 rfl (lv_at hl 4 rfl) ?_
      refine lv_iload_n hx hb dX7_move_246 rfl (lv_at hl 6 rfl) ?_
      refine gx_gov (wc := [(h0, .inr (7, [.ref a1])), (a1, .inl (cI, 34, .inl (upd f (13 + k) ((f (13 + k)) + 1))))]) (wr := [(p0, .inr (4, [.int (nI nc), .ref b1, v2, .ref b3])), (b1, .inl (cI, 3, .inl (fun j => nI (L j)))), (b3, .inl (cI, 192, .inl pf))]) (va_runV (As := [.int (nI k)]) (rest := []) ⟨hx, hb, hml, hown, hts⟩ (c_forgetStored l D cI cB cZ h0 a1 (upd f (13 + k) ((f (13 + k)) + 1)) k (by omega) hW1 _) (cwV 1 hts gP_c_moveK__c_forgetStored rfl rfl rfl (by decide +kernel) ⟨Nat.le_of_ble_eq_true rfl, Nat.le_of_ble_eq_true rfl⟩) (gx_preV (ci := 7) (q0 := 0) hK gN.nil hP hD [3, 4] rfl rfl rfl rfl) rfl rfl hl.1 rfl (lv_room (Nat.le_of_ble_eq_true rfl)) dX7_move_247 ⟨Nat.le_of_ble_eq_true rfl, Nat.le_of_ble_eq_true rfl⟩) hP hD hS hA [3, 4] [0, 1, 2] rfl rfl rfl (by decide) (fun w1 H locs hp hP hD hS => ?_)
      obtain ⟨e_8, hq_9, rfl⟩ := hp
      have hq_9 : gOkW e_8 := hq_9
      have hP : va_P D vwCl [(p0, .inr (4, [.int (nI nc), .ref b1, v2, .ref b3])), (b1, .inl (cI, 3, .inl (fun j => nI (L j)))), (b3, .inl (cI, 192, .inl pf)), (h0, .inr (7, [.ref a1])), (a1, .inl (cI, 34, .inl e_8))] H := hP
      have hD : va_D A [(p0, .inr (4, [.int (nI nc), .ref b1, v2, .ref b3])), (b1, .inl (cI, 3, .inl (fun j => nI (L j)))), (b3, .inl (cI, 192, .inl pf)), (h0, .inr (7, [.ref a1])), (a1, .inl (cI, 34, .inl e_8))] := hD
      have hWf := hq_9
      refine lv_goto (tgt := 267) hx hb dX7_move_250 (by decide) ?_
      have hP := hP.sub (ws' := [(h0, .inr (7, [.ref a1])), (a1, .inl (cI, 34, .inl e_8)), (p0, .inr (4, [.int (nI nc), .ref b1, v2, .ref b3])), (b1, .inl (cI, 3, .inl (fun j => nI (L j)))), (b3, .inl (cI, 192, .inl pf))]) [3, 4, 0, 1, 2] rfl
      have hD := hD.sub (ws' := [(h0, .inr (7, [.ref a1])), (a1, .inl (cI, 34, .inl e_8)), (p0, .inr (4, [.int (nI nc), .ref b1, v2, .ref b3])), (b1, .inl (cI, 3, .inl (fun j => nI (L j)))), (b3, .inl (cI, 192, .inl pf))]) [3, 4, 0, 1, 2] (by decide) rfl
      exact gx_vret (w' := [(h0, .inr (7, [.ref a1])), (a1, .inl (cI, 34, .inl e_8)), (p0, .inr (4, [.int (nI nc), .ref b1, v2, .ref b3])), (b1, .inl (cI, 3, .inl (fun j => nI (L j)))), (b3, .inl (cI, 192, .inl pf))]) hx hb hr hlk hK hP hD hS (Nat.le_of_ble_eq_true rfl) (Nat.le_of_ble_eq_true rfl) dX7_move_267 ⟨e_8, hWf, rfl⟩
    · refine lv_tableIn (off := 181) (tgt := 253) hx hb dX7_move_72 (by decide +kernel) (by decide +kernel) (by decide +kernel) (by decide) ?_
      obtain ⟨r, hr0, er⟩ := hgr (by decide) (by decide)
      obtain ⟨x, hx0, ex⟩ := hgc (by decide) (by decide) (by decide) (by decide)
      refine lv_aload_n hx hb dX7_move_253 rfl (lv_at hl 4 rfl) ?_
      refine lv_aload hx hb dX7_move_254 (lv_at hl 3 rfl) ?_
      refine lv_iload hx hb dX7_move_256 (lv_at hl 2 rfl) ?_
      refine lv_iload_n hx hb dX7_move_258 rfl (lv_at hl 6 rfl) ?_
      refine gx_gov (wc := [(h0, .inr (7, [.ref a1])), (a1, .inl (cI, 34, .inl (upd f (13 + k) ((f (13 + k)) + 1)))), (b3, .inl (cI, 192, .inl pf))]) (wr := [(p0, .inr (4, [.int (nI nc), .ref b1, v2, .ref b3])), (b1, .inl (cI, 3, .inl (fun j => nI (L j))))]) (va_runV (As := [.ref b3, .int (nI n), .int (nI k)]) (rest := []) ⟨hx, hb, hml, hown, hts⟩ (c_lock l D cI cB cZ h0 a1 (upd f (13 + k) ((f (13 + k)) + 1)) b3 pf n k x r (by omega) (by omega) (by omega) (by omega) ex er h3 h5 hW1 _) (cwV 3 hts gP_c_moveK__c_lock rfl rfl rfl (by decide +kernel) ⟨Nat.le_of_ble_eq_true rfl, Nat.le_of_ble_eq_true rfl⟩) (gx_preV (ci := 7) (q0 := 0) hK gN.nil hP hD [3, 4, 2] rfl rfl rfl rfl) rfl rfl hl.1 rfl (lv_room (Nat.le_of_ble_eq_true rfl)) dX7_move_259 ⟨Nat.le_of_ble_eq_true rfl, Nat.le_of_ble_eq_true rfl⟩) hP hD hS hA [3, 4, 2] [0, 1] rfl rfl rfl (by decide) (fun w1 H locs hp hP hD hS => ?_)
      obtain ⟨e_10, hq_11, rfl⟩ := hp
      have hq_11 : gOkW e_10 := hq_11
      have hP : va_P D vwCl [(p0, .inr (4, [.int (nI nc), .ref b1, v2, .ref b3])), (b1, .inl (cI, 3, .inl (fun j => nI (L j)))), (h0, .inr (7, [.ref a1])), (a1, .inl (cI, 34, .inl e_10)), (b3, .inl (cI, 192, .inl pf))] H := hP
      have hD : va_D A [(p0, .inr (4, [.int (nI nc), .ref b1, v2, .ref b3])), (b1, .inl (cI, 3, .inl (fun j => nI (L j)))), (h0, .inr (7, [.ref a1])), (a1, .inl (cI, 34, .inl e_10)), (b3, .inl (cI, 192, .inl pf))] := hD
      refine lv_aload_n hx hb dX7_move_262 rfl (lv_at hl 4 rfl) ?_
      refine lv_iload_n hx hb dX7_move_263 rfl (lv_at hl 6 rfl) ?_
      refine gx_gov (wc := [(h0, .inr (7, [.ref a1])), (a1, .inl (cI, 34, .inl e_10))]) (wr := [(p0, .inr (4, [.int (nI nc), .ref b1, v2, .ref b3])), (b1, .inl (cI, 3, .inl (fun j => nI (L j)))), (b3, .inl (cI, 192, .inl pf))]) (va_runV (As := [.int (nI k)]) (rest := []) ⟨hx, hb, hml, hown, hts⟩ (c_forgetStored l D cI cB cZ h0 a1 e_10 k (by omega) hq_11 _) (cwV 1 hts gP_c_moveK__c_forgetStored rfl rfl rfl (by decide +kernel) ⟨Nat.le_of_ble_eq_true rfl, Nat.le_of_ble_eq_true rfl⟩) (gx_preV (ci := 7) (q0 := 0) hK gN.nil hP hD [2, 3] rfl rfl rfl rfl) rfl rfl hl.1 rfl (lv_room (Nat.le_of_ble_eq_true rfl)) dX7_move_264 ⟨Nat.le_of_ble_eq_true rfl, Nat.le_of_ble_eq_true rfl⟩) hP hD hS hA [2, 3] [0, 1, 4] rfl rfl rfl (by decide) (fun w1 H locs hp hP hD hS => ?_)
      obtain ⟨e_12, hq_13, rfl⟩ := hp
      have hq_13 : gOkW e_12 := hq_13
      have hP : va_P D vwCl [(p0, .inr (4, [.int (nI nc), .ref b1, v2, .ref b3])), (b1, .inl (cI, 3, .inl (fun j => nI (L j)))), (b3, .inl (cI, 192, .inl pf)), (h0, .inr (7, [.ref a1])), (a1, .inl (cI, 34, .inl e_12))] H := hP
      have hD : va_D A [(p0, .inr (4, [.int (nI nc), .ref b1, v2, .ref b3])), (b1, .inl (cI, 3, .inl (fun j => nI (L j)))), (b3, .inl (cI, 192, .inl pf)), (h0, .inr (7, [.ref a1])), (a1, .inl (cI, 34, .inl e_12))] := hD
      have hWf := hq_13
      have hP := hP.sub (ws' := [(h0, .inr (7, [.ref a1])), (a1, .inl (cI, 34, .inl e_12)), (p0, .inr (4, [.int (nI nc), .ref b1, v2, .ref b3])), (b1, .inl (cI, 3, .inl (fun j => nI (L j)))), (b3, .inl (cI, 192, .inl pf))]) [3, 4, 0, 1, 2] rfl
      have hD := hD.sub (ws' := [(h0, .inr (7, [.ref a1])), (a1, .inl (cI, 34, .inl e_12)), (p0, .inr (4, [.int (nI nc), .ref b1, v2, .ref b3])), (b1, .inl (cI, 3, .inl (fun j => nI (L j)))), (b3, .inl (cI, 192, .inl pf))]) [3, 4, 0, 1, 2] (by decide) rfl
      exact gx_vret (w' := [(h0, .inr (7, [.ref a1])), (a1, .inl (cI, 34, .inl e_12)), (p0, .inr (4, [.int (nI nc), .ref b1, v2, .ref b3])), (b1, .inl (cI, 3, .inl (fun j => nI (L j)))), (b3, .inl (cI, 192, .inl pf))]) hx hb hr hlk hK hP hD hS (Nat.le_of_ble_eq_true rfl) (Nat.le_of_ble_eq_true rfl) dX7_move_267 ⟨e_12, hWf, rfl⟩
    · refine lv_tableIn (off := 181) (tgt := 253) hx hb dX7_move_72 (by decide +kernel) (by decide +kernel) (by decide +kernel) (by decide) ?_
      obtain ⟨r, hr0, er⟩ := hgr (by decide) (by decide)
      obtain ⟨x, hx0, ex⟩ := hgc (by decide) (by decide) (by decide) (by decide)
      refine lv_aload_n hx hb dX7_move_253 rfl (lv_at hl 4 rfl) ?_
      refine lv_aload hx hb dX7_move_254 (lv_at hl 3 rfl) ?_
      refine lv_iload hx hb dX7_move_256 (lv_at hl 2 rfl) ?_
      refine lv_iload_n hx hb dX7_move_258 rfl (lv_at hl 6 rfl) ?_
      refine gx_gov (wc := [(h0, .inr (7, [.ref a1])), (a1, .inl (cI, 34, .inl (upd f (13 + k) ((f (13 + k)) + 1)))), (b3, .inl (cI, 192, .inl pf))]) (wr := [(p0, .inr (4, [.int (nI nc), .ref b1, v2, .ref b3])), (b1, .inl (cI, 3, .inl (fun j => nI (L j))))]) (va_runV (As := [.ref b3, .int (nI n), .int (nI k)]) (rest := []) ⟨hx, hb, hml, hown, hts⟩ (c_lock l D cI cB cZ h0 a1 (upd f (13 + k) ((f (13 + k)) + 1)) b3 pf n k x r (by omega) (by omega) (by omega) (by omega) ex er h3 h5 hW1 _) (cwV 3 hts gP_c_moveK__c_lock rfl rfl rfl (by decide +kernel) ⟨Nat.le_of_ble_eq_true rfl, Nat.le_of_ble_eq_true rfl⟩) (gx_preV (ci := 7) (q0 := 0) hK gN.nil hP hD [3, 4, 2] rfl rfl rfl rfl) rfl rfl hl.1 rfl (lv_room (Nat.le_of_ble_eq_true rfl)) dX7_move_259 ⟨Nat.le_of_ble_eq_true rfl, Nat.le_of_ble_eq_true rfl⟩) hP hD hS hA [3, 4, 2] [0, 1] rfl rfl rfl (by decide) (fun w1 H locs hp hP hD hS => ?_)
      obtain ⟨e_14, hq_15, rfl⟩ := hp
      have hq_15 : gOkW e_14 := hq_15
      have hP : va_P D vwCl [(p0, .inr (4, [.int (nI nc), .ref b1, v2, .ref b3])), (b1, .inl (cI, 3, .inl (fun j => nI (L j)))), (h0, .inr (7, [.ref a1])), (a1, .inl (cI, 34, .inl e_14)), (b3, .inl (cI, 192, .inl pf))] H := hP
      have hD : va_D A [(p0, .inr (4, [.int (nI nc), .ref b1, v2, .ref b3])), (b1, .inl (cI, 3, .inl (fun j => nI (L j)))), (h0, .inr (7, [.ref a1])), (a1, .inl (cI, 34, .inl e_14)), (b3, .inl (cI, 192, .inl pf))] := hD
      refine lv_aload_n hx hb dX7_move_262 rfl (lv_at hl 4 rfl) ?_
      refine lv_iload_n hx hb dX7_move_263 rfl (lv_at hl 6 rfl) ?_
      refine gx_gov (wc := [(h0, .inr (7, [.ref a1])), (a1, .inl (cI, 34, .inl e_14))]) (wr := [(p0, .inr (4, [.int (nI nc), .ref b1, v2, .ref b3])), (b1, .inl (cI, 3, .inl (fun j => nI (L j)))), (b3, .inl (cI, 192, .inl pf))]) (va_runV (As := [.int (nI k)]) (rest := []) ⟨hx, hb, hml, hown, hts⟩ (c_forgetStored l D cI cB cZ h0 a1 e_14 k (by omega) hq_15 _) (cwV 1 hts gP_c_moveK__c_forgetStored rfl rfl rfl (by decide +kernel) ⟨Nat.le_of_ble_eq_true rfl, Nat.le_of_ble_eq_true rfl⟩) (gx_preV (ci := 7) (q0 := 0) hK gN.nil hP hD [2, 3] rfl rfl rfl rfl) rfl rfl hl.1 rfl (lv_room (Nat.le_of_ble_eq_true rfl)) dX7_move_264 ⟨Nat.le_of_ble_eq_true rfl, Nat.le_of_ble_eq_true rfl⟩) hP hD hS hA [2, 3] [0, 1, 4] rfl rfl rfl (by decide) (fun w1 H locs hp hP hD hS => ?_)
      obtain ⟨e_16, hq_17, rfl⟩ := hp
      have hq_17 : gOkW e_16 := hq_17
      have hP : va_P D vwCl [(p0, .inr (4, [.int (nI nc), .ref b1, v2, .ref b3])), (b1, .inl (cI, 3, .inl (fun j => nI (L j)))), (b3, .inl (cI, 192, .inl pf)), (h0, .inr (7, [.ref a1])), (a1, .inl (cI, 34, .inl e_16))] H := hP
      have hD : va_D A [(p0, .inr (4, [.int (nI nc), .ref b1, v2, .ref b3])), (b1, .inl (cI, 3, .inl (fun j => nI (L j)))), (b3, .inl (cI, 192, .inl pf)), (h0, .inr (7, [.ref a1])), (a1, .inl (cI, 34, .inl e_16))] := hD
      have hWf := hq_17
      have hP := hP.sub (ws' := [(h0, .inr (7, [.ref a1])), (a1, .inl (cI, 34, .inl e_16)), (p0, .inr (4, [.int (nI nc), .ref b1, v2, .ref b3])), (b1, .inl (cI, 3, .inl (fun j => nI (L j)))), (b3, .inl (cI, 192, .inl pf))]) [3, 4, 0, 1, 2] rfl
      have hD := hD.sub (ws' := [(h0, .inr (7, [.ref a1])), (a1, .inl (cI, 34, .inl e_16)), (p0, .inr (4, [.int (nI nc), .ref b1, v2, .ref b3])), (b1, .inl (cI, 3, .inl (fun j => nI (L j)))), (b3, .inl (cI, 192, .inl pf))]) [3, 4, 0, 1, 2] (by decide) rfl
      exact gx_vret (w' := [(h0, .inr (7, [.ref a1])), (a1, .inl (cI, 34, .inl e_16)), (p0, .inr (4, [.int (nI nc), .ref b1, v2, .ref b3])), (b1, .inl (cI, 3, .inl (fun j => nI (L j)))), (b3, .inl (cI, 192, .inl pf))]) hx hb hr hlk hK hP hD hS (Nat.le_of_ble_eq_true rfl) (Nat.le_of_ble_eq_true rfl) dX7_move_267 ⟨e_16, hWf, rfl⟩
    · refine lv_tableIn (off := 181) (tgt := 253) hx hb dX7_move_72 (by decide +kernel) (by decide +kernel) (by decide +kernel) (by decide) ?_
      obtain ⟨r, hr0, er⟩ := hgr (by decide) (by decide)
      obtain ⟨x, hx0, ex⟩ := hgc (by decide) (by decide) (by decide) (by decide)
      refine lv_aload_n hx hb dX7_move_253 rfl (lv_at hl 4 rfl) ?_
      refine lv_aload hx hb dX7_move_254 (lv_at hl 3 rfl) ?_
      refine lv_iload hx hb dX7_move_256 (lv_at hl 2 rfl) ?_
      refine lv_iload_n hx hb dX7_move_258 rfl (lv_at hl 6 rfl) ?_
      refine gx_gov (wc := [(h0, .inr (7, [.ref a1])), (a1, .inl (cI, 34, .inl (upd f (13 + k) ((f (13 + k)) + 1)))), (b3, .inl (cI, 192, .inl pf))]) (wr := [(p0, .inr (4, [.int (nI nc), .ref b1, v2, .ref b3])), (b1, .inl (cI, 3, .inl (fun j => nI (L j))))]) (va_runV (As := [.ref b3, .int (nI n), .int (nI k)]) (rest := []) ⟨hx, hb, hml, hown, hts⟩ (c_lock l D cI cB cZ h0 a1 (upd f (13 + k) ((f (13 + k)) + 1)) b3 pf n k x r (by omega) (by omega) (by omega) (by omega) ex er h3 h5 hW1 _) (cwV 3 hts gP_c_moveK__c_lock rfl rfl rfl (by decide +kernel) ⟨Nat.le_of_ble_eq_true rfl, Nat.le_of_ble_eq_true rfl⟩) (gx_preV (ci := 7) (q0 := 0) hK gN.nil hP hD [3, 4, 2] rfl rfl rfl rfl) rfl rfl hl.1 rfl (lv_room (Nat.le_of_ble_eq_true rfl)) dX7_move_259 ⟨Nat.le_of_ble_eq_true rfl, Nat.le_of_ble_eq_true rfl⟩) hP hD hS hA [3, 4, 2] [0, 1] rfl rfl rfl (by decide) (fun w1 H locs hp hP hD hS => ?_)
      obtain ⟨e_18, hq_19, rfl⟩ := hp
      have hq_19 : gOkW e_18 := hq_19
      have hP : va_P D vwCl [(p0, .inr (4, [.int (nI nc), .ref b1, v2, .ref b3])), (b1, .inl (cI, 3, .inl (fun j => nI (L j)))), (h0, .inr (7, [.ref a1])), (a1, .inl (cI, 34, .inl e_18)), (b3, .inl (cI, 192, .inl pf))] H := hP
      have hD : va_D A [(p0, .inr (4, [.int (nI nc), .ref b1, v2, .ref b3])), (b1, .inl (cI, 3, .inl (fun j => nI (L j)))), (h0, .inr (7, [.ref a1])), (a1, .inl (cI, 34, .inl e_18)), (b3, .inl (cI, 192, .inl pf))] := hD
      refine lv_aload_n hx hb dX7_move_262 rfl (lv_at hl 4 rfl) ?_
      refine lv_iload_n hx hb dX7_move_263 rfl (lv_at hl 6 rfl) ?_
      refine gx_gov (wc := [(h0, .inr (7, [.ref a1])), (a1, .inl (cI, 34, .inl e_18))]) (wr := [(p0, .inr (4, [.int (nI nc), .ref b1, v2, .ref b3])), (b1, .inl (cI, 3, .inl (fun j => nI (L j)))), (b3, .inl (cI, 192, .inl pf))]) (va_runV (As := [.int (nI k)]) (rest := []) ⟨hx, hb, hml, hown, hts⟩ (c_forgetStored l D cI cB cZ h0 a1 e_18 k (by omega) hq_19 _) (cwV 1 hts gP_c_moveK__c_forgetStored rfl rfl rfl (by decide +kernel) ⟨Nat.le_of_ble_eq_true rfl, Nat.le_of_ble_eq_true rfl⟩) (gx_preV (ci := 7) (q0 := 0) hK gN.nil hP hD [2, 3] rfl rfl rfl rfl) rfl rfl hl.1 rfl (lv_room (Nat.le_of_ble_eq_true rfl)) dX7_move_264 ⟨Nat.le_of_ble_eq_true rfl, Nat.le_of_ble_eq_true rfl⟩) hP hD hS hA [2, 3] [0, 1, 4] rfl rfl rfl (by decide) (fun w1 H locs hp hP hD hS => ?_)
      obtain ⟨e_20, hq_21, rfl⟩ := hp
      have hq_21 : gOkW e_20 := hq_21
      have hP : va_P D vwCl [(p0, .inr (4, [.int (nI nc), .ref b1, v2, .ref b3])), (b1, .inl (cI, 3, .inl (fun j => nI (L j)))), (b3, .inl (cI, 192, .inl pf)), (h0, .inr (7, [.ref a1])), (a1, .inl (cI, 34, .inl e_20))] H := hP
      have hD : va_D A [(p0, .inr (4, [.int (nI nc), .ref b1, v2, .ref b3])), (b1, .inl (cI, 3, .inl (fun j => nI (L j)))), (b3, .inl (cI, 192, .inl pf)), (h0, .inr (7, [.ref a1])), (a1, .inl (cI, 34, .inl e_20))] := hD
      have hWf := hq_21
      have hP := hP.sub (ws' := [(h0, .inr (7, [.ref a1])), (a1, .inl (cI, 34, .inl e_20)), (p0, .inr (4, [.int (nI nc), .ref b1, v2, .ref b3])), (b1, .inl (cI, 3, .inl (fun j => nI (L j)))), (b3, .inl (cI, 192, .inl pf))]) [3, 4, 0, 1, 2] rfl
      have hD := hD.sub (ws' := [(h0, .inr (7, [.ref a1])), (a1, .inl (cI, 34, .inl e_20)), (p0, .inr (4, [.int (nI nc), .ref b1, v2, .ref b3])), (b1, .inl (cI, 3, .inl (fun j => nI (L j)))), (b3, .inl (cI, 192, .inl pf))]) [3, 4, 0, 1, 2] (by decide) rfl
      exact gx_vret (w' := [(h0, .inr (7, [.ref a1])), (a1, .inl (cI, 34, .inl e_20)), (p0, .inr (4, [.int (nI nc), .ref b1, v2, .ref b3])), (b1, .inl (cI, 3, .inl (fun j => nI (L j)))), (b3, .inl (cI, 192, .inl pf))]) hx hb hr hlk hK hP hD hS (Nat.le_of_ble_eq_true rfl) (Nat.le_of_ble_eq_true rfl) dX7_move_267 ⟨e_20, hWf, rfl⟩
    · refine lv_tableIn (off := 136) (tgt := 208) hx hb dX7_move_72 (by decide +kernel) (by decide +kernel) (by decide +kernel) (by decide) ?_
      obtain ⟨r, hr0, er⟩ := hgr (by decide) (by decide)
      obtain ⟨y, hy0, ey⟩ := hgs rfl
      refine lv_aload_n hx hb dX7_move_208 rfl (lv_at hl 4 rfl) ?_
      refine va_get (D := D) (ci := 7) (v := .ref a1) (C := RX7) (T := TX7) (N := 1) hx hb hts (fun _ h => List.mem_cons_of_mem _ (List.mem_append_right _ h)) hown hK hP 3 rfl rfl 0 (by decide) (hts (.fieldLink RX7 11 "LitmusHall$State" "words" "[I") (by decide +kernel)) (fun _ h9 => h9) rfl dX7_move_209 ?_
      refine lv_bipush (v := 13) hx hb dX7_move_212 (by decide) ?_
      refine lv_iload_n hx hb dX7_move_214 rfl (lv_at hl 6 rfl) ?_
      refine lv_iadd hx hb dX7_move_215 ?_
      refine gx_top (y := nI (13 + k)) (nI_add 13 k) ?_
      refine lv_dup2_11 hx hb dX7_move_216 rfl rfl ?_
      refine gy_ild (i := (13 + k)) hx hb hK hP 4 rfl (by omega) (by omega) dX7_move_217 ?_
      refine lv_aload_n hx hb dX7_move_218 rfl (lv_at hl 4 rfl) ?_
      refine va_get (D := D) (ci := 7) (v := .ref a1) (C := RX7) (T := TX7) (N := 1) hx hb hts (fun _ h => List.mem_cons_of_mem _ (List.mem_append_right _ h)) hown hK hP 3 rfl rfl 0 (by decide) (hts (.fieldLink RX7 11 "LitmusHall$State" "words" "[I") (by decide +kernel)) (fun _ h9 => h9) rfl dX7_move_219 ?_
      refine lv_iload hx hb dX7_move_222 (lv_at hl 0 rfl) ?_
      refine gx_top (y := nI ((k * 3) + r)) (by rw [er]; exact nI_add (k * 3) r) ?_
      refine gy_ild (i := ((k * 3) + r)) hx hb hK hP 4 rfl (by omega) (by omega) dX7_move_224 ?_
      refine lv_if_eq (tgt := 239) hx hb dX7_move_225 (by decide) (fun c_22 => ?_) (fun c_22 => ?_)
      · refine lv_iconst (v := 0) hx hb dX7_move_239 (by decide) ?_
        refine lv_iadd hx hb dX7_move_240 ?_
        refine gy_ist (i := (13 + k)) hx hb hK hP hD hS 4 rfl (by omega) (by omega) dX7_move_241 (fun H locs hP hD hS => ?_)
        have hP : va_P D vwCl [(p0, .inr (4, [.int (nI nc), .ref b1, v2, .ref b3])), (b1, .inl (cI, 3, .inl (fun j => nI (L j)))), (b3, .inl (cI, 192, .inl pf)), (h0, .inr (7, [.ref a1])), (a1, .inl (cI, 34, .inl (upd (upd f (13 + k) ((f (13 + k)) + 1)) (13 + k) (((upd f (13 + k) ((f (13 + k)) + 1)) (13 + k)) + 0))))] H := hP
        have hD : va_D A [(p0, .inr (4, [.int (nI nc), .ref b1, v2, .ref b3])), (b1, .inl (cI, 3, .inl (fun j => nI (L j)))), (b3, .inl (cI, 192, .inl pf)), (h0, .inr (7, [.ref a1])), (a1, .inl (cI, 34, .inl (upd (upd f (13 + k) ((f (13 + k)) + 1)) (13 + k) (((upd f (13 + k) ((f (13 + k)) + 1)) (13 + k)) + 0))))] := hD
        have hWf := gOkW_in' hW1 (k0 := k) (x := (((upd f (13 + k) ((f (13 + k)) + 1)) (13 + k)) + 0)) (by rw [pk_us]; exact gLo_inc2 (y := 0) (gOkW_lo hW (by omega)) hi (by omega))
        refine lv_goto (tgt := 267) hx hb dX7_move_242 (by decide) ?_
        have hP := hP.sub (ws' := [(h0, .inr (7, [.ref a1])), (a1, .inl (cI, 34, .inl (upd (upd f (13 + k) ((f (13 + k)) + 1)) (13 + k) (((upd f (13 + k) ((f (13 + k)) + 1)) (13 + k)) + 0)))), (p0, .inr (4, [.int (nI nc), .ref b1, v2, .ref b3])), (b1, .inl (cI, 3, .inl (fun j => nI (L j)))), (b3, .inl (cI, 192, .inl pf))]) [3, 4, 0, 1, 2] rfl
        have hD := hD.sub (ws' := [(h0, .inr (7, [.ref a1])), (a1, .inl (cI, 34, .inl (upd (upd f (13 + k) ((f (13 + k)) + 1)) (13 + k) (((upd f (13 + k) ((f (13 + k)) + 1)) (13 + k)) + 0)))), (p0, .inr (4, [.int (nI nc), .ref b1, v2, .ref b3])), (b1, .inl (cI, 3, .inl (fun j => nI (L j)))), (b3, .inl (cI, 192, .inl pf))]) [3, 4, 0, 1, 2] (by decide) rfl
        exact gx_vret (w' := [(h0, .inr (7, [.ref a1])), (a1, .inl (cI, 34, .inl (upd (upd f (13 + k) ((f (13 + k)) + 1)) (13 + k) (((upd f (13 + k) ((f (13 + k)) + 1)) (13 + k)) + 0)))), (p0, .inr (4, [.int (nI nc), .ref b1, v2, .ref b3])), (b1, .inl (cI, 3, .inl (fun j => nI (L j)))), (b3, .inl (cI, 192, .inl pf))]) hx hb hr hlk hK hP hD hS (Nat.le_of_ble_eq_true rfl) (Nat.le_of_ble_eq_true rfl) dX7_move_267 ⟨(upd (upd f (13 + k) ((f (13 + k)) + 1)) (13 + k) (((upd f (13 + k) ((f (13 + k)) + 1)) (13 + k)) + 0)), hWf, rfl⟩
      · refine lv_aload hx hb dX7_move_228 (lv_at hl 3 rfl) ?_
        refine lv_iload hx hb dX7_move_230 (lv_at hl 2 rfl) ?_
        refine lv_bipush (v := 7) hx hb dX7_move_232 (by decide) ?_
        refine lv_iadd hx hb dX7_move_234 ?_
        refine gx_top (y := nI (n + 7)) (nI_add n 7) ?_
        refine gy_ild (i := (n + 7)) hx hb hK hP 2 rfl (by omega) (by omega) dX7_move_235 ?_
        refine gx_top (y := nI y) ey ?_
        refine lv_goto (tgt := 240) hx hb dX7_move_236 (by decide) ?_
        refine lv_iadd hx hb dX7_move_240 ?_
        refine gy_ist (i := (13 + k)) hx hb hK hP hD hS 4 rfl (by omega) (by omega) dX7_move_241 (fun H locs hP hD hS => ?_)
        have hP : va_P D vwCl [(p0, .inr (4, [.int (nI nc), .ref b1, v2, .ref b3])), (b1, .inl (cI, 3, .inl (fun j => nI (L j)))), (b3, .inl (cI, 192, .inl pf)), (h0, .inr (7, [.ref a1])), (a1, .inl (cI, 34, .inl (upd (upd f (13 + k) ((f (13 + k)) + 1)) (13 + k) (((upd f (13 + k) ((f (13 + k)) + 1)) (13 + k)) + (nI y)))))] H := hP
        have hD : va_D A [(p0, .inr (4, [.int (nI nc), .ref b1, v2, .ref b3])), (b1, .inl (cI, 3, .inl (fun j => nI (L j)))), (b3, .inl (cI, 192, .inl pf)), (h0, .inr (7, [.ref a1])), (a1, .inl (cI, 34, .inl (upd (upd f (13 + k) ((f (13 + k)) + 1)) (13 + k) (((upd f (13 + k) ((f (13 + k)) + 1)) (13 + k)) + (nI y)))))] := hD
        have hWf := gOkW_in' hW1 (k0 := k) (x := (((upd f (13 + k) ((f (13 + k)) + 1)) (13 + k)) + (nI y))) (by rw [pk_us]; exact gLo_inc2 (y := y) (gOkW_lo hW (by omega)) hi (by omega))
        refine lv_goto (tgt := 267) hx hb dX7_move_242 (by decide) ?_
        have hP := hP.sub (ws' := [(h0, .inr (7, [.ref a1])), (a1, .inl (cI, 34, .inl (upd (upd f (13 + k) ((f (13 + k)) + 1)) (13 + k) (((upd f (13 + k) ((f (13 + k)) + 1)) (13 + k)) + (nI y))))), (p0, .inr (4, [.int (nI nc), .ref b1, v2, .ref b3])), (b1, .inl (cI, 3, .inl (fun j => nI (L j)))), (b3, .inl (cI, 192, .inl pf))]) [3, 4, 0, 1, 2] rfl
        have hD := hD.sub (ws' := [(h0, .inr (7, [.ref a1])), (a1, .inl (cI, 34, .inl (upd (upd f (13 + k) ((f (13 + k)) + 1)) (13 + k) (((upd f (13 + k) ((f (13 + k)) + 1)) (13 + k)) + (nI y))))), (p0, .inr (4, [.int (nI nc), .ref b1, v2, .ref b3])), (b1, .inl (cI, 3, .inl (fun j => nI (L j)))), (b3, .inl (cI, 192, .inl pf))]) [3, 4, 0, 1, 2] (by decide) rfl
        exact gx_vret (w' := [(h0, .inr (7, [.ref a1])), (a1, .inl (cI, 34, .inl (upd (upd f (13 + k) ((f (13 + k)) + 1)) (13 + k) (((upd f (13 + k) ((f (13 + k)) + 1)) (13 + k)) + (nI y))))), (p0, .inr (4, [.int (nI nc), .ref b1, v2, .ref b3])), (b1, .inl (cI, 3, .inl (fun j => nI (L j)))), (b3, .inl (cI, 192, .inl pf))]) hx hb hr hlk hK hP hD hS (Nat.le_of_ble_eq_true rfl) (Nat.le_of_ble_eq_true rfl) dX7_move_267 ⟨(upd (upd f (13 + k) ((f (13 + k)) + 1)) (13 + k) (((upd f (13 + k) ((f (13 + k)) + 1)) (13 + k)) + (nI y))), hWf, rfl⟩
  · exfalso; omega
