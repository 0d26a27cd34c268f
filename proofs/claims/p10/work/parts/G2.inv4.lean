
theorem gq_div {r : Nat} (h : r ≤ 51000) : r / 17 ≤ 3000 ∧ r / 51000 ≤ 1 := by omega
theorem gq_k {rrA rrB rl : Nat} (hA : rrA ≤ 51000) (hB : rrB ≤ 51000) (hl : rl ≤ 102000) : 63 + (rrA / 17) + (rrB / 17) + 10 + ((rl - 1600) / 4800) ≤ 20000 ∧ 584682 + (2 * rrA + 51000 * (rrA / 51000)) + (2 * rrB + 51000 * (rrB / 51000)) + 11814 + (2 * (rl - 1600)) ≤ 2000000 := by
  have a := gq_div hA
  have b := gq_div hB
  generalize rrA / 17 = x1 at *; generalize rrB / 17 = x2 at *; generalize rrA / 51000 = x3 at *; generalize rrB / 51000 = x4 at *
  omega
theorem gq_d17 {r r9 : Nat} (h : r ≤ r9) (h1 : r % 17 = 0) (h2 : r9 % 17 = 0) : r / 17 + (r9 - r) / 17 ≤ r9 / 17 := by omega
theorem gq_dph {r r9 : Nat} (h : r ≤ r9) : (2 * r + 51000 * (r / 51000)) + ((2 * r9 + 51000 * (r9 / 51000)) - (2 * r + 51000 * (r / 51000))) = 2 * r9 + 51000 * (r9 / 51000) := by
  have : r / 51000 ≤ r9 / 51000 := Nat.div_le_div_right h
  generalize r / 51000 = x at *; generalize r9 / 51000 = y at *
  omega
theorem gq_drl {r r9 : Nat} (h : r ≤ r9) (h1 : 1600 ≤ r) : (r - 1600) / 4800 + (r9 - r) / 4800 ≤ (r9 - 1600) / 4800 ∧ 2 * (r - 1600) + 2 * (r9 - r) = 2 * (r9 - 1600) := by
  have e : r9 - 1600 = (r - 1600) + (r9 - r) := by omega
  refine ⟨?_, by omega⟩
  rw [e]
  generalize r - 1600 = a
  generalize r9 - r = b
  have h1 := Nat.div_add_mod a 4800
  have h2 := Nat.div_add_mod b 4800
  refine (Nat.le_div_iff_mul_le (by decide)).mpr ?_
  generalize a / 4800 = x at *
  generalize b / 4800 = y at *
  omega
theorem gq_s1 {x1 x2 x3 x4 x5 x6 x7 x8 x9 : Nat} : x1 + x5 ≤ x3 → x2 + x6 ≤ x4 → x7 + x9 ≤ x8 → (63 + x1 + x2 + 10 + x7) + (x9 + x5 + x6) ≤ 63 + x3 + x4 + 10 + x8 := by omega
theorem gq_s2 {x1 x2 x3 x4 x5 x6 x8 : Nat} : x1 + x5 ≤ x3 → x2 + x6 ≤ x4 → (63 + x1 + x2) + (10 + x8 + x5 + x6) ≤ 63 + x3 + x4 + 10 + x8 := by omega
theorem gq_s3 {p q p9 q9 a b x y : Nat} : p + a = p9 → q + b = q9 → x + y = x + y → (584682 + p + q + 11814 + x) + (y + a + b) ≤ 584682 + p9 + q9 + 11814 + (x + y) := by omega
theorem gq_s4 {p q p9 q9 a b y : Nat} : p + a = p9 → q + b = q9 → (584682 + p + q) + (11814 + y + a + b) ≤ 584682 + p9 + q9 + 11814 + y := by omega
theorem gq_wE {rrA rrB rl rrA9 rrB9 rl9 : Nat} (hA : rrA ≤ rrA9) (hA1 : rrA % 17 = 0) (hA2 : rrA9 % 17 = 0) (hB : rrB ≤ rrB9) (hB1 : rrB % 17 = 0) (hB2 : rrB9 % 17 = 0) (hl : rl ≤ rl9) (hl1 : 1600 ≤ rl) : (63 + (rrA / 17) + (rrB / 17) + 10 + ((rl - 1600) / 4800)) + (((rl9 - rl) / 4800) + ((rrA9 - rrA) / 17) + ((rrB9 - rrB) / 17)) ≤ 63 + (rrA9 / 17) + (rrB9 / 17) + 10 + ((rl9 - 1600) / 4800) ∧ (584682 + (2 * rrA + 51000 * (rrA / 51000)) + (2 * rrB + 51000 * (rrB / 51000)) + 11814 + (2 * (rl - 1600))) + ((2 * (rl9 - rl)) + ((2 * rrA9 + 51000 * (rrA9 / 51000)) - (2 * rrA + 51000 * (rrA / 51000))) + ((2 * rrB9 + 51000 * (rrB9 / 51000)) - (2 * rrB + 51000 * (rrB / 51000)))) ≤ 584682 + (2 * rrA9 + 51000 * (rrA9 / 51000)) + (2 * rrB9 + 51000 * (rrB9 / 51000)) + 11814 + (2 * (rl9 - 1600)) := by
  have a1 := gq_d17 hA hA1 hA2
  have b1 := gq_d17 hB hB1 hB2
  have a2 := gq_dph hA
  have b2 := gq_dph hB
  have l1 := gq_drl hl hl1
  refine ⟨?_, ?_⟩
  · clear a2 b2
    have e1 := l1.1
    revert a1 b1 e1
    clear l1 hA hA1 hA2 hB hB1 hB2 hl hl1
    exact gq_s1
  · rw [← l1.2]
    exact gq_s3 a2 b2 rfl
theorem gq_wN {rrA rrB rrA9 rrB9 rl9 : Nat} (hA : rrA ≤ rrA9) (hA1 : rrA % 17 = 0) (hA2 : rrA9 % 17 = 0) (hB : rrB ≤ rrB9) (hB1 : rrB % 17 = 0) (hB2 : rrB9 % 17 = 0) : (63 + (rrA / 17) + (rrB / 17)) + (10 + ((rl9 - 1600) / 4800) + ((rrA9 - rrA) / 17) + ((rrB9 - rrB) / 17)) ≤ 63 + (rrA9 / 17) + (rrB9 / 17) + 10 + ((rl9 - 1600) / 4800) ∧ (584682 + (2 * rrA + 51000 * (rrA / 51000)) + (2 * rrB + 51000 * (rrB / 51000))) + (11814 + (2 * (rl9 - 1600)) + ((2 * rrA9 + 51000 * (rrA9 / 51000)) - (2 * rrA + 51000 * (rrA / 51000))) + ((2 * rrB9 + 51000 * (rrB9 / 51000)) - (2 * rrB + 51000 * (rrB / 51000)))) ≤ 584682 + (2 * rrA9 + 51000 * (rrA9 / 51000)) + (2 * rrB9 + 51000 * (rrB9 / 51000)) + 11814 + (2 * (rl9 - 1600)) := by
  have a1 := gq_d17 hA hA1 hA2
  have b1 := gq_d17 hB hB1 hB2
  have a2 := gq_dph hA
  have b2 := gq_dph hB
  refine ⟨?_, ?_⟩
  · clear a2 b2
    revert a1 b1
    clear hA hA1 hA2 hB hB1 hB2
    exact gq_s2
  · exact gq_s4 a2 b2
theorem gq_kN {rrA rrB : Nat} (hA : rrA ≤ 51000) (hB : rrB ≤ 51000) : 63 + (rrA / 17) + (rrB / 17) ≤ 20000 ∧ 584682 + (2 * rrA + 51000 * (rrA / 51000)) + (2 * rrB + 51000 * (rrB / 51000)) ≤ 2000000 := by
  have h := gq_k hA hB (show 1600 ≤ 102000 by decide)
  refine ⟨Nat.le_trans ?_ h.1, Nat.le_trans ?_ h.2⟩
  · exact Nat.le_trans (Nat.le_add_right _ 10) (Nat.le_add_right _ _)
  · exact Nat.le_trans (Nat.le_add_right _ 11814) (Nat.le_add_right _ _)
theorem gq_s5 {x p q r : Nat} : p + q ≤ r → (x + p) + q ≤ x + r := by omega
theorem gq_wR {rrA rrB rl rl9 : Nat} (hl : rl ≤ rl9) (hl1 : 1600 ≤ rl) : (63 + (rrA / 17) + (rrB / 17) + 10 + ((rl - 1600) / 4800)) + ((rl9 - rl) / 4800) ≤ 63 + (rrA / 17) + (rrB / 17) + 10 + ((rl9 - 1600) / 4800) ∧ (584682 + (2 * rrA + 51000 * (rrA / 51000)) + (2 * rrB + 51000 * (rrB / 51000)) + 11814 + (2 * (rl - 1600))) + (2 * (rl9 - rl)) ≤ 584682 + (2 * rrA + 51000 * (rrA / 51000)) + (2 * rrB + 51000 * (rrB / 51000)) + 11814 + (2 * (rl9 - 1600)) := by
  have l1 := gq_drl hl hl1
  exact ⟨gq_s5 l1.1, gq_s5 (Nat.le_of_eq l1.2)⟩
theorem gq_wS {rrA rrB rl9 : Nat} : (63 + (rrA / 17) + (rrB / 17)) + (10 + ((rl9 - 1600) / 4800)) ≤ 63 + (rrA / 17) + (rrB / 17) + 10 + ((rl9 - 1600) / 4800) ∧ (584682 + (2 * rrA + 51000 * (rrA / 51000)) + (2 * rrB + 51000 * (rrB / 51000))) + (11814 + (2 * (rl9 - 1600))) ≤ 584682 + (2 * rrA + 51000 * (rrA / 51000)) + (2 * rrB + 51000 * (rrB / 51000)) + 11814 + (2 * (rl9 - 1600)) := ⟨Nat.le_of_eq (Nat.add_assoc _ _ _).symm, Nat.le_of_eq (Nat.add_assoc _ _ _).symm⟩

def HallN (cI cB cZ : ClassId) (h0 : Nat) (w : va_W) (tz : Nat) (f : Nat → Int32) (fp : Int32) (ld : Int32) (nc : Nat) (L : Nat → Nat) (cf : Nat → Int32) (pf : Nat → Int32) (vst : Int32) (vk : Nat) (vm : Int32) (vd : Nat → Int32) (kc ns : Nat) : Prop := ∃ a : Nat, ∃ r0 : Nat, ∃ k4 : Nat, ∃ k5 : Nat, ∃ k6 : Nat, ∃ k7 : Nat, ∃ p0 : Nat, ∃ b1 : Nat, ∃ b2 : Nat, ∃ b3 : Nat, ∃ d0 : Nat, ∃ e1 : Nat, ∃ e2 : Nat, ∃ e3 : Nat, ∃ m0 : Nat, ∃ ms : Nat, ∃ mw : Nat, ∃ md : Nat, ∃ oA : Nat, ∃ oB : Nat, ∃ ra : Nat, ∃ a6 : Nat, ∃ cu : Nat, ∃ f0 : Nat, ∃ g1 : Nat, ∃ g2 : Nat, ∃ g3 : Nat, ∃ a3l : Nat, ∃ a5t : Nat, ∃ pv : Int32, ∃ fv : Int32, ∃ lp : Int32, ∃ t : Nat, ∃ tl : Int32, ∃ vr : Int32, ∃ vl : Int32, ∃ Kd : Nat → Nat, ∃ sf : Nat → Int32, ∃ nf : Nat → Int32, ∃ Tk : Nat → Nat, ∃ ncd : Nat, ∃ Ld : Nat → Nat, ∃ cfd : Nat → Int32, ∃ pfd : Nat → Int32, ∃ mf : Nat → Int32, ∃ flA : Int32, ∃ stA : Nat, ∃ sA : Nat, ∃ bA : Nat, ∃ rrA : Nat, ∃ recA : Nat → Int32, ∃ flB : Int32, ∃ stB : Nat, ∃ sB : Nat, ∃ bB : Nat, ∃ rrB : Nat, ∃ recB : Nat → Int32, ∃ ran : Int32, ∃ rr2 : Int32, ∃ rr3 : Int32, ∃ rr4 : Int32, ∃ rt : Nat, ∃ rpa : Nat → Int32, ∃ lz : Nat, ∃ can : Int32, ∃ cts : Int32, ∃ td : Nat → Int32, ∃ lk : Nat → Int32, ∃ fc : Int32, ∃ FL : Nat → Nat, ∃ fcf : Nat → Int32, ∃ fpf : Nat → Int32, (tz ≤ 4000) ∧ (gRdI Kd nf sf) ∧ (∀ j, j < 6 → Tk j ≤ 500) ∧ (nc ≤ 3 ∧ (∀ j, j < 3 → L j ≤ 6) ∧ gG L pf 5) ∧ (vk ≤ 38) ∧ (gMs vst pf cf vm vd L nc vk mf) ∧ (sA * 17 ≤ rrA) ∧ (17 ≤ rrA ∧ rrA % 17 = 0) ∧ (rrA ≤ 51000) ∧ (sB * 17 ≤ rrB) ∧ (17 ≤ rrB ∧ rrB % 17 = 0) ∧ (rrB ≤ 51000) ∧ (rt ≤ 38) ∧ (lz ≤ 3) ∧ kc = 63 + (rrA / 17) + (rrB / 17) ∧ ns = 584682 + (2 * rrA + 51000 * (rrA / 51000)) + (2 * rrB + 51000 * (rrB / 51000)) ∧ w = [(h0, .inr (8, [.ref a, .int (nI tz), .ref r0, .int fp, .int ld, .ref p0, .ref m0, .null, .ref oA, .ref oB, .ref ra, .ref cu])), (a, .inl (cB, 4000, .inl f)), (r0, .inr (6, [.ref d0, .int pv, .int fv, .int lp, .ref k4, .ref k5, .ref k6, .ref k7, .int (nI t), .int tl, .int vr, .int vl])), (k4, .inl (cI, 501, .inl (fun j => nI (Kd j)))), (k5, .inl (cI, 501, .inl sf)), (k6, .inl (cI, 501, .inl nf)), (k7, .inl (cI, 6, .inl (fun j => nI (Tk j)))), (p0, .inr (4, [.int (nI nc), .ref b1, .ref b2, .ref b3])), (b1, .inl (cI, 3, .inl (fun j => nI (L j)))), (b2, .inl (cI, 4, .inl cf)), (b3, .inl (cI, 192, .inl pf)), (d0, .inr (4, [.int (nI ncd), .ref e1, .ref e2, .ref e3])), (e1, .inl (cI, 3, .inl (fun j => nI (Ld j)))), (e2, .inl (cI, 4, .inl cfd)), (e3, .inl (cI, 192, .inl pfd)), (m0, .inr (3, [.ref ms, .int vst, .int (nI vk), .int vm, .ref md])), (ms, .inr (7, [.ref mw])), (mw, .inl (cI, 34, .inl mf)), (md, .inl (cI, 38, .inl vd)), (oA, .inr (2, [.int 0, .int flA, .int (nI stA), .int (nI sA), .ref bA])), (bA, .inl (cI, rrA, .inl recA)), (oB, .inr (2, [.int 0, .int flB, .int (nI stB), .int (nI sB), .ref bB])), (bB, .inl (cI, rrB, .inl recB)), (ra, .inr (5, [.int 0, .int ran, .int rr2, .int rr3, .int rr4, .int (nI rt), .ref a6])), (a6, .inl (cI, 38, .inl rpa)), (cu, .inr (0, [.ref f0, .int (nI lz), .int can, .ref a3l, .int cts, .ref a5t])), (a3l, .inl (cI, 2, .inl lk)), (a5t, .inl (cI, 2, .inl td)), (f0, .inr (4, [.int fc, .ref g1, .ref g2, .ref g3])), (g1, .inl (cI, 3, .inl (fun j => nI (FL j)))), (g2, .inl (cI, 4, .inl fcf)), (g3, .inl (cI, 192, .inl fpf))]
def HallE (cI cB cZ : ClassId) (h0 : Nat) (w : va_W) (tz : Nat) (f : Nat → Int32) (fp : Int32) (ld : Int32) (nc : Nat) (L : Nat → Nat) (cf : Nat → Int32) (pf : Nat → Int32) (vst : Int32) (vk : Nat) (vm : Int32) (vd : Nat → Int32) (kc ns : Nat) : Prop := ∃ a : Nat, ∃ r0 : Nat, ∃ k4 : Nat, ∃ k5 : Nat, ∃ k6 : Nat, ∃ k7 : Nat, ∃ p0 : Nat, ∃ b1 : Nat, ∃ b2 : Nat, ∃ b3 : Nat, ∃ d0 : Nat, ∃ e1 : Nat, ∃ e2 : Nat, ∃ e3 : Nat, ∃ m0 : Nat, ∃ ms : Nat, ∃ mw : Nat, ∃ md : Nat, ∃ oA : Nat, ∃ oB : Nat, ∃ ra : Nat, ∃ a6 : Nat, ∃ cu : Nat, ∃ f0 : Nat, ∃ g1 : Nat, ∃ g2 : Nat, ∃ g3 : Nat, ∃ a3l : Nat, ∃ a5t : Nat, ∃ pv : Int32, ∃ fv : Int32, ∃ lp : Int32, ∃ t : Nat, ∃ tl : Int32, ∃ vr : Int32, ∃ vl : Int32, ∃ Kd : Nat → Nat, ∃ sf : Nat → Int32, ∃ nf : Nat → Int32, ∃ Tk : Nat → Nat, ∃ ncd : Nat, ∃ Ld : Nat → Nat, ∃ cfd : Nat → Int32, ∃ pfd : Nat → Int32, ∃ mf : Nat → Int32, ∃ knA : Int32, ∃ flA : Int32, ∃ stA : Nat, ∃ sA : Nat, ∃ bA : Nat, ∃ rrA : Nat, ∃ recA : Nat → Int32, ∃ knB : Int32, ∃ flB : Int32, ∃ stB : Nat, ∃ sB : Nat, ∃ bB : Nat, ∃ rrB : Nat, ∃ recB : Nat → Int32, ∃ rkn : Int32, ∃ ran : Int32, ∃ rr2 : Int32, ∃ rr3 : Int32, ∃ rr4 : Int32, ∃ rt : Nat, ∃ rpa : Nat → Int32, ∃ lz : Nat, ∃ can : Int32, ∃ cts : Int32, ∃ td : Nat → Int32, ∃ lk : Nat → Int32, ∃ fc : Int32, ∃ FL : Nat → Nat, ∃ fcf : Nat → Int32, ∃ fpf : Nat → Int32, ∃ x0 : Nat, ∃ a2 : Nat, ∃ s4 : Nat, ∃ w4 : Nat, ∃ s5 : Nat, ∃ w5 : Nat, ∃ a8 : Nat, ∃ a9 : Nat, ∃ a3 : Nat, ∃ i0 : Int32, ∃ i1 : Int32, ∃ i6 : Int32, ∃ a7 : Nat, ∃ rl : Nat, ∃ rf : Nat → Int32, ∃ f4 : Nat → Int32, ∃ f5 : Nat → Int32, ∃ ef : Nat → Int32, ∃ sl : Nat → Int32, ∃ cm : Nat → Int32, ∃ pp : Nat → Int32, (tz ≤ 4000) ∧ (gRdI Kd nf sf) ∧ (∀ j, j < 6 → Tk j ≤ 500) ∧ (nc ≤ 3 ∧ (∀ j, j < 3 → L j ≤ 6) ∧ gG L pf 5) ∧ (vk ≤ 38) ∧ (gMs vst pf cf vm vd L nc vk mf) ∧ (sA * 17 ≤ rrA) ∧ (17 ≤ rrA ∧ rrA % 17 = 0) ∧ (rrA ≤ 51000) ∧ (sB * 17 ≤ rrB) ∧ (17 ≤ rrB ∧ rrB % 17 = 0) ∧ (rrB ≤ 51000) ∧ (rt ≤ 38) ∧ (lz ≤ 3) ∧ (gRl rl) ∧ (1600 ≤ rl ∧ rl ≤ 102000) ∧ kc = 63 + (rrA / 17) + (rrB / 17) + 10 + ((rl - 1600) / 4800) ∧ ns = 584682 + (2 * rrA + 51000 * (rrA / 51000)) + (2 * rrB + 51000 * (rrB / 51000)) + 11814 + (2 * (rl - 1600)) ∧ w = [(h0, .inr (8, [.ref a, .int (nI tz), .ref r0, .int fp, .int ld, .ref p0, .ref m0, .ref x0, .ref oA, .ref oB, .ref ra, .ref cu])), (a, .inl (cB, 4000, .inl f)), (r0, .inr (6, [.ref d0, .int pv, .int fv, .int lp, .ref k4, .ref k5, .ref k6, .ref k7, .int (nI t), .int tl, .int vr, .int vl])), (k4, .inl (cI, 501, .inl (fun j => nI (Kd j)))), (k5, .inl (cI, 501, .inl sf)), (k6, .inl (cI, 501, .inl nf)), (k7, .inl (cI, 6, .inl (fun j => nI (Tk j)))), (p0, .inr (4, [.int (nI nc), .ref b1, .ref b2, .ref b3])), (b1, .inl (cI, 3, .inl (fun j => nI (L j)))), (b2, .inl (cI, 4, .inl cf)), (b3, .inl (cI, 192, .inl pf)), (d0, .inr (4, [.int (nI ncd), .ref e1, .ref e2, .ref e3])), (e1, .inl (cI, 3, .inl (fun j => nI (Ld j)))), (e2, .inl (cI, 4, .inl cfd)), (e3, .inl (cI, 192, .inl pfd)), (m0, .inr (3, [.ref ms, .int vst, .int (nI vk), .int vm, .ref md])), (ms, .inr (7, [.ref mw])), (mw, .inl (cI, 34, .inl mf)), (md, .inl (cI, 38, .inl vd)), (oA, .inr (2, [.int knA, .int flA, .int (nI stA), .int (nI sA), .ref bA])), (bA, .inl (cI, rrA, .inl recA)), (oB, .inr (2, [.int knB, .int flB, .int (nI stB), .int (nI sB), .ref bB])), (bB, .inl (cI, rrB, .inl recB)), (ra, .inr (5, [.int rkn, .int ran, .int rr2, .int rr3, .int rr4, .int (nI rt), .ref a6])), (a6, .inl (cI, 38, .inl rpa)), (cu, .inr (0, [.ref f0, .int (nI lz), .int can, .ref a3l, .int cts, .ref a5t])), (a3l, .inl (cI, 2, .inl lk)), (a5t, .inl (cI, 2, .inl td)), (f0, .inr (4, [.int fc, .ref g1, .ref g2, .ref g3])), (g1, .inl (cI, 3, .inl (fun j => nI (FL j)))), (g2, .inl (cI, 4, .inl fcf)), (g3, .inl (cI, 192, .inl fpf)), (x0, .inr (1, [.int i0, .int i1, .ref a2, .ref a3, .ref s4, .ref s5, .int i6, .ref a7, .ref a8, .ref a9])), (s4, .inr (7, [.ref w4])), (w4, .inl (cI, 34, .inl f4)), (s5, .inr (7, [.ref w5])), (w5, .inl (cI, 34, .inl f5)), (a2, .inl (cI, 3000, .inl ef)), (a7, .inl (cI, rl, .inl rf)), (a8, .inl (cI, 4096, .inl sl)), (a9, .inl (cI, 3000, .inl cm)), (a3, .inl (cI, 38, .inl pp))]
theorem HallN_mk (cI cB cZ : ClassId) (h0 : Nat) (tz : Nat) (f : Nat → Int32) (fp : Int32) (ld : Int32) (nc : Nat) (L : Nat → Nat) (cf : Nat → Int32) (pf : Nat → Int32) (vst : Int32) (vk : Nat) (vm : Int32) (vd : Nat → Int32) (a : Nat) (r0 : Nat) (k4 : Nat) (k5 : Nat) (k6 : Nat) (k7 : Nat) (p0 : Nat) (b1 : Nat) (b2 : Nat) (b3 : Nat) (d0 : Nat) (e1 : Nat) (e2 : Nat) (e3 : Nat) (m0 : Nat) (ms : Nat) (mw : Nat) (md : Nat) (oA : Nat) (oB : Nat) (ra : Nat) (a6 : Nat) (cu : Nat) (f0 : Nat) (g1 : Nat) (g2 : Nat) (g3 : Nat) (a3l : Nat) (a5t : Nat) (pv : Int32) (fv : Int32) (lp : Int32) (t : Nat) (tl : Int32) (vr : Int32) (vl : Int32) (Kd : Nat → Nat) (sf : Nat → Int32) (nf : Nat → Int32) (Tk : Nat → Nat) (ncd : Nat) (Ld : Nat → Nat) (cfd : Nat → Int32) (pfd : Nat → Int32) (mf : Nat → Int32) (flA : Int32) (stA : Nat) (sA : Nat) (bA : Nat) (rrA : Nat) (recA : Nat → Int32) (flB : Int32) (stB : Nat) (sB : Nat) (bB : Nat) (rrB : Nat) (recB : Nat → Int32) (ran : Int32) (rr2 : Int32) (rr3 : Int32) (rr4 : Int32) (rt : Nat) (rpa : Nat → Int32) (lz : Nat) (can : Int32) (cts : Int32) (td : Nat → Int32) (lk : Nat → Int32) (fc : Int32) (FL : Nat → Nat) (fcf : Nat → Int32) (fpf : Nat → Int32) (htz : tz ≤ 4000) (hR : gRdI Kd nf sf) (hTk : ∀ j, j < 6 → Tk j ≤ 500) (hgo : nc ≤ 3 ∧ (∀ j, j < 3 → L j ≤ 6) ∧ gG L pf 5) (hmk : vk ≤ 38) (hM : gMs vst pf cf vm vd L nc vk mf) (hsA : sA * 17 ≤ rrA) (hrA : 17 ≤ rrA ∧ rrA % 17 = 0) (hmA : rrA ≤ 51000) (hsB : sB * 17 ≤ rrB) (hrB : 17 ≤ rrB ∧ rrB % 17 = 0) (hmB : rrB ≤ 51000) (hrt : rt ≤ 38) (hlz : lz ≤ 3) : HallN cI cB cZ h0 [(h0, .inr (8, [.ref a, .int (nI tz), .ref r0, .int fp, .int ld, .ref p0, .ref m0, .null, .ref oA, .ref oB, .ref ra, .ref cu])), (a, .inl (cB, 4000, .inl f)), (r0, .inr (6, [.ref d0, .int pv, .int fv, .int lp, .ref k4, .ref k5, .ref k6, .ref k7, .int (nI t), .int tl, .int vr, .int vl])), (k4, .inl (cI, 501, .inl (fun j => nI (Kd j)))), (k5, .inl (cI, 501, .inl sf)), (k6, .inl (cI, 501, .inl nf)), (k7, .inl (cI, 6, .inl (fun j => nI (Tk j)))), (p0, .inr (4, [.int (nI nc), .ref b1, .ref b2, .ref b3])), (b1, .inl (cI, 3, .inl (fun j => nI (L j)))), (b2, .inl (cI, 4, .inl cf)), (b3, .inl (cI, 192, .inl pf)), (d0, .inr (4, [.int (nI ncd), .ref e1, .ref e2, .ref e3])), (e1, .inl (cI, 3, .inl (fun j => nI (Ld j)))), (e2, .inl (cI, 4, .inl cfd)), (e3, .inl (cI, 192, .inl pfd)), (m0, .inr (3, [.ref ms, .int vst, .int (nI vk), .int vm, .ref md])), (ms, .inr (7, [.ref mw])), (mw, .inl (cI, 34, .inl mf)), (md, .inl (cI, 38, .inl vd)), (oA, .inr (2, [.int 0, .int flA, .int (nI stA), .int (nI sA), .ref bA])), (bA, .inl (cI, rrA, .inl recA)), (oB, .inr (2, [.int 0, .int flB, .int (nI stB), .int (nI sB), .ref bB])), (bB, .inl (cI, rrB, .inl recB)), (ra, .inr (5, [.int 0, .int ran, .int rr2, .int rr3, .int rr4, .int (nI rt), .ref a6])), (a6, .inl (cI, 38, .inl rpa)), (cu, .inr (0, [.ref f0, .int (nI lz), .int can, .ref a3l, .int cts, .ref a5t])), (a3l, .inl (cI, 2, .inl lk)), (a5t, .inl (cI, 2, .inl td)), (f0, .inr (4, [.int fc, .ref g1, .ref g2, .ref g3])), (g1, .inl (cI, 3, .inl (fun j => nI (FL j)))), (g2, .inl (cI, 4, .inl fcf)), (g3, .inl (cI, 192, .inl fpf))] tz f fp ld nc L cf pf vst vk vm vd (63 + (rrA / 17) + (rrB / 17)) (584682 + (2 * rrA + 51000 * (rrA / 51000)) + (2 * rrB + 51000 * (rrB / 51000))) := by
  unfold HallN
  exact ⟨a, r0, k4, k5, k6, k7, p0, b1, b2, b3, d0, e1, e2, e3, m0, ms, mw, md, oA, oB, ra, a6, cu, f0, g1, g2, g3, a3l, a5t, pv, fv, lp, t, tl, vr, vl, Kd, sf, nf, Tk, ncd, Ld, cfd, pfd, mf, flA, stA, sA, bA, rrA, recA, flB, stB, sB, bB, rrB, recB, ran, rr2, rr3, rr4, rt, rpa, lz, can, cts, td, lk, fc, FL, fcf, fpf, htz, hR, hTk, hgo, hmk, hM, hsA, hrA, hmA, hsB, hrB, hmB, hrt, hlz, rfl, rfl, rfl⟩
theorem HallE_mk (cI cB cZ : ClassId) (h0 : Nat) (tz : Nat) (f : Nat → Int32) (fp : Int32) (ld : Int32) (nc : Nat) (L : Nat → Nat) (cf : Nat → Int32) (pf : Nat → Int32) (vst : Int32) (vk : Nat) (vm : Int32) (vd : Nat → Int32) (a : Nat) (r0 : Nat) (k4 : Nat) (k5 : Nat) (k6 : Nat) (k7 : Nat) (p0 : Nat) (b1 : Nat) (b2 : Nat) (b3 : Nat) (d0 : Nat) (e1 : Nat) (e2 : Nat) (e3 : Nat) (m0 : Nat) (ms : Nat) (mw : Nat) (md : Nat) (oA : Nat) (oB : Nat) (ra : Nat) (a6 : Nat) (cu : Nat) (f0 : Nat) (g1 : Nat) (g2 : Nat) (g3 : Nat) (a3l : Nat) (a5t : Nat) (pv : Int32) (fv : Int32) (lp : Int32) (t : Nat) (tl : Int32) (vr : Int32) (vl : Int32) (Kd : Nat → Nat) (sf : Nat → Int32) (nf : Nat → Int32) (Tk : Nat → Nat) (ncd : Nat) (Ld : Nat → Nat) (cfd : Nat → Int32) (pfd : Nat → Int32) (mf : Nat → Int32) (knA : Int32) (flA : Int32) (stA : Nat) (sA : Nat) (bA : Nat) (rrA : Nat) (recA : Nat → Int32) (knB : Int32) (flB : Int32) (stB : Nat) (sB : Nat) (bB : Nat) (rrB : Nat) (recB : Nat → Int32) (rkn : Int32) (ran : Int32) (rr2 : Int32) (rr3 : Int32) (rr4 : Int32) (rt : Nat) (rpa : Nat → Int32) (lz : Nat) (can : Int32) (cts : Int32) (td : Nat → Int32) (lk : Nat → Int32) (fc : Int32) (FL : Nat → Nat) (fcf : Nat → Int32) (fpf : Nat → Int32) (x0 : Nat) (a2 : Nat) (s4 : Nat) (w4 : Nat) (s5 : Nat) (w5 : Nat) (a8 : Nat) (a9 : Nat) (a3 : Nat) (i0 : Int32) (i1 : Int32) (i6 : Int32) (a7 : Nat) (rl : Nat) (rf : Nat → Int32) (f4 : Nat → Int32) (f5 : Nat → Int32) (ef : Nat → Int32) (sl : Nat → Int32) (cm : Nat → Int32) (pp : Nat → Int32) (htz : tz ≤ 4000) (hR : gRdI Kd nf sf) (hTk : ∀ j, j < 6 → Tk j ≤ 500) (hgo : nc ≤ 3 ∧ (∀ j, j < 3 → L j ≤ 6) ∧ gG L pf 5) (hmk : vk ≤ 38) (hM : gMs vst pf cf vm vd L nc vk mf) (hsA : sA * 17 ≤ rrA) (hrA : 17 ≤ rrA ∧ rrA % 17 = 0) (hmA : rrA ≤ 51000) (hsB : sB * 17 ≤ rrB) (hrB : 17 ≤ rrB ∧ rrB % 17 = 0) (hmB : rrB ≤ 51000) (hrt : rt ≤ 38) (hlz : lz ≤ 3) (hrl : gRl rl) (hrm : 1600 ≤ rl ∧ rl ≤ 102000) : HallE cI cB cZ h0 [(h0, .inr (8, [.ref a, .int (nI tz), .ref r0, .int fp, .int ld, .ref p0, .ref m0, .ref x0, .ref oA, .ref oB, .ref ra, .ref cu])), (a, .inl (cB, 4000, .inl f)), (r0, .inr (6, [.ref d0, .int pv, .int fv, .int lp, .ref k4, .ref k5, .ref k6, .ref k7, .int (nI t), .int tl, .int vr, .int vl])), (k4, .inl (cI, 501, .inl (fun j => nI (Kd j)))), (k5, .inl (cI, 501, .inl sf)), (k6, .inl (cI, 501, .inl nf)), (k7, .inl (cI, 6, .inl (fun j => nI (Tk j)))), (p0, .inr (4, [.int (nI nc), .ref b1, .ref b2, .ref b3])), (b1, .inl (cI, 3, .inl (fun j => nI (L j)))), (b2, .inl (cI, 4, .inl cf)), (b3, .inl (cI, 192, .inl pf)), (d0, .inr (4, [.int (nI ncd), .ref e1, .ref e2, .ref e3])), (e1, .inl (cI, 3, .inl (fun j => nI (Ld j)))), (e2, .inl (cI, 4, .inl cfd)), (e3, .inl (cI, 192, .inl pfd)), (m0, .inr (3, [.ref ms, .int vst, .int (nI vk), .int vm, .ref md])), (ms, .inr (7, [.ref mw])), (mw, .inl (cI, 34, .inl mf)), (md, .inl (cI, 38, .inl vd)), (oA, .inr (2, [.int knA, .int flA, .int (nI stA), .int (nI sA), .ref bA])), (bA, .inl (cI, rrA, .inl recA)), (oB, .inr (2, [.int knB, .int flB, .int (nI stB), .int (nI sB), .ref bB])), (bB, .inl (cI, rrB, .inl recB)), (ra, .inr (5, [.int rkn, .int ran, .int rr2, .int rr3, .int rr4, .int (nI rt), .ref a6])), (a6, .inl (cI, 38, .inl rpa)), (cu, .inr (0, [.ref f0, .int (nI lz), .int can, .ref a3l, .int cts, .ref a5t])), (a3l, .inl (cI, 2, .inl lk)), (a5t, .inl (cI, 2, .inl td)), (f0, .inr (4, [.int fc, .ref g1, .ref g2, .ref g3])), (g1, .inl (cI, 3, .inl (fun j => nI (FL j)))), (g2, .inl (cI, 4, .inl fcf)), (g3, .inl (cI, 192, .inl fpf)), (x0, .inr (1, [.int i0, .int i1, .ref a2, .ref a3, .ref s4, .ref s5, .int i6, .ref a7, .ref a8, .ref a9])), (s4, .inr (7, [.ref w4])), (w4, .inl (cI, 34, .inl f4)), (s5, .inr (7, [.ref w5])), (w5, .inl (cI, 34, .inl f5)), (a2, .inl (cI, 3000, .inl ef)), (a7, .inl (cI, rl, .inl rf)), (a8, .inl (cI, 4096, .inl sl)), (a9, .inl (cI, 3000, .inl cm)), (a3, .inl (cI, 38, .inl pp))] tz f fp ld nc L cf pf vst vk vm vd (63 + (rrA / 17) + (rrB / 17) + 10 + ((rl - 1600) / 4800)) (584682 + (2 * rrA + 51000 * (rrA / 51000)) + (2 * rrB + 51000 * (rrB / 51000)) + 11814 + (2 * (rl - 1600))) := by
  unfold HallE
  exact ⟨a, r0, k4, k5, k6, k7, p0, b1, b2, b3, d0, e1, e2, e3, m0, ms, mw, md, oA, oB, ra, a6, cu, f0, g1, g2, g3, a3l, a5t, pv, fv, lp, t, tl, vr, vl, Kd, sf, nf, Tk, ncd, Ld, cfd, pfd, mf, knA, flA, stA, sA, bA, rrA, recA, knB, flB, stB, sB, bB, rrB, recB, rkn, ran, rr2, rr3, rr4, rt, rpa, lz, can, cts, td, lk, fc, FL, fcf, fpf, x0, a2, s4, w4, s5, w5, a8, a9, a3, i0, i1, i6, a7, rl, rf, f4, f5, ef, sl, cm, pp, htz, hR, hTk, hgo, hmk, hM, hsA, hrA, hmA, hsB, hrB, hmB, hrt, hlz, hrl, hrm, rfl, rfl, rfl⟩
def HallI (cI cB cZ : ClassId) (h0 : Nat) (w : va_W) (tz : Nat) (f : Nat → Int32) (fp : Int32) (ld : Int32) (nc : Nat) (L : Nat → Nat) (cf : Nat → Int32) (pf : Nat → Int32) (vst : Int32) (vk : Nat) (vm : Int32) (vd : Nat → Int32) (kc ns : Nat) : Prop := HallN cI cB cZ h0 w tz f fp ld nc L cf pf vst vk vm vd kc ns ∨ HallE cI cB cZ h0 w tz f fp ld nc L cf pf vst vk vm vd kc ns
def ModelI (cI cB cZ : ClassId) (h0 : Nat) (w : va_W) (tz : Nat) (f : Nat → Int32) (fp : Int32) (ld : Int32) (nc : Nat) (L : Nat → Nat) (cf : Nat → Int32) (pf : Nat → Int32) (vst : Int32) (vk : Nat) (vm : Int32) (vd : Nat → Int32) : Prop := ∃ a0 : Nat, ∃ a1 : Nat, ∃ a2 : Nat, ∃ a3 : Nat, ∃ a4 : Nat, ∃ a5 : Nat, ∃ a6 : Nat, ∃ a7 : Nat, ∃ a8 : Nat, ∃ a9 : Nat, ∃ a10 : Nat, ∃ a12 : Nat, ∃ a13 : Nat, ∃ a14 : Nat, ∃ a15 : Nat, ∃ a16 : Nat, ∃ a17 : Nat, ∃ a18 : Nat, ∃ a19 : Nat, ∃ a20 : Nat, ∃ a21 : Nat, ∃ a22 : Nat, ∃ a23 : Nat, ∃ a24 : Nat, ∃ a27 : Nat, ∃ a40 : Nat, ∃ a45 : Nat, ∃ a48 : Nat, ∃ a49 : Nat, ∃ a51 : Nat, ∃ C : Nat → Nat, ∃ Mn : Nat → Nat, ∃ kd : Nat → Int32, ∃ cl : Nat → Int32, ∃ rg : Nat → Int32, ∃ uv1 : Nat → Int32, ∃ ui1 : Nat → Int32, ∃ uv2 : Nat → Int32, ∃ ui2 : Nat → Int32, ∃ sk : Nat → Int32, ∃ ci : Nat → Int32, ∃ sf : Nat → Int32, ∃ fr : Nat → Int32, ∃ bf : Nat → Int32, ∃ nf : Nat → Int32, ∃ hf : Nat → Int32, ∃ S : Nat → Nat, ∃ ff : Nat → Int32, ∃ df : Nat → Int32, ∃ en : Nat → Int32, ∃ E : Nat → Nat, ∃ nw : Nat → Int32, ∃ mf : Nat → Int32, ∃ hh : Nat → Int32, ∃ sp : Nat → Int32, ∃ rt : Nat → Int32, ∃ cu : Nat → Int32, ∃ spt : Nat → Int32, ∃ mv : Nat → Nat, ∃ dn : Nat, ∃ mo : Int32, ∃ fk : Int32, ∃ so : Int32, ∃ bg : Nat, ∃ ten : Nat, ∃ wd : Int64, ∃ tk : Nat, ∃ sd : Int32, ∃ nb : Int32, ∃ np : Int32, ∃ pli : Int32, ∃ rc : Int32, ∃ rR : Int32, ∃ rW : Int32, ∃ rX : Int32, ∃ rs : Nat, ∃ cm : Int32, ∃ sno : Nat, (tz ≤ 4000) ∧ (gB9 C Mn kd cl rg uv1 uv2 sk) ∧ (mo = (-1) ∨ (¬ mo < 0 ∧ gMh kd Mn mo dn mf hh)) ∧ (∀ t, t < 2 → gA9 t df S E fr en) ∧ (rs ≤ 63) ∧ (gF3 cm) ∧ (rMP ld C Mn kd cl rg uv1 ui1 uv2 ui2 sk ci nc L cf pf) ∧ (rMH vst vk vm vd pf cf nc ld mo dn mf hh) ∧ w = [(h0, .inr (9, [.ref a0, .ref a1, .ref a2, .ref a3, .ref a4, .ref a5, .ref a6, .ref a7, .ref a8, .ref a9, .ref a10, .int ld, .ref a12, .ref a13, .ref a14, .ref a15, .ref a16, .ref a17, .ref a18, .ref a19, .ref a20, .ref a21, .ref a22, .ref a23, .ref a24, .int (nI dn), .int mo, .ref a27, .int (nI tz), .int fk, .int fp, .int so, .int (nI bg), .int (nI ten), .long wd, .int (nI tk), .int sd, .int nb, .int np, .int pli, .ref a40, .int rc, .int rR, .int rW, .int rX, .ref a45, .int (nI rs), .int cm, .ref a48, .ref a49, .int (nI sno), .ref a51])), (a0, .inl (cI, 3, .inl (fun j => nI (C j)))), (a1, .inl (cI, 9, .inl (fun j => nI (Mn j)))), (a2, .inl (cI, 108, .inl kd)), (a3, .inl (cI, 108, .inl cl)), (a4, .inl (cI, 108, .inl rg)), (a5, .inl (cI, 108, .inl uv1)), (a6, .inl (cI, 108, .inl ui1)), (a7, .inl (cI, 108, .inl uv2)), (a8, .inl (cI, 108, .inl ui2)), (a9, .inl (cI, 108, .inl sk)), (a10, .inl (cI, 12, .inl ci)), (a12, .inl (cI, 522000, .inl sf)), (a13, .inl (cI, 9000, .inl fr)), (a14, .inl (cI, 9000, .inl bf)), (a15, .inl (cI, 9000, .inl nf)), (a16, .inl (cI, 12288, .inl hf)), (a17, .inl (cI, 3, .inl (fun j => nI (S j)))), (a18, .inl (cZ, 3, .inl ff)), (a19, .inl (cZ, 3, .inl df)), (a20, .inl (cI, 9000, .inl en)), (a21, .inl (cI, 3, .inl (fun j => nI (E j)))), (a22, .inl (cI, 58, .inl nw)), (a23, .inl (cI, 58, .inl mf)), (a24, .inl (cI, 2900, .inl hh)), (a27, .inl (cB, 4000, .inl f)), (a40, .inl (cI, 12, .inl sp)), (a45, .inl (cI, 64, .inl rt)), (a48, .inl (cI, 2, .inl cu)), (a49, .inl (cI, 16, .inl spt)), (a51, .inl (cI, 13, .inl (fun j => nI (mv j))))]
theorem ModelI_mk (cI cB cZ : ClassId) (h0 : Nat) (tz : Nat) (f : Nat → Int32) (fp : Int32) (ld : Int32) (nc : Nat) (L : Nat → Nat) (cf : Nat → Int32) (pf : Nat → Int32) (vst : Int32) (vk : Nat) (vm : Int32) (vd : Nat → Int32) (a0 : Nat) (a1 : Nat) (a2 : Nat) (a3 : Nat) (a4 : Nat) (a5 : Nat) (a6 : Nat) (a7 : Nat) (a8 : Nat) (a9 : Nat) (a10 : Nat) (a12 : Nat) (a13 : Nat) (a14 : Nat) (a15 : Nat) (a16 : Nat) (a17 : Nat) (a18 : Nat) (a19 : Nat) (a20 : Nat) (a21 : Nat) (a22 : Nat) (a23 : Nat) (a24 : Nat) (a27 : Nat) (a40 : Nat) (a45 : Nat) (a48 : Nat) (a49 : Nat) (a51 : Nat) (C : Nat → Nat) (Mn : Nat → Nat) (kd : Nat → Int32) (cl : Nat → Int32) (rg : Nat → Int32) (uv1 : Nat → Int32) (ui1 : Nat → Int32) (uv2 : Nat → Int32) (ui2 : Nat → Int32) (sk : Nat → Int32) (ci : Nat → Int32) (sf : Nat → Int32) (fr : Nat → Int32) (bf : Nat → Int32) (nf : Nat → Int32) (hf : Nat → Int32) (S : Nat → Nat) (ff : Nat → Int32) (df : Nat → Int32) (en : Nat → Int32) (E : Nat → Nat) (nw : Nat → Int32) (mf : Nat → Int32) (hh : Nat → Int32) (sp : Nat → Int32) (rt : Nat → Int32) (cu : Nat → Int32) (spt : Nat → Int32) (mv : Nat → Nat) (dn : Nat) (mo : Int32) (fk : Int32) (so : Int32) (bg : Nat) (ten : Nat) (wd : Int64) (tk : Nat) (sd : Int32) (nb : Int32) (np : Int32) (pli : Int32) (rc : Int32) (rR : Int32) (rW : Int32) (rX : Int32) (rs : Nat) (cm : Int32) (sno : Nat) (htp : tz ≤ 4000) (hB : gB9 C Mn kd cl rg uv1 uv2 sk) (hMo : mo = (-1) ∨ (¬ mo < 0 ∧ gMh kd Mn mo dn mf hh)) (hAn : ∀ t, t < 2 → gA9 t df S E fr en) (hrs : rs ≤ 63) (hcm : gF3 cm) (hMP : rMP ld C Mn kd cl rg uv1 ui1 uv2 ui2 sk ci nc L cf pf) (hMH : rMH vst vk vm vd pf cf nc ld mo dn mf hh) : ModelI cI cB cZ h0 [(h0, .inr (9, [.ref a0, .ref a1, .ref a2, .ref a3, .ref a4, .ref a5, .ref a6, .ref a7, .ref a8, .ref a9, .ref a10, .int ld, .ref a12, .ref a13, .ref a14, .ref a15, .ref a16, .ref a17, .ref a18, .ref a19, .ref a20, .ref a21, .ref a22, .ref a23, .ref a24, .int (nI dn), .int mo, .ref a27, .int (nI tz), .int fk, .int fp, .int so, .int (nI bg), .int (nI ten), .long wd, .int (nI tk), .int sd, .int nb, .int np, .int pli, .ref a40, .int rc, .int rR, .int rW, .int rX, .ref a45, .int (nI rs), .int cm, .ref a48, .ref a49, .int (nI sno), .ref a51])), (a0, .inl (cI, 3, .inl (fun j => nI (C j)))), (a1, .inl (cI, 9, .inl (fun j => nI (Mn j)))), (a2, .inl (cI, 108, .inl kd)), (a3, .inl (cI, 108, .inl cl)), (a4, .inl (cI, 108, .inl rg)), (a5, .inl (cI, 108, .inl uv1)), (a6, .inl (cI, 108, .inl ui1)), (a7, .inl (cI, 108, .inl uv2)), (a8, .inl (cI, 108, .inl ui2)), (a9, .inl (cI, 108, .inl sk)), (a10, .inl (cI, 12, .inl ci)), (a12, .inl (cI, 522000, .inl sf)), (a13, .inl (cI, 9000, .inl fr)), (a14, .inl (cI, 9000, .inl bf)), (a15, .inl (cI, 9000, .inl nf)), (a16, .inl (cI, 12288, .inl hf)), (a17, .inl (cI, 3, .inl (fun j => nI (S j)))), (a18, .inl (cZ, 3, .inl ff)), (a19, .inl (cZ, 3, .inl df)), (a20, .inl (cI, 9000, .inl en)), (a21, .inl (cI, 3, .inl (fun j => nI (E j)))), (a22, .inl (cI, 58, .inl nw)), (a23, .inl (cI, 58, .inl mf)), (a24, .inl (cI, 2900, .inl hh)), (a27, .inl (cB, 4000, .inl f)), (a40, .inl (cI, 12, .inl sp)), (a45, .inl (cI, 64, .inl rt)), (a48, .inl (cI, 2, .inl cu)), (a49, .inl (cI, 16, .inl spt)), (a51, .inl (cI, 13, .inl (fun j => nI (mv j))))] tz f fp ld nc L cf pf vst vk vm vd := by
  unfold ModelI
  exact ⟨a0, a1, a2, a3, a4, a5, a6, a7, a8, a9, a10, a12, a13, a14, a15, a16, a17, a18, a19, a20, a21, a22, a23, a24, a27, a40, a45, a48, a49, a51, C, Mn, kd, cl, rg, uv1, ui1, uv2, ui2, sk, ci, sf, fr, bf, nf, hf, S, ff, df, en, E, nw, mf, hh, sp, rt, cu, spt, mv, dn, mo, fk, so, bg, ten, wd, tk, sd, nb, np, pli, rc, rR, rW, rX, rs, cm, sno, htp, hB, hMo, hAn, hrs, hcm, hMP, hMH, rfl⟩
def gL (p : Program) (s : State) (m : MethodId) (c : Code) (b : Nat) (A : Nat → Prop) (D : va_G) (cI cB cZ : ClassId) (K : gKS) : Prop := p.tables.exec = Jvm.exec ∧ c.code = cL_law ∧ c.maxLocals = 4 ∧ s.vm.findClass RL = some m.cls ∧ (∀ w ∈ lw_tbl, w.before #[Value.ref b] s = true) ∧ (∀ q, s.heap.size ≤ q → A q) ∧ va_K D vwCl (gTy cI cB cZ) s ∧ gN [(RX1, 20, yX7_init, "LitmusHall"), (RX8, 231, yX1_init, "LitmusHall"), (RX3, 11, yX7_init, "LitmusHall"), (RX6, 11, yX4_init, "LitmusHall"), (RX0, 11, yX4_init, "LitmusHall"), (RX8, 15, yX6_init, "LitmusHall"), (RX8, 26, yX4_init, "LitmusHall"), (RX8, 33, yX3_init, "LitmusHall"), (RX8, 40, yX2_init, "LitmusHall"), (RX8, 50, yX5_init, "LitmusHall"), (RX8, 57, yX0_init, "LitmusHall")] s ∧ gSE K A s s.heap
theorem Hall_le {cI cB cZ : ClassId} {h0 tz kc ns : Nat} {f : Nat → Int32} {fp ld : Int32} {nc : Nat} {L : Nat → Nat} {cf : Nat → Int32} {pf : Nat → Int32} {vst : Int32} {vk : Nat} {vm : Int32} {vd : Nat → Int32} {w : va_W} (h : HallI cI cB cZ h0 w tz f fp ld nc L cf pf vst vk vm vd kc ns) : kc ≤ 20000 ∧ ns ≤ 2000000 ∧ tz ≤ 4000 := by
  rcases h with h | h
  · unfold HallN at h
    obtain ⟨a, h⟩ := h
    obtain ⟨r0, h⟩ := h
    obtain ⟨k4, h⟩ := h
    obtain ⟨k5, h⟩ := h
    obtain ⟨k6, h⟩ := h
    obtain ⟨k7, h⟩ := h
    obtain ⟨p0, h⟩ := h
    obtain ⟨b1, h⟩ := h
    obtain ⟨b2, h⟩ := h
    obtain ⟨b3, h⟩ := h
    obtain ⟨d0, h⟩ := h
    obtain ⟨e1, h⟩ := h
    obtain ⟨e2, h⟩ := h
    obtain ⟨e3, h⟩ := h
    obtain ⟨m0, h⟩ := h
    obtain ⟨ms, h⟩ := h
    obtain ⟨mw, h⟩ := h
    obtain ⟨md, h⟩ := h
    obtain ⟨oA, h⟩ := h
    obtain ⟨oB, h⟩ := h
    obtain ⟨ra, h⟩ := h
    obtain ⟨a6, h⟩ := h
    obtain ⟨cu, h⟩ := h
    obtain ⟨f0, h⟩ := h
    obtain ⟨g1, h⟩ := h
    obtain ⟨g2, h⟩ := h
    obtain ⟨g3, h⟩ := h
    obtain ⟨a3l, h⟩ := h
    obtain ⟨a5t, h⟩ := h
    obtain ⟨pv, h⟩ := h
    obtain ⟨fv, h⟩ := h
    obtain ⟨lp, h⟩ := h
    obtain ⟨t, h⟩ := h
    obtain ⟨tl, h⟩ := h
    obtain ⟨vr, h⟩ := h
    obtain ⟨vl, h⟩ := h
    obtain ⟨Kd, h⟩ := h
    obtain ⟨sf, h⟩ := h
    obtain ⟨nf, h⟩ := h
    obtain ⟨Tk, h⟩ := h
    obtain ⟨ncd, h⟩ := h
    obtain ⟨Ld, h⟩ := h
    obtain ⟨cfd, h⟩ := h
    obtain ⟨pfd, h⟩ := h
    obtain ⟨mf, h⟩ := h
    obtain ⟨flA, h⟩ := h
    obtain ⟨stA, h⟩ := h
    obtain ⟨sA, h⟩ := h
    obtain ⟨bA, h⟩ := h
    obtain ⟨rrA, h⟩ := h
    obtain ⟨recA, h⟩ := h
    obtain ⟨flB, h⟩ := h
    obtain ⟨stB, h⟩ := h
    obtain ⟨sB, h⟩ := h
    obtain ⟨bB, h⟩ := h
    obtain ⟨rrB, h⟩ := h
    obtain ⟨recB, h⟩ := h
    obtain ⟨ran, h⟩ := h
    obtain ⟨rr2, h⟩ := h
    obtain ⟨rr3, h⟩ := h
    obtain ⟨rr4, h⟩ := h
    obtain ⟨rt, h⟩ := h
    obtain ⟨rpa, h⟩ := h
    obtain ⟨lz, h⟩ := h
    obtain ⟨can, h⟩ := h
    obtain ⟨cts, h⟩ := h
    obtain ⟨td, h⟩ := h
    obtain ⟨lk, h⟩ := h
    obtain ⟨fc, h⟩ := h
    obtain ⟨FL, h⟩ := h
    obtain ⟨fcf, h⟩ := h
    obtain ⟨fpf, h⟩ := h
    obtain ⟨htz, h⟩ := h
    obtain ⟨hR, h⟩ := h
    obtain ⟨hTk, h⟩ := h
    obtain ⟨hgo, h⟩ := h
    obtain ⟨hmk, h⟩ := h
    obtain ⟨hM, h⟩ := h
    obtain ⟨hsA, h⟩ := h
    obtain ⟨hrA, h⟩ := h
    obtain ⟨hmA, h⟩ := h
    obtain ⟨hsB, h⟩ := h
    obtain ⟨hrB, h⟩ := h
    obtain ⟨hmB, h⟩ := h
    obtain ⟨hrt, h⟩ := h
    obtain ⟨hlz, h⟩ := h
    obtain ⟨hk9, h⟩ := h
    obtain ⟨hn9, h⟩ := h
    rw [hk9, hn9]
    exact ⟨(gq_kN hmA hmB).1, (gq_kN hmA hmB).2, htz⟩
  · unfold HallE at h
    obtain ⟨a, h⟩ := h
    obtain ⟨r0, h⟩ := h
    obtain ⟨k4, h⟩ := h
    obtain ⟨k5, h⟩ := h
    obtain ⟨k6, h⟩ := h
    obtain ⟨k7, h⟩ := h
    obtain ⟨p0, h⟩ := h
    obtain ⟨b1, h⟩ := h
    obtain ⟨b2, h⟩ := h
    obtain ⟨b3, h⟩ := h
    obtain ⟨d0, h⟩ := h
    obtain ⟨e1, h⟩ := h
    obtain ⟨e2, h⟩ := h
    obtain ⟨e3, h⟩ := h
    obtain ⟨m0, h⟩ := h
    obtain ⟨ms, h⟩ := h
    obtain ⟨mw, h⟩ := h
    obtain ⟨md, h⟩ := h
    obtain ⟨oA, h⟩ := h
    obtain ⟨oB, h⟩ := h
    obtain ⟨ra, h⟩ := h
    obtain ⟨a6, h⟩ := h
    obtain ⟨cu, h⟩ := h
    obtain ⟨f0, h⟩ := h
    obtain ⟨g1, h⟩ := h
    obtain ⟨g2, h⟩ := h
    obtain ⟨g3, h⟩ := h
    obtain ⟨a3l, h⟩ := h
    obtain ⟨a5t, h⟩ := h
    obtain ⟨pv, h⟩ := h
    obtain ⟨fv, h⟩ := h
    obtain ⟨lp, h⟩ := h
    obtain ⟨t, h⟩ := h
    obtain ⟨tl, h⟩ := h
    obtain ⟨vr, h⟩ := h
    obtain ⟨vl, h⟩ := h
    obtain ⟨Kd, h⟩ := h
    obtain ⟨sf, h⟩ := h
    obtain ⟨nf, h⟩ := h
    obtain ⟨Tk, h⟩ := h
    obtain ⟨ncd, h⟩ := h
    obtain ⟨Ld, h⟩ := h
    obtain ⟨cfd, h⟩ := h
    obtain ⟨pfd, h⟩ := h
    obtain ⟨mf, h⟩ := h
    obtain ⟨knA, h⟩ := h
    obtain ⟨flA, h⟩ := h
    obtain ⟨stA, h⟩ := h
    obtain ⟨sA, h⟩ := h
    obtain ⟨bA, h⟩ := h
    obtain ⟨rrA, h⟩ := h
    obtain ⟨recA, h⟩ := h
    obtain ⟨knB, h⟩ := h
    obtain ⟨flB, h⟩ := h
    obtain ⟨stB, h⟩ := h
    obtain ⟨sB, h⟩ := h
    obtain ⟨bB, h⟩ := h
    obtain ⟨rrB, h⟩ := h
    obtain ⟨recB, h⟩ := h
    obtain ⟨rkn, h⟩ := h
    obtain ⟨ran, h⟩ := h
    obtain ⟨rr2, h⟩ := h
    obtain ⟨rr3, h⟩ := h
    obtain ⟨rr4, h⟩ := h
    obtain ⟨rt, h⟩ := h
    obtain ⟨rpa, h⟩ := h
    obtain ⟨lz, h⟩ := h
    obtain ⟨can, h⟩ := h
    obtain ⟨cts, h⟩ := h
    obtain ⟨td, h⟩ := h
    obtain ⟨lk, h⟩ := h
    obtain ⟨fc, h⟩ := h
    obtain ⟨FL, h⟩ := h
    obtain ⟨fcf, h⟩ := h
    obtain ⟨fpf, h⟩ := h
    obtain ⟨x0, h⟩ := h
    obtain ⟨a2, h⟩ := h
    obtain ⟨s4, h⟩ := h
    obtain ⟨w4, h⟩ := h
    obtain ⟨s5, h⟩ := h
    obtain ⟨w5, h⟩ := h
    obtain ⟨a8, h⟩ := h
    obtain ⟨a9, h⟩ := h
    obtain ⟨a3, h⟩ := h
    obtain ⟨i0, h⟩ := h
    obtain ⟨i1, h⟩ := h
    obtain ⟨i6, h⟩ := h
    obtain ⟨a7, h⟩ := h
    obtain ⟨rl, h⟩ := h
    obtain ⟨rf, h⟩ := h
    obtain ⟨f4, h⟩ := h
    obtain ⟨f5, h⟩ := h
    obtain ⟨ef, h⟩ := h
    obtain ⟨sl, h⟩ := h
    obtain ⟨cm, h⟩ := h
    obtain ⟨pp, h⟩ := h
    obtain ⟨htz, h⟩ := h
    obtain ⟨hR, h⟩ := h
    obtain ⟨hTk, h⟩ := h
    obtain ⟨hgo, h⟩ := h
    obtain ⟨hmk, h⟩ := h
    obtain ⟨hM, h⟩ := h
    obtain ⟨hsA, h⟩ := h
    obtain ⟨hrA, h⟩ := h
    obtain ⟨hmA, h⟩ := h
    obtain ⟨hsB, h⟩ := h
    obtain ⟨hrB, h⟩ := h
    obtain ⟨hmB, h⟩ := h
    obtain ⟨hrt, h⟩ := h
    obtain ⟨hlz, h⟩ := h
    obtain ⟨hrl, h⟩ := h
    obtain ⟨hrm, h⟩ := h
    obtain ⟨hk9, h⟩ := h
    obtain ⟨hn9, h⟩ := h
    rw [hk9, hn9]
    exact ⟨(gq_k hmA hmB hrm.2).1, (gq_k hmA hmB hrm.2).2, htz⟩
