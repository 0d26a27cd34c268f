theorem dX6_scan_0 : decode cX6_scan 0 = .ok (.iconst 0, 1) := by decide +kernel
theorem dX6_scan_1 : decode cX6_scan 1 = .ok (.istore_n 3, 1) := by decide +kernel
theorem dX6_scan_10 : decode cX6_scan 10 = .ok (.if_icmp .gt 107, 3) := by decide +kernel
theorem dX6_scan_100 : decode cX6_scan 100 = .ok (.invokestatic 71, 3) := by decide +kernel
theorem dX6_scan_103 : decode cX6_scan 103 = .ok (.goto 4, 3) := by decide +kernel
theorem dX6_scan_106 : decode cX6_scan 106 = .ok (.iconst (-1), 1) := by decide +kernel
theorem dX6_scan_107 : decode cX6_scan 107 = .ok (.iastore, 1) := by decide +kernel
theorem dX6_scan_108 : decode cX6_scan 108 = .ok (.iload 5, 2) := by decide +kernel
theorem dX6_scan_110 : decode cX6_scan 110 = .ok (.istore_n 3, 1) := by decide +kernel
theorem dX6_scan_111 : decode cX6_scan 111 = .ok (.iinc 4 1, 3) := by decide +kernel
theorem dX6_scan_114 : decode cX6_scan 114 = .ok (.goto (-109), 3) := by decide +kernel
theorem dX6_scan_117 : decode cX6_scan 117 = .ok (.return_, 1) := by decide +kernel
theorem dX6_scan_13 : decode cX6_scan 13 = .ok (.aload_n 1, 1) := by decide +kernel
theorem dX6_scan_14 : decode cX6_scan 14 = .ok (.iload_n 2, 1) := by decide +kernel
theorem dX6_scan_15 : decode cX6_scan 15 = .ok (.iload_n 3, 1) := by decide +kernel
theorem dX6_scan_16 : decode cX6_scan 16 = .ok (.invokestatic 61, 3) := by decide +kernel
theorem dX6_scan_19 : decode cX6_scan 19 = .ok (.istore_n 3, 1) := by decide +kernel
theorem dX6_scan_2 : decode cX6_scan 2 = .ok (.iconst 0, 1) := by decide +kernel
theorem dX6_scan_20 : decode cX6_scan 20 = .ok (.aload_n 0, 1) := by decide +kernel
theorem dX6_scan_21 : decode cX6_scan 21 = .ok (.getfield 26, 3) := by decide +kernel
theorem dX6_scan_24 : decode cX6_scan 24 = .ok (.iload 4, 2) := by decide +kernel
theorem dX6_scan_26 : decode cX6_scan 26 = .ok (.iload_n 3, 1) := by decide +kernel
theorem dX6_scan_27 : decode cX6_scan 27 = .ok (.iastore, 1) := by decide +kernel
theorem dX6_scan_28 : decode cX6_scan 28 = .ok (.iload_n 3, 1) := by decide +kernel
theorem dX6_scan_29 : decode cX6_scan 29 = .ok (.iload_n 2, 1) := by decide +kernel
theorem dX6_scan_3 : decode cX6_scan 3 = .ok (.istore 4, 2) := by decide +kernel
theorem dX6_scan_30 : decode cX6_scan 30 = .ok (.if_icmp .lt 13, 3) := by decide +kernel
theorem dX6_scan_33 : decode cX6_scan 33 = .ok (.aload_n 0, 1) := by decide +kernel
theorem dX6_scan_34 : decode cX6_scan 34 = .ok (.getfield 22, 3) := by decide +kernel
theorem dX6_scan_37 : decode cX6_scan 37 = .ok (.iload 4, 2) := by decide +kernel
theorem dX6_scan_39 : decode cX6_scan 39 = .ok (.bipush 21, 2) := by decide +kernel
theorem dX6_scan_41 : decode cX6_scan 41 = .ok (.iastore, 1) := by decide +kernel
theorem dX6_scan_42 : decode cX6_scan 42 = .ok (.return_, 1) := by decide +kernel
theorem dX6_scan_43 : decode cX6_scan 43 = .ok (.aload_n 1, 1) := by decide +kernel
theorem dX6_scan_44 : decode cX6_scan 44 = .ok (.iload_n 2, 1) := by decide +kernel
theorem dX6_scan_45 : decode cX6_scan 45 = .ok (.iload_n 3, 1) := by decide +kernel
theorem dX6_scan_46 : decode cX6_scan 46 = .ok (.invokestatic 65, 3) := by decide +kernel
theorem dX6_scan_49 : decode cX6_scan 49 = .ok (.istore 5, 2) := by decide +kernel
theorem dX6_scan_5 : decode cX6_scan 5 = .ok (.iload 4, 2) := by decide +kernel
theorem dX6_scan_51 : decode cX6_scan 51 = .ok (.aload_n 0, 1) := by decide +kernel
theorem dX6_scan_52 : decode cX6_scan 52 = .ok (.getfield 22, 3) := by decide +kernel
theorem dX6_scan_55 : decode cX6_scan 55 = .ok (.iload 4, 2) := by decide +kernel
theorem dX6_scan_57 : decode cX6_scan 57 = .ok (.aload_n 1, 1) := by decide +kernel
theorem dX6_scan_58 : decode cX6_scan 58 = .ok (.iload_n 3, 1) := by decide +kernel
theorem dX6_scan_59 : decode cX6_scan 59 = .ok (.iload 5, 2) := by decide +kernel
theorem dX6_scan_61 : decode cX6_scan 61 = .ok (.invokestatic 68, 3) := by decide +kernel
theorem dX6_scan_64 : decode cX6_scan 64 = .ok (.iastore, 1) := by decide +kernel
theorem dX6_scan_65 : decode cX6_scan 65 = .ok (.aload_n 0, 1) := by decide +kernel
theorem dX6_scan_66 : decode cX6_scan 66 = .ok (.getfield 22, 3) := by decide +kernel
theorem dX6_scan_69 : decode cX6_scan 69 = .ok (.iload 4, 2) := by decide +kernel
theorem dX6_scan_7 : decode cX6_scan 7 = .ok (.sipush 500, 3) := by decide +kernel
theorem dX6_scan_71 : decode cX6_scan 71 = .ok (.iaload, 1) := by decide +kernel
theorem dX6_scan_72 : decode cX6_scan 72 = .ok (.bipush 22, 2) := by decide +kernel
theorem dX6_scan_74 : decode cX6_scan 74 = .ok (.if_icmp .ne 4, 3) := by decide +kernel
theorem dX6_scan_77 : decode cX6_scan 77 = .ok (.return_, 1) := by decide +kernel
theorem dX6_scan_78 : decode cX6_scan 78 = .ok (.aload_n 0, 1) := by decide +kernel
theorem dX6_scan_79 : decode cX6_scan 79 = .ok (.getfield 29, 3) := by decide +kernel
theorem dX6_scan_82 : decode cX6_scan 82 = .ok (.iload 4, 2) := by decide +kernel
theorem dX6_scan_84 : decode cX6_scan 84 = .ok (.aload_n 0, 1) := by decide +kernel
theorem dX6_scan_85 : decode cX6_scan 85 = .ok (.getfield 22, 3) := by decide +kernel
theorem dX6_scan_88 : decode cX6_scan 88 = .ok (.iload 4, 2) := by decide +kernel
theorem dX6_scan_90 : decode cX6_scan 90 = .ok (.iaload, 1) := by decide +kernel
theorem dX6_scan_91 : decode cX6_scan 91 = .ok (.bipush 16, 2) := by decide +kernel
theorem dX6_scan_93 : decode cX6_scan 93 = .ok (.if_icmp .ne 13, 3) := by decide +kernel
theorem dX6_scan_96 : decode cX6_scan 96 = .ok (.aload_n 1, 1) := by decide +kernel
theorem dX6_scan_97 : decode cX6_scan 97 = .ok (.iload_n 3, 1) := by decide +kernel
theorem dX6_scan_98 : decode cX6_scan 98 = .ok (.iload 5, 2) := by decide +kernel
/-- what the scanner's rows hold -/
def gRdI (Kd : Nat → Nat) (nf sf : Nat → Int32) : Prop := (∀ t, t < 501 → Kd t ≤ 22) ∧ (∀ t, t < 501 → Kd t = 16 → ∃ m, m ≤ 999 ∧ nf t = nI m) ∧ ∀ t, t < 501 → ¬ sf t = (-1)
theorem gy_n1 {n : Nat} (h : n < 2 ^ 31) : ¬ nI n = (-1) := fun e => nI_pos h (by rw [e]; decide)
theorem gRdI_s {Kd : Nat → Nat} {nf sf : Nat → Int32} {n q fr : Nat} {v : Int32} (h : gRdI Kd nf sf) (hq : q ≤ 22) (hv : q = 16 → ∃ m, m ≤ 999 ∧ v = nI m) (hf : fr < 2 ^ 31) : gRdI (updN Kd n q) (upd nf n v) (upd sf n (nI fr)) := by
  refine ⟨fun t ht => ?_, fun t ht hk => ?_, fun t ht => ?_⟩
  · by_cases e : t = n
    · subst e; rw [updN_s]; exact hq
    · rw [updN_n e]; exact h.1 t ht
  · by_cases e : t = n
    · subst e; rw [updN_s] at hk; rw [pk_us]; exact hv hk
    · rw [updN_n e] at hk; rw [pk_un e]; exact h.2.1 t ht hk
  · by_cases e : t = n
    · subst e; rw [pk_us]; exact gy_n1 hf
    · rw [pk_un e]; exact h.2.2 t ht
theorem gRdI_k {Kd : Nat → Nat} {nf sf : Nat → Int32} {n q fr : Nat} (h : gRdI Kd nf sf) (hq : q ≤ 22) (hv : q ≠ 16) (hf : fr < 2 ^ 31) : gRdI (updN Kd n q) nf (upd sf n (nI fr)) := by
  refine ⟨fun t ht => ?_, fun t ht hk => ?_, fun t ht => ?_⟩
  · by_cases e : t = n
    · subst e; rw [updN_s]; exact hq
    · rw [updN_n e]; exact h.1 t ht
  · by_cases e : t = n
    · subst e; rw [updN_s] at hk; exact absurd hk hv
    · rw [updN_n e] at hk; exact h.2.1 t ht hk
  · by_cases e : t = n
    · subst e; rw [pk_us]; exact gy_n1 hf
    · rw [pk_un e]; exact h.2.2 t ht