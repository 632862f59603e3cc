/-! THE REFERENCE: changes of its row -/
section ROWC
variable {M : Nat → Nat → Int32} {c : Col} {m j R : Nat}
theorem RowAt.sP (h : RowAt M R 0 c) (hn : cn c ≤ 9) (hm : m < 9) {x : Nat} : RowAt (up2 M R (4 + (4 * m) + 0) (nI x)) R 0 (setP c m x) := by
  obtain ⟨h1, h2, h3, h4, h5, h6⟩ := h
  refine ⟨(up2_k (by omega)).trans h1, (up2_k (by omega)).trans h2, (up2_k (by omega)).trans h3, (up2_k (by omega)).trans h4, fun i hi => ?_, fun z hz => ⟨(up2_k (by omega)).trans (h6 z hz).1, (up2_k (by omega)).trans (h6 z hz).2⟩⟩
  have hi2 : i < cn c := hi
  refine ⟨?_, (up2_k (by omega)).trans (h5 i hi2).2.1, (up2_k (by omega)).trans (h5 i hi2).2.2.1, (up2_k (by omega)).trans (h5 i hi2).2.2.2⟩
  by_cases e : i = m
  · subst e
    rw [show 0 + (4 + 4 * i) = 4 + (4 * i) + 0 by omega, up2_s]
    exact congrArg nI ups_s.symm
  · rw [up2_k (by omega)]
    show M R _ = nI (ups (cp c) m x i); rw [ups_n e]
    exact (h5 i hi2).1
theorem RowAt.sS (h : RowAt M R 0 c) (hn : cn c ≤ 9) (hm : m < 9) {x : Nat} : RowAt (up2 M R (4 + (4 * m) + 1) (nI x)) R 0 (setS c m x) := by
  obtain ⟨h1, h2, h3, h4, h5, h6⟩ := h
  refine ⟨(up2_k (by omega)).trans h1, (up2_k (by omega)).trans h2, (up2_k (by omega)).trans h3, (up2_k (by omega)).trans h4, fun i hi => ?_, fun z hz => ⟨(up2_k (by omega)).trans (h6 z hz).1, (up2_k (by omega)).trans (h6 z hz).2⟩⟩
  have hi2 : i < cn c := hi
  refine ⟨(up2_k (by omega)).trans (h5 i hi2).1, ?_, (up2_k (by omega)).trans (h5 i hi2).2.2.1, (up2_k (by omega)).trans (h5 i hi2).2.2.2⟩
  by_cases e : i = m
  · subst e
    rw [show 0 + (5 + 4 * i) = 4 + (4 * i) + 1 by omega, up2_s]
    exact congrArg nI ups_s.symm
  · rw [up2_k (by omega)]
    show M R _ = nI (ups (cs c) m x i); rw [ups_n e]
    exact (h5 i hi2).2.1
theorem RowAt.sT (h : RowAt M R 0 c) (hn : cn c ≤ 9) (hm : m < 9) {x : Int32} : RowAt (up2 M R (4 + (4 * m) + 3) (x)) R 0 (setT c m x) := by
  obtain ⟨h1, h2, h3, h4, h5, h6⟩ := h
  refine ⟨(up2_k (by omega)).trans h1, (up2_k (by omega)).trans h2, (up2_k (by omega)).trans h3, (up2_k (by omega)).trans h4, fun i hi => ?_, fun z hz => ⟨(up2_k (by omega)).trans (h6 z hz).1, (up2_k (by omega)).trans (h6 z hz).2⟩⟩
  have hi2 : i < cn c := hi
  refine ⟨(up2_k (by omega)).trans (h5 i hi2).1, (up2_k (by omega)).trans (h5 i hi2).2.1, (up2_k (by omega)).trans (h5 i hi2).2.2.1, ?_⟩
  by_cases e : i = m
  · subst e
    rw [show 0 + (7 + 4 * i) = 4 + (4 * i) + 3 by omega, up2_s]
    exact ups_s.symm
  · rw [up2_k (by omega)]
    show M R _ = ups (ct c) m x i; rw [ups_n e]
    exact (h5 i hi2).2.2.2
theorem RowAt.sW (h : RowAt M R 0 c) (hn : cn c ≤ 9) (hm : m < 9) {w : Nat} (hw : ∀ i, i < cn c → i ≠ m → w.testBit i = (cw c).testBit i) : RowAt (up2 M R (4 + (4 * m) + 2) (nI (w.testBit m).toNat)) R 0 (setW c w) := by
  obtain ⟨h1, h2, h3, h4, h5, h6⟩ := h
  refine ⟨(up2_k (by omega)).trans h1, (up2_k (by omega)).trans h2, (up2_k (by omega)).trans h3, (up2_k (by omega)).trans h4, fun i hi => ?_, fun z hz => ⟨(up2_k (by omega)).trans (h6 z hz).1, (up2_k (by omega)).trans (h6 z hz).2⟩⟩
  have hi2 : i < cn c := hi
  refine ⟨(up2_k (by omega)).trans (h5 i hi2).1, (up2_k (by omega)).trans (h5 i hi2).2.1, ?_, (up2_k (by omega)).trans (h5 i hi2).2.2.2⟩
  by_cases e : i = m
  · subst e
    rw [show 0 + (6 + 4 * i) = 4 + (4 * i) + 2 by omega, up2_s]
    rfl
  · rw [up2_k (by omega)]
    show M R _ = nI (w.testBit i).toNat
    rw [hw i hi2 e]
    exact (h5 i hi2).2.2.1
theorem RowAt.sTT (h : RowAt M R 0 c) {x : Int32} : RowAt (up2 M R 2 x) R 0 (setTT c x) := by
  obtain ⟨h1, h2, h3, h4, h5, h6⟩ := h
  exact ⟨(up2_k (by omega)).trans h1, (up2_k (by omega)).trans h2, up2_s, (up2_k (by omega)).trans h4, fun i hi => ⟨(up2_k (by omega)).trans (h5 i hi).1, (up2_k (by omega)).trans (h5 i hi).2.1, (up2_k (by omega)).trans (h5 i hi).2.2.1, (up2_k (by omega)).trans (h5 i hi).2.2.2⟩, fun z hz => ⟨(up2_k (by omega)).trans (h6 z hz).1, (up2_k (by omega)).trans (h6 z hz).2⟩⟩
theorem RowAt.sMM (h : RowAt M R 0 c) {x : Int32} : RowAt (up2 M R 3 x) R 0 (setMM c x) := by
  obtain ⟨h1, h2, h3, h4, h5, h6⟩ := h
  exact ⟨(up2_k (by omega)).trans h1, (up2_k (by omega)).trans h2, (up2_k (by omega)).trans h3, up2_s, fun i hi => ⟨(up2_k (by omega)).trans (h5 i hi).1, (up2_k (by omega)).trans (h5 i hi).2.1, (up2_k (by omega)).trans (h5 i hi).2.2.1, (up2_k (by omega)).trans (h5 i hi).2.2.2⟩, fun z hz => ⟨(up2_k (by omega)).trans (h6 z hz).1, (up2_k (by omega)).trans (h6 z hz).2⟩⟩
end ROWC
