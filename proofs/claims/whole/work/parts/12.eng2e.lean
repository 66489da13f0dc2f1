theorem wS_4 {mark s : Nat → Nat} {h c : Nat} (hs : s 4 < 4294967296) (hh : h < 3) (hc : c < 96) : wS mark h c s 4 < 4294967296 := by
  unfold wS
  rw [up_n (by decide)]
  split
  · split
    · rw [up_s]; omega
    · rw [up_n (by decide)]; exact hs
  · exact hs
