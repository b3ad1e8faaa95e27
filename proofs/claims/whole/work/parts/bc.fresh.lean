theorem RR_fresh : RR (mm WB) := by
  obtain ⟨s1, s2, s3, s4, s5, s6, s7, s8, s9, t0, t1, t2, t3, t4, t5⟩ := fr_s
  have hci : ci (mm WB) := by
    refine ⟨fun c c0 c1 c2 => ?_, ?_, ⟨fun c c0 c1 c2 => ?_, fun x x0 x1 => Or.inl (fr_54 x x0 x1)⟩, fun c c0 c1 => ?_, fun c c0 c1 c2 => ?_⟩
    · rw [fr_62 c c0 c1] at c2; omega
    · intro k k0 k1; rw [fr_53]; omega
    · rw [fr_62 c c0 c1] at c2; omega
    · rw [fr_62 c c0 c1]; omega
    · rw [fr_62 c c0 c1] at c2; omega
  have hed : edA (mm WB) (fun _ _ => []) (fun _ => []) := by
    refine ⟨⟨fun i i0 i1 => ?_, fun i j i0 i1 j0 j1 h => ?_, by omega, by omega⟩, fun i i0 i1 => by omega⟩
    · rw [fr_21 i i0 i1]; unfold isE; omega
    · rw [fr_21 i i0 i1, fr_21 j j0 j1] at h; omega
  refine ⟨fun _ _ => [], fun _ => [], 0, fun _ => ([], []), ⟨⟨by omega, by omega, fun k _ _ => by rw [fr_3]; omega⟩, ⟨s2, by decide, by decide, ⟨fun i i0 i1 => ?_, fun i j i0 i1 j0 j1 h => ?_⟩, fun i i0 i1 => by omega⟩, ⟨fun i j i0 i1 i2 => by omega, fun i j i0 i1 => by omega, fun i i0 i1 => by omega⟩, hed, hci, ⟨⟨by omega, by omega⟩, fun i i0 i1 => by omega, fun i j i0 i1 i2 => by omega, by omega, by omega⟩, s7⟩,
    ⟨⟨hci, fun c c0 c1 => Or.inr ⟨by rw [fr_62 c c0 c1]; decide, fr_128 _ (by omega)⟩, fun c p c0 c1 c2 => ?_, fun k k0 k1 => ?_⟩, hed, ⟨by omega, fun i i0 i1 => by omega⟩⟩, ⟨t0, by decide, by decide, fun i i0 i1 => by omega⟩, ⟨by omega, fun j j0 j1 => by omega⟩, ⟨by omega, by omega, by omega, by omega⟩⟩
  · rw [fr_7 i i0 i1]; omega
  · rw [fr_7 i i0 i1, fr_7 j j0 j1] at h; omega
  · rw [fr_62 c c0 c1] at c2; omega
  · rw [fr_128 _ (by omega), fr_53]
