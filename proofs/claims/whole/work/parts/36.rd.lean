theorem l129_rd {len : Int32} {tape : Nat → Int32} (hl : len.toInt ≤ 400) : ∀ (n : Nat) (x cu tk fr ti fa at9 : Int32) (ns : Nat → Int32), rd_ok cu fr ti → rd_ok (lX11_land_129 len tape n x cu tk fr ti fa at9 ns).2.1 (lX11_land_129 len tape n x cu tk fr ti fa at9 ns).2.2.2.1 (lX11_land_129 len tape n x cu tk fr ti fa at9 ns).2.2.2.2.1 := by
  intro n
  induction n with
  | zero => intro x cu tk fr ti fa at9 ns h; exact h
  | succ n ih =>
    intro x cu tk fr ti fa at9 ns h
    rw [lX11_land_129]
    split
    · exact h
    · rw [ltd, ltd, ltd]
      generalize hw : sX11_numberIn _ _ _ _ _ _ _ _ _ _ = w
      exact ih _ _ _ _ _ _ _ _ (sX11_numberIn_ok hl h hw.symm)
theorem l157_rd {len : Int32} {tape : Nat → Int32} (hl : len.toInt ≤ 400) : ∀ (n : Nat) (nk cu tk fr ti fa at9 : Int32) (nof nco : Nat → Int32), rd_ok cu fr ti → (0 ≤ nk.toInt ∧ nk.toInt ≤ 5) → rd_ok (lX11_land_157 len tape n nk cu tk fr ti fa at9 nof nco).2.1 (lX11_land_157 len tape n nk cu tk fr ti fa at9 nof nco).2.2.2.1 (lX11_land_157 len tape n nk cu tk fr ti fa at9 nof nco).2.2.2.2.1 := by
  intro n
  induction n with
  | zero => intro nk cu tk fr ti fa at9 nof nco h hn; exact h
  | succ n ih =>
    intro nk cu tk fr ti fa at9 nof nco h hn
    rw [lX11_land_157]
    split
    · rename_i hf
      split
      · exact h
      · rw [ltd]
        generalize hw : sX11_readKind _ _ _ _ _ _ _ _ _ _ _ = w
        obtain ⟨r1, r2, -⟩ := sX11_readKind_ok hl h hn hf hw.symm
        exact ih _ _ _ _ _ _ _ _ _ r1 ⟨by omega, r2.2⟩
    · exact h
def rdQ (M : mLT) : Prop := rd_ok M.2.2.2.2.2.2.2.2.2.2.2.2.1 M.2.2.2.2.2.2.2.2.2.2.2.2.2.2.1 M.2.2.2.2.2.2.2.2.2.2.2.2.2.2.2.1
theorem land_rd {isThere kinds print low high lot tp latest fAt : Int32} {market of nm ns nof nco state rt : Nat → Int32} (hl : tp.toInt ≤ 400) : rdQ (sX11_land isThere kinds print low high lot tp latest fAt market of nm ns nof nco state rt) := by
  have r0 : rd_ok 0 0 0 := ⟨⟨by decide, by decide⟩, ⟨by decide, by decide⟩, by decide, by decide⟩
  unfold sX11_land
  refine lt_Q (Q := rdQ) (fun u1 h1 => ?_)
  have r1 := sX11_next_ok hl r0 h1
  refine lt_Q (Q := rdQ) (fun u2 h2 => ?_)
  refine lt_Q (Q := rdQ) (fun y3 h3 => ?_)
  refine lt_Q (Q := rdQ) (fun u5 h5 => ?_)
  have r5 := sX11_must_ok hl r1 h5
  refine lt_Q (Q := rdQ) (fun u6 h6 => ?_)
  have r6 := sX11_numberIn_ok hl r5 h6
  refine lt_Q (Q := rdQ) (fun ar8 h8 => ?_)
  refine lt_Q (Q := rdQ) (fun u9 h9 => ?_)
  have r9 := sX11_numberIn_ok hl r6 h9
  refine lt_Q (Q := rdQ) (fun ar11 h11 => ?_)
  refine lt_Q (Q := rdQ) (fun u12 h12 => ?_)
  have r12 := sX11_numberIn_ok hl r9 h12
  refine lt_Q (Q := rdQ) (fun ar14 h14 => ?_)
  refine lt_Q (Q := rdQ) (fun u15 h15 => ?_)
  have r15 := sX11_mustEnd_ok hl r12 h15
  refine lt_Q (Q := rdQ) (fun y16 h16 => ?_)
  have r16 : rd_ok y16.1 y16.2.2.1 y16.2.2.2.1 := by
    rw [h16]
    split
    · rw [ltd, ltd, ltd]
      generalize hw : sX11_must _ _ _ _ _ _ _ _ _ = w
      exact sX11_must_ok hl r15 hw.symm
    · exact r15
  refine lt_Q (Q := rdQ) (fun u27 h27 => ?_)
  have r27 := l129_rd (tape := rt) hl 4 0 y16.1 y16.2.1 y16.2.2.1 y16.2.2.2.1 y16.2.2.2.2.1 y16.2.2.2.2.2 ns r16
  rw [← h27] at r27
  refine lt_Q (Q := rdQ) (fun u28 h28 => ?_)
  have r28 := sX11_mustEnd_ok hl r27 h28
  refine lt_Q (Q := rdQ) (fun u32 h32 => ?_)
  have r32 := l157_rd (tape := rt) hl 12 0 u28.1 u28.2.1 u28.2.2.1 u28.2.2.2.1 u28.2.2.2.2.1 u28.2.2.2.2.2 nof nco r28 ⟨by decide, by decide⟩
  rw [← h32] at r32
  split
  · rw [ltd, ltd, ltd]
    exact r32
  · exact r32
