/-! what the start gives: the classes, the static rows, the words -/
def lwG : List Cond := flatC (Jvm.Cond.and given_1 narrow_1)
def tbT (k : Nat) : Term := .static (tbC k).1 (tbC k).2 "[I"
def wdE (i : Nat) : Term := .string "PigRounds$Reader" (wdT i).1
def wdV (i : Nat) : Term := .field (wdE i) "java/lang/String" "value" "[B"
set_option maxRecDepth 100000 in
theorem lw_g1 : ∀ k, k < 9 → Cond.arrayOf (tbT k) .int ∈ lwG := by decide +kernel
set_option maxRecDepth 100000 in
theorem lw_g2 : ∀ k, k < 9 → Cond.eq (.length (tbT k)) (.int (Int32.ofNat (tbN k))) ∈ lwG := by decide +kernel
set_option maxRecDepth 100000 in
theorem lw_g3 : ∀ k, k < 9 → ∀ j, j < tbN k → Cond.eq (.elem (tbT k) (.int (Int32.ofNat j))) (.int (tbF k j)) ∈ lwG := by decide +kernel
set_option maxRecDepth 100000 in
theorem lw_g4 : ∀ k, k < 9 → tbN k < 2 ^ 31 := by decide +kernel
set_option maxRecDepth 100000 in
theorem lw_w1 : ∀ i, i < 9 → Cond.exactly (wdE i) "java/lang/String" ∈ lwG := by decide +kernel
set_option maxRecDepth 100000 in
theorem lw_w2 : ∀ i, i < 9 → Cond.eq (.field (wdE i) "java/lang/String" "coder" "B") (.int 0) ∈ lwG := by decide +kernel
set_option maxRecDepth 100000 in
theorem lw_w3 : ∀ i, i < 9 → Cond.arrayOf (wdV i) .byte ∈ lwG := by decide +kernel
set_option maxRecDepth 100000 in
theorem lw_w4 : ∀ i, i < 9 → Cond.eq (.length (wdV i)) (.int (Int32.ofNat (wdN.getD i 0))) ∈ lwG := by decide +kernel
set_option maxRecDepth 100000 in
theorem lw_w5 : ∀ i, i < 9 → ∀ j, j < wdN.getD i 0 → Cond.eq (.elem (wdV i) (.int (Int32.ofNat j))) (.int ((wdB.getD i []).getD j 0)) ∈ lwG := by decide +kernel
set_option maxRecDepth 100000 in
theorem lw_w6 : ∀ i, i < 9 → ∀ j, j < 9 → i ≠ j → Cond.not (.eq (wdE i) (wdE j)) ∈ lwG ∨ Cond.not (.eq (wdE j) (wdE i)) ∈ lwG := by decide +kernel
set_option maxRecDepth 100000 in
theorem lw_w7 : ∀ i, i < 9 → wdN.getD i 0 < 2 ^ 31 := by decide +kernel
set_option maxRecDepth 100000 in
theorem lw_g5 : Cond.eq (.static "java/lang/String" "COMPACT_STRINGS" "Z") (.int 1) ∈ lwG := by decide +kernel
set_option maxRecDepth 100000 in
theorem lw_g6 : Cond.isRef (.static "jdk/internal/util/Preconditions" "SIOOBE_FORMATTER" "Ljava/util/function/BiFunction;") ∈ lwG := by decide +kernel
set_option maxRecDepth 100000 in
theorem lw_t1 : ∀ k, k < 9 → Cond.laysStatic (tbC k).1 (tbC k).2 "[I" ∈ lw_tbl := by decide +kernel
set_option maxRecDepth 100000 in
theorem lw_t2 : ∀ k, k < 9 → Cond.initialized (tbC k).1 ∈ lw_tbl := by decide +kernel
set_option maxRecDepth 100000 in
theorem lw_t3 : ∀ i, i < 9 → Cond.stringRef "PigRounds$Reader" (wdT i).1 (wdT i).2 ∈ lw_tbl := by decide +kernel
set_option maxRecDepth 100000 in
theorem lw_t4 : ∀ w ∈ [Cond.laysStatic "java/lang/String" "COMPACT_STRINGS" "Z", .initialized "java/lang/String", .laysStatic "jdk/internal/util/Preconditions" "SIOOBE_FORMATTER" "Ljava/util/function/BiFunction;", .initialized "jdk/internal/util/Preconditions"], w ∈ lw_tbl := by decide +kernel
set_option maxRecDepth 100000 in
theorem lw_t5 : ∀ w ∈ [Cond.arrayClass .int, .arrayClass .byte, .arrayOver (.object "PigRounds$Kind"), .arrayOver (.object "PigRounds$Sheet")], w ∈ lw_tbl := by decide +kernel
set_option maxRecDepth 100000 in
theorem lw_t6 : ∀ k, k < 6 → nstW k ∈ lw_tbl := by decide +kernel
set_option maxRecDepth 100000 in
theorem lw_t7 : ∀ w ∈ [Cond.instantiable RX0 7, .instantiable RX1 9, .instantiable RX2 12, .instantiable RX3 5, .instantiable RX4 7, .instantiable RX6 4, .instantiable RX7 2, .instantiable RX8 4, .instantiable RX10 10, .instantiable RX11 35], w ∈ lw_tbl := by decide +kernel
section
variable {s : State} {args : Array Value}
theorem law_pFs (hts : ∀ w ∈ lw_tbl, w.before args s = true) (hgv : (Jvm.Cond.and given_1 narrow_1).before args s = true) : ∃ t ks kb, pFs t ks kb (fun q : Nat => s.heap.size ≤ q) s := by
  have hs : ∀ w ∈ lwG, w.before args s = true := flat_of_before _ hgv
  have hA : ∀ a : Nat, a < s.heap.size → ¬ (fun q : Nat => s.heap.size ≤ q) a := fun a h => Nat.not_le.mpr h
  have h1 : ∀ k, ∃ t, k < 9 → va_Z (tbC k).1 (tbC k).2 "[I" (.ref t) (fun q : Nat => s.heap.size ≤ q) s s.heap ∧ va_T .int t (tbN k) (fun j => .int (tbF k j)) (fun q : Nat => s.heap.size ≤ q) s s.heap := fun k => by
    by_cases hk : k < 9
    · obtain ⟨t, e1, h2⟩ := va_Tof (tm := tbT k) (ty := .int) (N := tbN k) (f := fun j => .int (tbF k j)) (lw_g4 k hk) (hs _ (lw_g1 k hk)) (va_eqt (hs _ (lw_g2 k hk))) (fun j hj => va_eqt (hs _ (lw_g3 k hk j hj))) hA
      exact ⟨t, fun _ => ⟨va_Zof (hts _ (lw_t1 k hk)) (hts _ (lw_t2 k hk)) e1 hA, h2⟩⟩
    · exact ⟨0, fun h => absurd h hk⟩
  obtain ⟨t, ht⟩ := Classical.axiomOfChoice h1
  obtain ⟨ks, kb, h3, h4⟩ := vk_Sof (tm := wdE) (N := 9) (len := wdN) (byt := wdB) lw_w7 (fun i hi => hs _ (lw_w1 i hi)) (fun i hi => hs _ (lw_w2 i hi)) (fun i hi => hs _ (lw_w3 i hi)) (fun i hi => hs _ (lw_w4 i hi)) (fun i hi j hj => hs _ (lw_w5 i hi j hj)) (fun i j hi hj n => (lw_w6 i hi j hj n).imp (fun q => hs _ q) (fun q => hs _ q)) hA
  exact ⟨t, ks, kb, ht, va_Zof (hts _ (lw_t4 _ (.head _))) (hts _ (lw_t4 _ (.tail _ (.head _)))) (va_eqt (hs _ lw_g5)) hA, va_Zqof (hts _ (lw_t4 _ (.tail _ (.tail _ (.head _))))) (hts _ (lw_t4 _ (.tail _ (.tail _ (.tail _ (.head _)))))) (hs _ lw_g6) hA, h3, fun i hi => vk_R.of (hts _ (lw_t3 i hi)) (h4 i hi)⟩
theorem law_pFn (A : Nat → Prop) (hts : ∀ w ∈ lw_tbl, w.before args s = true) : pFn A s :=
  ⟨⟨va_AO.of (hts _ (lw_t5 _ (.tail _ (.tail _ (.head _))))), va_AO.of (hts _ (lw_t5 _ (.tail _ (.tail _ (.tail _ (.head _))))))⟩, fun k hk => va_Nw.of (nstW_tab k) (hts _ (lw_t6 k hk))⟩
theorem law_arrP {ty : FieldType} (hty : ∀ C, ty ≠ .object C) (h : (Cond.arrayClass ty).before args s = true) : ∃ c, ArrOfT s c ty ∧ va_RA s c ty := by
  obtain ⟨c, k, comp, e1, e2, e3⟩ := Cond.arrayClass_spec h
  refine ⟨c, fun N z => ⟨(fun k h => by cases h), k, e2, comp, e3⟩, ?_⟩
  cases ty <;> first | exact e1 | exact absurd rfl (hty _)
theorem law_arrO {C : String} (h : (Cond.arrayOver (.object C)).before args s = true) : ∃ c, ArrOfT s c (.object C) ∧ va_RA s c (.object C) := by
  obtain ⟨comp, c, k, e1, -, e2, e3, e4⟩ := Cond.arrayOver_spec h
  exact ⟨c, fun N z => ⟨(fun k h => by cases h), k, e2, comp, e3⟩, k, comp, e2, e3, e1, e4⟩
theorem law_K (hts : ∀ w ∈ lw_tbl, w.before args s = true) : ∃ (D : va_G) (cI cB cK cS : ClassId), va_K D vwCl (tyX cI cB cK cS) s := by
  have hn := fun w hw => hts w (lw_t7 w hw)
  obtain ⟨c0, i0, k0⟩ := u_known (C := RX0) (T := TX0) (N := 7) hts inX0 (hn _ (.head _))
  obtain ⟨c1, i1, k1⟩ := u_known (C := RX1) (T := TX1) (N := 9) hts inX1 (hn _ (.tail _ (.head _)))
  obtain ⟨c2, i2, k2⟩ := u_known (C := RX2) (T := TX2) (N := 12) hts inX2 (hn _ (.tail _ (.tail _ (.head _))))
  obtain ⟨c3, i3, k3⟩ := u_known (C := RX3) (T := TX3) (N := 5) hts inX3 (hn _ (.tail _ (.tail _ (.tail _ (.head _)))))
  obtain ⟨c4, i4, k4⟩ := u_known (C := RX4) (T := TX4) (N := 7) hts inX4 (hn _ (.tail _ (.tail _ (.tail _ (.tail _ (.head _))))))
  obtain ⟨c5, i5, k5⟩ := u_known (C := RX6) (T := TX6) (N := 4) hts inX6 (hn _ (.tail _ (.tail _ (.tail _ (.tail _ (.tail _ (.head _)))))))
  obtain ⟨c6, i6, k6⟩ := u_known (C := RX7) (T := TX7) (N := 2) hts inX7 (hn _ (.tail _ (.tail _ (.tail _ (.tail _ (.tail _ (.tail _ (.head _))))))))
  obtain ⟨c7, i7, k7⟩ := u_known (C := RX8) (T := TX8) (N := 4) hts inX8 (hn _ (.tail _ (.tail _ (.tail _ (.tail _ (.tail _ (.tail _ (.tail _ (.head _)))))))))
  obtain ⟨c8, i8, k8⟩ := u_known (C := RX10) (T := TX10) (N := 10) hts inX10 (hn _ (.tail _ (.tail _ (.tail _ (.tail _ (.tail _ (.tail _ (.tail _ (.tail _ (.head _))))))))))
  obtain ⟨c9, i9, k9⟩ := u_known (C := RX11) (T := TX11) (N := 35) hts inX11 (hn _ (.tail _ (.tail _ (.tail _ (.tail _ (.tail _ (.tail _ (.tail _ (.tail _ (.tail _ (.head _)))))))))))
  obtain ⟨cI, hI⟩ := law_arrP (ty := .int) (fun C h => by cases h) (hts _ (lw_t5 _ (.head _)))
  obtain ⟨cB, hB⟩ := law_arrP (ty := .byte) (fun C h => by cases h) (hts _ (lw_t5 _ (.tail _ (.head _))))
  obtain ⟨cK, hKk⟩ := law_arrO (hts _ (lw_t5 _ (.tail _ (.tail _ (.head _)))))
  obtain ⟨cS, hSs⟩ := law_arrO (hts _ (lw_t5 _ (.tail _ (.tail _ (.tail _ (.head _))))))
  refine ⟨(fun k => match k with | 0 => c0 | 1 => c1 | 2 => c2 | 3 => c3 | 4 => c4 | 5 => c5 | 6 => c6 | 7 => c7 | 8 => c8 | _ => c9, fun k => match k with | 0 => i0 | 1 => i1 | 2 => i2 | 3 => i3 | 4 => i4 | 5 => i5 | 6 => i6 | 7 => i7 | 8 => i8 | _ => i9), cI, cB, cK, cS, ?_, ?_⟩
  · intro k q hq
    match k, hq with
    | 0, hq => cases hq; exact k0
    | 1, hq => cases hq; exact k1
    | 2, hq => cases hq; exact k2
    | 3, hq => cases hq; exact k3
    | 4, hq => cases hq; exact k4
    | 5, hq => cases hq; exact k5
    | 6, hq => cases hq; exact k6
    | 7, hq => cases hq; exact k7
    | 8, hq => cases hq; exact k8
    | 9, hq => cases hq; exact k9
    | k + 10, hq => simp [vwCl] at hq
  · intro k q hq
    match k, hq with
    | 0, hq => cases hq; exact hI
    | 1, hq => cases hq; exact hB
    | 2, hq => cases hq; exact hKk
    | 3, hq => cases hq; exact hSs
    | k + 4, hq => simp at hq
end
