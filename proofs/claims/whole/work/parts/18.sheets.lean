/-- the sheets: S 0 their row, S 1 .. S 8 themselves, S 9 .. S 16 their items -/
def shW (S : Nat → Nat) (cI cS : ClassId) (sv si : Nat → Nat → Int32) : va_W := [(S (1 + 0), .inr (5, sf (S (9 + 0)) (sv 0))), (S (1 + 1), .inr (5, sf (S (9 + 1)) (sv 1))), (S (1 + 2), .inr (5, sf (S (9 + 2)) (sv 2))), (S (1 + 3), .inr (5, sf (S (9 + 3)) (sv 3))), (S (1 + 4), .inr (5, sf (S (9 + 4)) (sv 4))), (S (1 + 5), .inr (5, sf (S (9 + 5)) (sv 5))), (S (1 + 6), .inr (5, sf (S (9 + 6)) (sv 6))), (S (1 + 7), .inr (5, sf (S (9 + 7)) (sv 7))), (S (9 + 0), .inl (cI, 60, .inl (si 0))), (S (9 + 1), .inl (cI, 60, .inl (si 1))), (S (9 + 2), .inl (cI, 60, .inl (si 2))), (S (9 + 3), .inl (cI, 60, .inl (si 3))), (S (9 + 4), .inl (cI, 60, .inl (si 4))), (S (9 + 5), .inl (cI, 60, .inl (si 5))), (S (9 + 6), .inl (cI, 60, .inl (si 6))), (S (9 + 7), .inl (cI, 60, .inl (si 7))), (S 0, .inl (cS, 8, .inr (.inr (.inr (.inr (fun j => some (S (1 + j))))))))]
theorem ss_get {S : Nat → Nat} {cI cS : ClassId} {sv si : Nat → Nat → Int32} {R : va_W} {j : Nat} (hj : j < 8) : (shW S cI cS sv si ++ R)[j]? = some (S (1 + j), .inr (5, sf (S (9 + j)) (sv j))) := by
  rcases (show j = 0 ∨ j = 1 ∨ j = 2 ∨ j = 3 ∨ j = 4 ∨ j = 5 ∨ j = 6 ∨ j = 7 by omega) with rfl | rfl | rfl | rfl | rfl | rfl | rfl | rfl <;> rfl
theorem si_get {S : Nat → Nat} {cI cS : ClassId} {sv si : Nat → Nat → Int32} {R : va_W} {j : Nat} (hj : j < 8) : (shW S cI cS sv si ++ R)[8 + j]? = some (S (9 + j), .inl (cI, 60, .inl (si j))) := by
  rcases (show j = 0 ∨ j = 1 ∨ j = 2 ∨ j = 3 ∨ j = 4 ∨ j = 5 ∨ j = 6 ∨ j = 7 by omega) with rfl | rfl | rfl | rfl | rfl | rfl | rfl | rfl <;> rfl
theorem ss_set {S : Nat → Nat} {cI cS : ClassId} {sv si : Nat → Nat → Int32} {R : va_W} {j : Nat} (hj : j < 8) {w : Nat → Int32} : (shW S cI cS sv si ++ R).set j (S (1 + j), .inr (5, sf (S (9 + j)) w)) = shW S cI cS (va_up sv j w) si ++ R := by
  rcases (show j = 0 ∨ j = 1 ∨ j = 2 ∨ j = 3 ∨ j = 4 ∨ j = 5 ∨ j = 6 ∨ j = 7 by omega) with rfl | rfl | rfl | rfl | rfl | rfl | rfl | rfl <;> rfl
theorem si_set {S : Nat → Nat} {cI cS : ClassId} {sv si : Nat → Nat → Int32} {R : va_W} {j : Nat} (hj : j < 8) {w : Nat → Int32} : (shW S cI cS sv si ++ R).set (8 + j) (S (9 + j), .inl (cI, 60, .inl w)) = shW S cI cS sv (va_up si j w) ++ R := by
  rcases (show j = 0 ∨ j = 1 ∨ j = 2 ∨ j = 3 ∨ j = 4 ∨ j = 5 ∨ j = 6 ∨ j = 7 by omega) with rfl | rfl | rfl | rfl | rfl | rfl | rfl | rfl <;> rfl
def sX10_isSheet (k : Int32) : Int32 := if k < 0 then ((0)) else (if 8 ≤ k then ((0)) else ((1)))
set_option maxHeartbeats 4000000 in
set_option maxRecDepth 100000 in
theorem mtX10_isSheet (l : Launch) (D : va_G) (cI cB cK cS : ClassId) (B S U Q V K Z2 Z3 : Nat → Nat) (R : va_W) (sv : Nat → Nat → Int32) (si : Nat → Nat → Int32) (g_landed : Int32) (g_fault : Int32) (g_find : Int32) (k : Int32) : MX l yX10_isSheet wsX10_isSheet (rmX 1) D (tyX cI cB cK cS) pF0 (shW S cI cS sv si ++ (pigW B S U Q V K Z2 Z3 g_landed g_fault g_find ++ R)) [.ref (B 0), .int k] (sX10_isSheet k) (fun u => some (.int u)) (fun _ => shW S cI cS sv si ++ (pigW B S U Q V K Z2 Z3 g_landed g_fault g_find ++ R)) := by
  refine mx_intro (cc := cX10_isSheet) (maxL := 2) (ret := (some .boolean)) (by decide) rfl (Nat.le_of_ble_eq_true rfl) ?_
  intro p e s m below meth c A ls H locs Qm hQm hx hb hr hml hts hown hlocks hA hS hP hK hD hF hl
  have hown : s.vm.findClass RX10 = some m.cls := hown
  have hl : lv_has ls 2 [(0, .ref (B 0)), (1, .int k)] := hl
  have k11 := hts (.fieldLink RX10 11 "PigRounds" "sheets" "[LPigRounds$Sheet;") (by decide +kernel)
  have iX10 : ∀ w ∈ u_ws RX10 TX10 10, w ∈ wsX10_isSheet := by decide +kernel
  refine lv_iload_n hx hb dX10_isSheet_0 rfl (lv_at hl 1 rfl) ?_
  refine lv_if_lt (tgt := 17) hx hb dX10_isSheet_1 (by decide) (fun c_1 => ?_) (fun c_1 => ?_)
  · refine lv_iconst (v := 0) hx hb dX10_isSheet_17 (by decide) ?_
    rw [hQm]
    exact mx_zret (u0 := sX10_isSheet k) (rv := (fun u => some (.int u))) (w1 := (fun _ => shW S cI cS sv si ++ (pigW B S U Q V K Z2 Z3 g_landed g_fault g_find ++ R))) (u := (0)) hx hb hr hlocks hK hS ((if_pos c_1).trans rfl) hP hD rfl rfl dX10_isSheet_18
  · refine lv_iload_n hx hb dX10_isSheet_4 rfl (lv_at hl 1 rfl) ?_
    refine lv_aload_n hx hb dX10_isSheet_5 rfl (lv_at hl 0 rfl) ?_
    refine va_get (D := D) (ci := 8) (v := .ref (S 0)) (C := RX10) (T := TX10) (N := 10) hx hb hts iX10 hown hK hP 17 rfl rfl 0 (by decide) k11 (fun _ h9 => h9) rfl dX10_isSheet_6 ?_
    refine va_alen (v := 8) hx hb hK hP 16 3 rfl rfl rfl dX10_isSheet_9 ?_
    refine lv_icmp_ge (tgt := 17) hx hb dX10_isSheet_10 (by decide) (fun c_2 => ?_) (fun c_2 => ?_)
    · refine lv_iconst (v := 0) hx hb dX10_isSheet_17 (by decide) ?_
      rw [hQm]
      exact mx_zret (u0 := sX10_isSheet k) (rv := (fun u => some (.int u))) (w1 := (fun _ => shW S cI cS sv si ++ (pigW B S U Q V K Z2 Z3 g_landed g_fault g_find ++ R))) (u := (0)) hx hb hr hlocks hK hS ((if_neg c_1).trans ((if_pos c_2).trans rfl)) hP hD rfl rfl dX10_isSheet_18
    · refine lv_iconst (v := 1) hx hb dX10_isSheet_13 (by decide) ?_
      refine lv_goto (tgt := 18) hx hb dX10_isSheet_14 (by decide) ?_
      rw [hQm]
      exact mx_zret (u0 := sX10_isSheet k) (rv := (fun u => some (.int u))) (w1 := (fun _ => shW S cI cS sv si ++ (pigW B S U Q V K Z2 Z3 g_landed g_fault g_find ++ R))) (u := (1)) hx hb hr hlocks hK hS ((if_neg c_1).trans ((if_neg c_2).trans rfl)) hP hD rfl rfl dX10_isSheet_18
theorem sX10_isSheet_t {u k : Int32} (e : u = sX10_isSheet k) (h : ¬ u = 0) : 0 ≤ k.toInt ∧ k.toInt ≤ 7 := by
  rw [e] at h; unfold sX10_isSheet at h
  split at h
  · exact absurd rfl h
  · rename_i h1
    split at h
    · exact absurd rfl h
    · rename_i h2
      have := i_ltn rfl (show (0 : Int32).toInt = 0 from by decide) h1
      have := i_len (show (8 : Int32).toInt = 8 from by decide) rfl h2
      omega
theorem sX6_holds_t {u a b : Int32} {v : Nat → Int32} (h0 : 0 ≤ (v 3).toInt) (e : u = sX6_holds a b v) (h : ¬ u = 0) : 0 ≤ b.toInt ∧ 0 ≤ a.toInt ∧ a.toInt + b.toInt ≤ (v 3).toInt := by
  rw [e] at h; unfold sX6_holds at h
  split at h
  · exact absurd rfl h
  · rename_i h1
    split at h
    · exact absurd rfl h
    · rename_i h2
      split at h
      · exact absurd rfl h
      · rename_i h3
        have d1 := i_ltn rfl (show (0 : Int32).toInt = 0 from by decide) h1
        have d2 := i_ltn rfl (show (0 : Int32).toInt = 0 from by decide) h2
        have r1 := i_rng (v 3)
        have r2 := i_rng b
        have e3 := i_subv (a := v 3) (b := b) rfl rfl (by omega) (by omega)
        have d3 := i_ltn rfl rfl h3
        rw [e3] at d3
        omega
theorem n_cl {x : Int32} (h : 0 ≤ x.toInt) : (x.toNatClampNeg : Int) = x.toInt := by
  obtain ⟨j, hj, rfl⟩ := nI_of (x := x) (fun q => by have := i_lt rfl (show (0 : Int32).toInt = 0 from by decide) q; omega)
  rw [nI_clamp hj, nI_toInt hj]
theorem n_neg {x : Int32} (h : 0 ≤ x.toInt) : ¬ x < 0 := fun q => by
  have := i_lt rfl (show (0 : Int32).toInt = 0 from by decide) q
  omega
theorem n_sum {x y : Int32} {n : Nat} (hx : 0 ≤ x.toInt) (hy : 0 ≤ y.toInt) (h : x.toInt + y.toInt ≤ (n : Int)) : x.toNatClampNeg + y.toNatClampNeg ≤ n := by
  have h1 := n_cl hx
  have h2 := n_cl hy
  omega
def sX10_sheet (k : Int32) (w : Int32) (nn : Int32) (sv : Nat → Nat → Int32) (si : Nat → Nat → Int32) (g_find : Int32) : Int32 × (Nat → Nat → Int32) × (Nat → Nat → Int32) × (Int32) := lt (sX10_isSheet k) (fun u_1 : Int32 => if u_1 = 0 then (((-1000001), sv, si, g_find)) else (if w < 0 then (((-1000001), sv, si, g_find)) else (if 2 < w then (((-1000001), sv, si, g_find)) else (if nn ≤ 60 then (if 0 ≤ nn then (lt (sX6_begin w nn (sv k.toNatClampNeg) (si k.toNatClampNeg)) (fun u_8 : (Nat → Int32) × (Nat → Int32) => lt (va_up sv k.toNatClampNeg u_8.1) (fun kv_9 : Nat → Nat → Int32 => lt (va_up si k.toNatClampNeg u_8.2) (fun kv_10 : Nat → Nat → Int32 => lt (sX10_foundNone nn) (fun u_11 : Int32 × (Int32) => (u_11.1, kv_9, kv_10, u_11.2)))))) else (lt (sX10_found 4) (fun u_12 : Int32 × (Int32) => (u_12.1, sv, si, u_12.2)))) else (((-1000001), sv, si, g_find))))))
set_option maxHeartbeats 4000000 in
set_option maxRecDepth 100000 in
theorem mtX10_sheet (l : Launch) (D : va_G) (cI cB cK cS : ClassId) (B S U Q V K Z2 Z3 : Nat → Nat) (R : va_W) (sv : Nat → Nat → Int32) (si : Nat → Nat → Int32) (g_landed : Int32) (g_fault : Int32) (g_find : Int32) (k : Int32) (w : Int32) (nn : Int32) : MX l yX10_sheet wsX10_sheet (rmX 3) D (tyX cI cB cK cS) pF0 (shW S cI cS sv si ++ (pigW B S U Q V K Z2 Z3 g_landed g_fault g_find ++ R)) [.ref (B 0), .int k, .int w, .int nn] (sX10_sheet k w nn sv si g_find) (fun u => some (.int u.1)) (fun u => shW S cI cS u.2.1 u.2.2.1 ++ (pigW B S U Q V K Z2 Z3 g_landed g_fault u.2.2.2 ++ R)) := by
  refine mx_intro (cc := cX10_sheet) (maxL := 4) (ret := (some .int)) (by decide) rfl (Nat.le_of_ble_eq_true rfl) ?_
  intro p e s m below meth c A ls H locs Qm hQm hx hb hr hml hts hown hlocks hA hS hP hK hD hF hl
  have hown : s.vm.findClass RX10 = some m.cls := hown
  have hl : lv_has ls 4 [(0, .ref (B 0)), (1, .int k), (2, .int w), (3, .int nn)] := hl
  have k71 := hts (.constant RX10 71 (-1000001)) (by decide +kernel)
  have k11 := hts (.fieldLink RX10 11 "PigRounds" "sheets" "[LPigRounds$Sheet;") (by decide +kernel)
  have iX10 : ∀ w ∈ u_ws RX10 TX10 10, w ∈ wsX10_sheet := by decide +kernel
  refine lv_aload_n hx hb dX10_sheet_0 rfl (lv_at hl 0 rfl) ?_
  refine lv_iload_n hx hb dX10_sheet_1 rfl (lv_at hl 1 rfl) ?_
  refine mx_callV (As := [.int k]) (rest := []) ⟨hx, hb, hml, hown, hts⟩ (mtX10_isSheet l D cI cB cK cS B S U Q V K Z2 Z3 R sv si g_landed g_fault g_find k) (cwV 1 hts gX10_sheet_X10_isSheet rfl rfl rfl (by decide +kernel) ⟨Nat.le_of_ble_eq_true rfl, Nat.le_of_ble_eq_true rfl⟩) pF0_ok trivial hK hP hD hS hA 17 rfl rfl rfl rfl hl.1 rfl (Nat.le_of_ble_eq_true rfl) dX10_sheet_2 ⟨Nat.le_refl _, Nat.le_refl _⟩ (fun u_1 H locs eu_1 hP hD hS => ?_)
  refine W.eq (g2 := F0 m 5 ls [.int u_1]) rfl ?_
  have hP : va_P D vwCl (shW S cI cS sv si ++ (pigW B S U Q V K Z2 Z3 g_landed g_fault g_find ++ R)) H := hP
  have hD : va_D A (shW S cI cS sv si ++ (pigW B S U Q V K Z2 Z3 g_landed g_fault g_find ++ R)) := hD
  refine lv_if_eq (tgt := 23) hx hb dX10_sheet_5 (by decide) (fun c_2 => ?_) (fun c_2 => ?_)
  · have d_2 := i_eq rfl (show (0 : Int32).toInt = 0 from by decide) c_2
    refine lv_ldc (v := (-1000001)) hx hb hown k71 dX10_sheet_23 ?_
    rw [hQm]
    exact mx_iret (u0 := sX10_sheet k w nn sv si g_find) (rv := (fun u => some (.int u.1))) (w1 := (fun u => shW S cI cS u.2.1 u.2.2.1 ++ (pigW B S U Q V K Z2 Z3 g_landed g_fault u.2.2.2 ++ R))) (u := ((-1000001), sv, si, g_find)) hx hb hr hlocks hK hS (lt_eq eu_1 ((if_pos c_2).trans rfl)) hP hD rfl dX10_sheet_25
  · have d_2 := i_eqn rfl (show (0 : Int32).toInt = 0 from by decide) c_2
    have dt_2 := sX10_isSheet_t eu_1 c_2
    refine lv_iload_n hx hb dX10_sheet_8 rfl (lv_at hl 2 rfl) ?_
    refine lv_if_lt (tgt := 23) hx hb dX10_sheet_9 (by decide) (fun c_3 => ?_) (fun c_3 => ?_)
    · have d_3 := i_lt rfl (show (0 : Int32).toInt = 0 from by decide) c_3
      refine lv_ldc (v := (-1000001)) hx hb hown k71 dX10_sheet_23 ?_
      rw [hQm]
      exact mx_iret (u0 := sX10_sheet k w nn sv si g_find) (rv := (fun u => some (.int u.1))) (w1 := (fun u => shW S cI cS u.2.1 u.2.2.1 ++ (pigW B S U Q V K Z2 Z3 g_landed g_fault u.2.2.2 ++ R))) (u := ((-1000001), sv, si, g_find)) hx hb hr hlocks hK hS (lt_eq eu_1 ((if_neg c_2).trans ((if_pos c_3).trans rfl))) hP hD rfl dX10_sheet_25
    · have d_3 := i_ltn rfl (show (0 : Int32).toInt = 0 from by decide) c_3
      refine lv_iload_n hx hb dX10_sheet_12 rfl (lv_at hl 2 rfl) ?_
      refine lv_iconst (v := 2) hx hb dX10_sheet_13 (by decide) ?_
      refine lv_icmp_gt (tgt := 23) hx hb dX10_sheet_14 (by decide) (fun c_4 => ?_) (fun c_4 => ?_)
      · have d_4 := i_lt (show (2 : Int32).toInt = 2 from by decide) rfl c_4
        refine lv_ldc (v := (-1000001)) hx hb hown k71 dX10_sheet_23 ?_
        rw [hQm]
        exact mx_iret (u0 := sX10_sheet k w nn sv si g_find) (rv := (fun u => some (.int u.1))) (w1 := (fun u => shW S cI cS u.2.1 u.2.2.1 ++ (pigW B S U Q V K Z2 Z3 g_landed g_fault u.2.2.2 ++ R))) (u := ((-1000001), sv, si, g_find)) hx hb hr hlocks hK hS (lt_eq eu_1 ((if_neg c_2).trans ((if_neg c_3).trans ((if_pos c_4).trans rfl)))) hP hD rfl dX10_sheet_25
      · have d_4 := i_ltn (show (2 : Int32).toInt = 2 from by decide) rfl c_4
        refine lv_iload_n hx hb dX10_sheet_17 rfl (lv_at hl 3 rfl) ?_
        refine lv_bipush (v := 60) hx hb dX10_sheet_18 (by decide) ?_
        refine lv_icmp_le (tgt := 26) hx hb dX10_sheet_20 (by decide) (fun c_5 => ?_) (fun c_5 => ?_)
        · have d_5 := i_le rfl (show (60 : Int32).toInt = 60 from by decide) c_5
          refine lv_iload_n hx hb dX10_sheet_26 rfl (lv_at hl 3 rfl) ?_
          refine lv_if_ge (tgt := 36) hx hb dX10_sheet_27 (by decide) (fun c_6 => ?_) (fun c_6 => ?_)
          · have d_6 := i_le (show (0 : Int32).toInt = 0 from by decide) rfl c_6
            refine lv_aload_n hx hb dX10_sheet_36 rfl (lv_at hl 0 rfl) ?_
            refine va_get (D := D) (ci := 8) (v := .ref (S 0)) (C := RX10) (T := TX10) (N := 10) hx hb hts iX10 hown hK hP 17 rfl rfl 0 (by decide) k11 (fun _ h9 => h9) rfl dX10_sheet_37 ?_
            refine lv_iload_n hx hb dX10_sheet_40 rfl (lv_at hl 1 rfl) ?_
            have q_7 : vp_in k 8 := vp_in_iff.mpr ⟨by omega, by omega⟩
            refine va_aldq hx hb hK hP 16 3 rfl rfl q_7 dX10_sheet_41 ?_
            refine W.eq (g2 := F0 m 42 ls [.ref (S (1 + k.toNatClampNeg))]) rfl ?_
            have hq_7 : k.toNatClampNeg < 8 := vp_lt q_7
            refine lv_iload_n hx hb dX10_sheet_42 rfl (lv_at hl 2 rfl) ?_
            refine lv_iload_n hx hb dX10_sheet_43 rfl (lv_at hl 3 rfl) ?_
            refine mx_callV (As := [.int w, .int nn]) (rest := []) ⟨hx, hb, hml, hown, hts⟩ (mtX6_begin l D cI cB cK cS (shW S cI cS sv si ++ (pigW B S U Q V K Z2 Z3 g_landed g_fault g_find ++ R)) (S (1 + k.toNatClampNeg)) k.toNatClampNeg (S (9 + k.toNatClampNeg)) (8 + k.toNatClampNeg) (sv k.toNatClampNeg) (si k.toNatClampNeg) w nn (ss_get hq_7) (si_get hq_7) (by omega)) (cwV 2 hts gX10_sheet_X6_begin rfl rfl rfl (by decide +kernel) ⟨Nat.le_of_ble_eq_true rfl, Nat.le_of_ble_eq_true rfl⟩) pF0_ok trivial hK hP hD hS hA k.toNatClampNeg (ss_get hq_7) rfl rfl rfl hl.1 rfl (Nat.le_of_ble_eq_true rfl) dX10_sheet_44 ⟨Nat.le_refl _, Nat.le_refl _⟩ (fun u_8 H locs eu_8 hP hD hS => ?_)
            have hP : va_P D vwCl (((shW S cI cS sv si ++ (pigW B S U Q V K Z2 Z3 g_landed g_fault g_find ++ R)).set k.toNatClampNeg (S (1 + k.toNatClampNeg), .inr (5, sf (S (9 + k.toNatClampNeg)) u_8.1))).set (8 + k.toNatClampNeg) (S (9 + k.toNatClampNeg), .inl (cI, 60, .inl u_8.2))) H := hP
            have hD : va_D A (((shW S cI cS sv si ++ (pigW B S U Q V K Z2 Z3 g_landed g_fault g_find ++ R)).set k.toNatClampNeg (S (1 + k.toNatClampNeg), .inr (5, sf (S (9 + k.toNatClampNeg)) u_8.1))).set (8 + k.toNatClampNeg) (S (9 + k.toNatClampNeg), .inl (cI, 60, .inl u_8.2))) := hD
            rw [ss_set hq_7] at hP hD
            rw [si_set hq_7] at hP hD
            obtain ⟨kv_9, ekv_9⟩ : ∃ z : Nat → Nat → Int32, z = va_up sv k.toNatClampNeg u_8.1 := ⟨_, rfl⟩
            rw [← ekv_9] at hP hD
            obtain ⟨kv_10, ekv_10⟩ : ∃ z : Nat → Nat → Int32, z = va_up si k.toNatClampNeg u_8.2 := ⟨_, rfl⟩
            rw [← ekv_10] at hP hD
            refine W.eq (g2 := F0 m 47 ls []) rfl ?_
            have hP : va_P D vwCl (shW S cI cS kv_9 kv_10 ++ (pigW B S U Q V K Z2 Z3 g_landed g_fault g_find ++ R)) H := hP
            have hD : va_D A (shW S cI cS kv_9 kv_10 ++ (pigW B S U Q V K Z2 Z3 g_landed g_fault g_find ++ R)) := hD
            refine lv_aload_n hx hb dX10_sheet_47 rfl (lv_at hl 0 rfl) ?_
            refine lv_iload_n hx hb dX10_sheet_48 rfl (lv_at hl 3 rfl) ?_
            have hpm : List.Perm (shW S cI cS kv_9 kv_10 ++ (pigW B S U Q V K Z2 Z3 g_landed g_fault g_find ++ R)) (pigW B S U Q V K Z2 Z3 g_landed g_fault g_find ++ (shW S cI cS kv_9 kv_10 ++ R)) := gp_swap
            have hP := gp_P hpm hP
            have hD := gp_D hpm hD
            refine mx_callV (As := [.int nn]) (rest := []) ⟨hx, hb, hml, hown, hts⟩ (mtX10_foundNone l D cI cB cK cS B S U Q V K Z2 Z3 (shW S cI cS kv_9 kv_10 ++ R) g_landed g_fault g_find nn) (cwV 1 hts gX10_sheet_X10_foundNone rfl rfl rfl (by decide +kernel) ⟨Nat.le_of_ble_eq_true rfl, Nat.le_of_ble_eq_true rfl⟩) pF0_ok trivial hK hP hD hS hA 0 rfl rfl rfl rfl hl.1 rfl (Nat.le_of_ble_eq_true rfl) dX10_sheet_49 ⟨Nat.le_refl _, Nat.le_refl _⟩ (fun u_11 H locs eu_11 hP hD hS => ?_)
            refine W.eq (g2 := F0 m 52 ls [.int u_11.1]) rfl ?_
            have hP : va_P D vwCl (pigW B S U Q V K Z2 Z3 g_landed g_fault u_11.2 ++ (shW S cI cS kv_9 kv_10 ++ R)) H := hP
            have hD : va_D A (pigW B S U Q V K Z2 Z3 g_landed g_fault u_11.2 ++ (shW S cI cS kv_9 kv_10 ++ R)) := hD
            have hpm : List.Perm (pigW B S U Q V K Z2 Z3 g_landed g_fault u_11.2 ++ (shW S cI cS kv_9 kv_10 ++ R)) (shW S cI cS kv_9 kv_10 ++ (pigW B S U Q V K Z2 Z3 g_landed g_fault u_11.2 ++ R)) := gp_swap
            have hP := gp_P hpm hP
            have hD := gp_D hpm hD
            rw [hQm]
            exact mx_iret (u0 := sX10_sheet k w nn sv si g_find) (rv := (fun u => some (.int u.1))) (w1 := (fun u => shW S cI cS u.2.1 u.2.2.1 ++ (pigW B S U Q V K Z2 Z3 g_landed g_fault u.2.2.2 ++ R))) (u := (u_11.1, kv_9, kv_10, u_11.2)) hx hb hr hlocks hK hS (lt_eq eu_1 ((if_neg c_2).trans ((if_neg c_3).trans ((if_neg c_4).trans ((if_pos c_5).trans ((if_pos c_6).trans (lt_eq eu_8 (lt_eq ekv_9 (lt_eq ekv_10 (lt_eq eu_11 rfl)))))))))) hP hD rfl dX10_sheet_52
          · have d_6 := i_len (show (0 : Int32).toInt = 0 from by decide) rfl c_6
            refine lv_aload_n hx hb dX10_sheet_30 rfl (lv_at hl 0 rfl) ?_
            refine lv_iconst (v := 4) hx hb dX10_sheet_31 (by decide) ?_
            have hpm : List.Perm (shW S cI cS sv si ++ (pigW B S U Q V K Z2 Z3 g_landed g_fault g_find ++ R)) (pigW B S U Q V K Z2 Z3 g_landed g_fault g_find ++ (shW S cI cS sv si ++ R)) := gp_swap
            have hP := gp_P hpm hP
            have hD := gp_D hpm hD
            refine mx_callV (As := [.int 4]) (rest := []) ⟨hx, hb, hml, hown, hts⟩ (mtX10_found l D cI cB cK cS B S U Q V K Z2 Z3 (shW S cI cS sv si ++ R) g_landed g_fault g_find 4) (cwV 1 hts gX10_sheet_X10_found rfl rfl rfl (by decide +kernel) ⟨Nat.le_of_ble_eq_true rfl, Nat.le_of_ble_eq_true rfl⟩) pF0_ok trivial hK hP hD hS hA 0 rfl rfl rfl rfl hl.1 rfl (Nat.le_of_ble_eq_true rfl) dX10_sheet_32 ⟨Nat.le_refl _, Nat.le_refl _⟩ (fun u_12 H locs eu_12 hP hD hS => ?_)
            refine W.eq (g2 := F0 m 35 ls [.int u_12.1]) rfl ?_
            have hP : va_P D vwCl (pigW B S U Q V K Z2 Z3 g_landed g_fault u_12.2 ++ (shW S cI cS sv si ++ R)) H := hP
            have hD : va_D A (pigW B S U Q V K Z2 Z3 g_landed g_fault u_12.2 ++ (shW S cI cS sv si ++ R)) := hD
            have hpm : List.Perm (pigW B S U Q V K Z2 Z3 g_landed g_fault u_12.2 ++ (shW S cI cS sv si ++ R)) (shW S cI cS sv si ++ (pigW B S U Q V K Z2 Z3 g_landed g_fault u_12.2 ++ R)) := gp_swap
            have hP := gp_P hpm hP
            have hD := gp_D hpm hD
            rw [hQm]
            exact mx_iret (u0 := sX10_sheet k w nn sv si g_find) (rv := (fun u => some (.int u.1))) (w1 := (fun u => shW S cI cS u.2.1 u.2.2.1 ++ (pigW B S U Q V K Z2 Z3 g_landed g_fault u.2.2.2 ++ R))) (u := (u_12.1, sv, si, u_12.2)) hx hb hr hlocks hK hS (lt_eq eu_1 ((if_neg c_2).trans ((if_neg c_3).trans ((if_neg c_4).trans ((if_pos c_5).trans ((if_neg c_6).trans (lt_eq eu_12 rfl))))))) hP hD rfl dX10_sheet_35
        · have d_5 := i_len rfl (show (60 : Int32).toInt = 60 from by decide) c_5
          refine lv_ldc (v := (-1000001)) hx hb hown k71 dX10_sheet_23 ?_
          rw [hQm]
          exact mx_iret (u0 := sX10_sheet k w nn sv si g_find) (rv := (fun u => some (.int u.1))) (w1 := (fun u => shW S cI cS u.2.1 u.2.2.1 ++ (pigW B S U Q V K Z2 Z3 g_landed g_fault u.2.2.2 ++ R))) (u := ((-1000001), sv, si, g_find)) hx hb hr hlocks hK hS (lt_eq eu_1 ((if_neg c_2).trans ((if_neg c_3).trans ((if_neg c_4).trans ((if_neg c_5).trans rfl))))) hP hD rfl dX10_sheet_25

def sX10_set (k : Int32) (j : Int32) (v : Int32) (sv : Nat → Nat → Int32) (si : Nat → Nat → Int32) (g_find : Int32) : Int32 × (Nat → Nat → Int32) × (Int32) := lt (sX10_isSheet k) (fun u_1 : Int32 => if u_1 = 0 then (((-1000001), si, g_find)) else (if ((sv k.toNatClampNeg) 1) = 0 then (lt (sX6_holds j 1 (sv k.toNatClampNeg)) (fun u_5 : Int32 => if u_5 = 0 then (lt (sX10_found 2) (fun u_12 : Int32 × (Int32) => (u_12.1, si, u_12.2))) else (lt (sX6_cutToLane v (sv k.toNatClampNeg)) (fun u_7 : Int32 => lt (va_up si k.toNatClampNeg (upd (si k.toNatClampNeg) j.toNatClampNeg u_7)) (fun kv_9 : Nat → Nat → Int32 => lt (sX10_foundNone ((kv_9 k.toNatClampNeg) j.toNatClampNeg)) (fun u_11 : Int32 × (Int32) => (u_11.1, kv_9, u_11.2))))))) else (lt (sX10_found 1) (fun u_13 : Int32 × (Int32) => (u_13.1, si, u_13.2)))))
set_option maxHeartbeats 4000000 in
set_option maxRecDepth 100000 in
theorem mtX10_set (l : Launch) (D : va_G) (cI cB cK cS : ClassId) (B S U Q V K Z2 Z3 : Nat → Nat) (R : va_W) (sv : Nat → Nat → Int32) (si : Nat → Nat → Int32) (g_landed : Int32) (g_fault : Int32) (g_find : Int32) (k : Int32) (j : Int32) (v : Int32) (hsz : ∀ j, j < 8 → 0 ≤ (sv j 3).toInt ∧ (sv j 3).toInt ≤ 60) : MX l yX10_set wsX10_set (rmX 2) D (tyX cI cB cK cS) pF0 (shW S cI cS sv si ++ (pigW B S U Q V K Z2 Z3 g_landed g_fault g_find ++ R)) [.ref (B 0), .int k, .int j, .int v] (sX10_set k j v sv si g_find) (fun u => some (.int u.1)) (fun u => shW S cI cS sv u.2.1 ++ (pigW B S U Q V K Z2 Z3 g_landed g_fault u.2.2 ++ R)) := by
  refine mx_intro (cc := cX10_set) (maxL := 5) (ret := (some .int)) (by decide) rfl (Nat.le_of_ble_eq_true rfl) ?_
  intro p e s m below meth c A ls H locs Qm hQm hx hb hr hml hts hown hlocks hA hS hP hK hD hF hl
  have hown : s.vm.findClass RX10 = some m.cls := hown
  have hl : lv_has ls 5 [(0, .ref (B 0)), (1, .int k), (2, .int j), (3, .int v)] := hl
  have h1i : (1 : Int32).toInt = 1 := by decide
  have k11 := hts (.fieldLink RX10 11 "PigRounds" "sheets" "[LPigRounds$Sheet;") (by decide +kernel)
  have k83 := hts (.fieldLink RX10 83 "PigRounds$Sheet" "missing" "Z") (by decide +kernel)
  have k90 := hts (.fieldLink RX10 90 "PigRounds$Sheet" "items" "[I") (by decide +kernel)
  have k71 := hts (.constant RX10 71 (-1000001)) (by decide +kernel)
  have iX10 : ∀ w ∈ u_ws RX10 TX10 10, w ∈ wsX10_set := by decide +kernel
  have iX6 : ∀ w ∈ u_ws RX6 TX6 4, w ∈ wsX10_set := by decide +kernel
  refine lv_aload_n hx hb dX10_set_0 rfl (lv_at hl 0 rfl) ?_
  refine lv_iload_n hx hb dX10_set_1 rfl (lv_at hl 1 rfl) ?_
  refine mx_callV (As := [.int k]) (rest := []) ⟨hx, hb, hml, hown, hts⟩ (mtX10_isSheet l D cI cB cK cS B S U Q V K Z2 Z3 R sv si g_landed g_fault g_find k) (cwV 1 hts gX10_set_X10_isSheet rfl rfl rfl (by decide +kernel) ⟨Nat.le_of_ble_eq_true rfl, Nat.le_of_ble_eq_true rfl⟩) pF0_ok trivial hK hP hD hS hA 17 rfl rfl rfl rfl hl.1 rfl (Nat.le_of_ble_eq_true rfl) dX10_set_2 ⟨Nat.le_refl _, Nat.le_refl _⟩ (fun u_1 H locs eu_1 hP hD hS => ?_)
  refine W.eq (g2 := F0 m 5 ls [.int u_1]) rfl ?_
  have hP : va_P D vwCl (shW S cI cS sv si ++ (pigW B S U Q V K Z2 Z3 g_landed g_fault g_find ++ R)) H := hP
  have hD : va_D A (shW S cI cS sv si ++ (pigW B S U Q V K Z2 Z3 g_landed g_fault g_find ++ R)) := hD
  refine lv_if_ne (tgt := 11) hx hb dX10_set_5 (by decide) (fun c_2 => ?_) (fun c_2 => ?_)
  · have d_2 := i_eqn rfl (show (0 : Int32).toInt = 0 from by decide) c_2
    have dt_2 := sX10_isSheet_t eu_1 c_2
    refine lv_aload_n hx hb dX10_set_11 rfl (lv_at hl 0 rfl) ?_
    refine va_get (D := D) (ci := 8) (v := .ref (S 0)) (C := RX10) (T := TX10) (N := 10) hx hb hts iX10 hown hK hP 17 rfl rfl 0 (by decide) k11 (fun _ h9 => h9) rfl dX10_set_12 ?_
    refine lv_iload_n hx hb dX10_set_15 rfl (lv_at hl 1 rfl) ?_
    have q_3 : vp_in k 8 := vp_in_iff.mpr ⟨by omega, by omega⟩
    refine va_aldq hx hb hK hP 16 3 rfl rfl q_3 dX10_set_16 ?_
    refine W.eq (g2 := F0 m 17 ls [.ref (S (1 + k.toNatClampNeg))]) rfl ?_
    have hq_3 : k.toNatClampNeg < 8 := vp_lt q_3
    refine lv_astore (lv' := [(4, .ref (S (1 + k.toNatClampNeg))), (0, .ref (B 0)), (1, .int k), (2, .int j), (3, .int v)]) hx hb dX10_set_17 hl (by decide) rfl (fun ls hl => ?_)
    have hs_k := hsz k.toNatClampNeg (vp_lt (vp_in_iff.mpr ⟨by omega, by omega⟩))
    refine lv_aload hx hb dX10_set_19 (lv_at hl 0 rfl) ?_
    refine va_get (D := D) (ci := 5) (v := .int ((sv k.toNatClampNeg) 1)) (C := RX6) (T := TX6) (N := 4) hx hb hts iX6 hown hK hP k.toNatClampNeg (ss_get hq_3) rfl 1 (by decide) k83 (fun _ h9 => h9) rfl dX10_set_21 ?_
    refine lv_if_eq (tgt := 33) hx hb dX10_set_24 (by decide) (fun c_4 => ?_) (fun c_4 => ?_)
    · have d_4 := i_eq rfl (show (0 : Int32).toInt = 0 from by decide) c_4
      refine lv_aload hx hb dX10_set_33 (lv_at hl 0 rfl) ?_
      refine lv_iload_n hx hb dX10_set_35 rfl (lv_at hl 3 rfl) ?_
      refine lv_iconst (v := 1) hx hb dX10_set_36 (by decide) ?_
      refine mx_callV (As := [.int j, .int 1]) (rest := []) ⟨hx, hb, hml, hown, hts⟩ (mtX6_holds l D cI cB cK cS (shW S cI cS sv si ++ (pigW B S U Q V K Z2 Z3 g_landed g_fault g_find ++ R)) (S (1 + k.toNatClampNeg)) k.toNatClampNeg (S (9 + k.toNatClampNeg)) (sv k.toNatClampNeg) j 1 (ss_get hq_3)) (cwV 2 hts gX10_set_X6_holds rfl rfl rfl (by decide +kernel) ⟨Nat.le_of_ble_eq_true rfl, Nat.le_of_ble_eq_true rfl⟩) pF0_ok trivial hK hP hD hS hA k.toNatClampNeg (ss_get hq_3) rfl rfl rfl hl.1 rfl (Nat.le_of_ble_eq_true rfl) dX10_set_37 ⟨Nat.le_refl _, Nat.le_refl _⟩ (fun u_5 H locs eu_5 hP hD hS => ?_)
      refine W.eq (g2 := F0 m 40 ls [.int u_5]) rfl ?_
      have hP : va_P D vwCl (shW S cI cS sv si ++ (pigW B S U Q V K Z2 Z3 g_landed g_fault g_find ++ R)) H := hP
      have hD : va_D A (shW S cI cS sv si ++ (pigW B S U Q V K Z2 Z3 g_landed g_fault g_find ++ R)) := hD
      refine lv_if_ne (tgt := 49) hx hb dX10_set_40 (by decide) (fun c_6 => ?_) (fun c_6 => ?_)
      · have d_6 := i_eqn rfl (show (0 : Int32).toInt = 0 from by decide) c_6
        have dt_6 := sX6_holds_t (hsz _ (by first | assumption | omega)).1 eu_5 c_6
        refine lv_aload hx hb dX10_set_49 (lv_at hl 0 rfl) ?_
        refine va_get (D := D) (ci := 5) (v := .ref (S (9 + k.toNatClampNeg))) (C := RX6) (T := TX6) (N := 4) hx hb hts iX6 hown hK hP k.toNatClampNeg (ss_get hq_3) rfl 0 (by decide) k90 (fun _ h9 => h9) rfl dX10_set_51 ?_
        refine lv_iload_n hx hb dX10_set_54 rfl (lv_at hl 3 rfl) ?_
        refine lv_aload hx hb dX10_set_55 (lv_at hl 0 rfl) ?_
        refine lv_iload_n hx hb dX10_set_57 rfl (lv_at hl 4 rfl) ?_
        refine mx_callV (As := [.int v]) (rest := [.int j, .ref (S (9 + k.toNatClampNeg))]) ⟨hx, hb, hml, hown, hts⟩ (mtX6_cutToLane l D cI cB cK cS (shW S cI cS sv si ++ (pigW B S U Q V K Z2 Z3 g_landed g_fault g_find ++ R)) (S (1 + k.toNatClampNeg)) k.toNatClampNeg (S (9 + k.toNatClampNeg)) (sv k.toNatClampNeg) v (ss_get hq_3)) (cwV 1 hts gX10_set_X6_cutToLane rfl rfl rfl (by decide +kernel) ⟨Nat.le_of_ble_eq_true rfl, Nat.le_of_ble_eq_true rfl⟩) pF0_ok trivial hK hP hD hS hA k.toNatClampNeg (ss_get hq_3) rfl rfl rfl hl.1 rfl (Nat.le_of_ble_eq_true rfl) dX10_set_58 ⟨Nat.le_refl _, Nat.le_refl _⟩ (fun u_7 H locs eu_7 hP hD hS => ?_)
        refine W.eq (g2 := F0 m 61 ls [.int u_7, .int j, .ref (S (9 + k.toNatClampNeg))]) rfl ?_
        have hP : va_P D vwCl (shW S cI cS sv si ++ (pigW B S U Q V K Z2 Z3 g_landed g_fault g_find ++ R)) H := hP
        have hD : va_D A (shW S cI cS sv si ++ (pigW B S U Q V K Z2 Z3 g_landed g_fault g_find ++ R)) := hD
        have q_8 : vp_in j 60 := vp_in_iff.mpr ⟨by omega, by omega⟩
        refine va_iast hx hb hK hP hD hS (8 + k.toNatClampNeg) 0 (si_get hq_3) rfl q_8 dX10_set_61 (fun H locs hP hD hS => ?_)
        have hP : va_P D vwCl ((shW S cI cS sv si ++ (pigW B S U Q V K Z2 Z3 g_landed g_fault g_find ++ R)).set (8 + k.toNatClampNeg) (S (9 + k.toNatClampNeg), .inl (cI, 60, .inl (upd (si k.toNatClampNeg) j.toNatClampNeg u_7)))) H := hP
        rw [si_set hq_3] at hP
        have hD : va_D A ((shW S cI cS sv si ++ (pigW B S U Q V K Z2 Z3 g_landed g_fault g_find ++ R)).set (8 + k.toNatClampNeg) (S (9 + k.toNatClampNeg), .inl (cI, 60, .inl (upd (si k.toNatClampNeg) j.toNatClampNeg u_7)))) := hD
        rw [si_set hq_3] at hD
        obtain ⟨kv_9, ekv_9⟩ : ∃ z : Nat → Nat → Int32, z = va_up si k.toNatClampNeg (upd (si k.toNatClampNeg) j.toNatClampNeg u_7) := ⟨_, rfl⟩
        rw [← ekv_9] at hP hD
        have hP : va_P D vwCl (shW S cI cS sv kv_9 ++ (pigW B S U Q V K Z2 Z3 g_landed g_fault g_find ++ R)) H := hP
        have hD : va_D A (shW S cI cS sv kv_9 ++ (pigW B S U Q V K Z2 Z3 g_landed g_fault g_find ++ R)) := hD
        refine lv_aload_n hx hb dX10_set_62 rfl (lv_at hl 1 rfl) ?_
        refine lv_aload hx hb dX10_set_63 (lv_at hl 0 rfl) ?_
        refine va_get (D := D) (ci := 5) (v := .ref (S (9 + k.toNatClampNeg))) (C := RX6) (T := TX6) (N := 4) hx hb hts iX6 hown hK hP k.toNatClampNeg (ss_get hq_3) rfl 0 (by decide) k90 (fun _ h9 => h9) rfl dX10_set_65 ?_
        refine lv_iload_n hx hb dX10_set_68 rfl (lv_at hl 3 rfl) ?_
        have q_10 : vp_in j 60 := vp_in_iff.mpr ⟨by omega, by omega⟩
        refine va_iald hx hb hK hP (8 + k.toNatClampNeg) 0 (si_get hq_3) rfl q_10 dX10_set_69 ?_
        have hpm : List.Perm (shW S cI cS sv kv_9 ++ (pigW B S U Q V K Z2 Z3 g_landed g_fault g_find ++ R)) (pigW B S U Q V K Z2 Z3 g_landed g_fault g_find ++ (shW S cI cS sv kv_9 ++ R)) := gp_swap
        have hP := gp_P hpm hP
        have hD := gp_D hpm hD
        refine mx_callV (As := [.int ((kv_9 k.toNatClampNeg) j.toNatClampNeg)]) (rest := []) ⟨hx, hb, hml, hown, hts⟩ (mtX10_foundNone l D cI cB cK cS B S U Q V K Z2 Z3 (shW S cI cS sv kv_9 ++ R) g_landed g_fault g_find ((kv_9 k.toNatClampNeg) j.toNatClampNeg)) (cwV 1 hts gX10_set_X10_foundNone rfl rfl rfl (by decide +kernel) ⟨Nat.le_of_ble_eq_true rfl, Nat.le_of_ble_eq_true rfl⟩) pF0_ok trivial hK hP hD hS hA 0 rfl rfl rfl rfl hl.1 rfl (Nat.le_of_ble_eq_true rfl) dX10_set_70 ⟨Nat.le_refl _, Nat.le_refl _⟩ (fun u_11 H locs eu_11 hP hD hS => ?_)
        refine W.eq (g2 := F0 m 73 ls [.int u_11.1]) rfl ?_
        have hP : va_P D vwCl (pigW B S U Q V K Z2 Z3 g_landed g_fault u_11.2 ++ (shW S cI cS sv kv_9 ++ R)) H := hP
        have hD : va_D A (pigW B S U Q V K Z2 Z3 g_landed g_fault u_11.2 ++ (shW S cI cS sv kv_9 ++ R)) := hD
        have hpm : List.Perm (pigW B S U Q V K Z2 Z3 g_landed g_fault u_11.2 ++ (shW S cI cS sv kv_9 ++ R)) (shW S cI cS sv kv_9 ++ (pigW B S U Q V K Z2 Z3 g_landed g_fault u_11.2 ++ R)) := gp_swap
        have hP := gp_P hpm hP
        have hD := gp_D hpm hD
        rw [hQm]
        exact mx_iret (u0 := sX10_set k j v sv si g_find) (rv := (fun u => some (.int u.1))) (w1 := (fun u => shW S cI cS sv u.2.1 ++ (pigW B S U Q V K Z2 Z3 g_landed g_fault u.2.2 ++ R))) (u := (u_11.1, kv_9, u_11.2)) hx hb hr hlocks hK hS (lt_eq eu_1 ((if_neg c_2).trans ((if_pos c_4).trans (lt_eq eu_5 ((if_neg c_6).trans (lt_eq eu_7 (lt_eq ekv_9 (lt_eq eu_11 rfl)))))))) hP hD rfl dX10_set_73
      · have d_6 := i_eq rfl (show (0 : Int32).toInt = 0 from by decide) c_6
        refine lv_aload_n hx hb dX10_set_43 rfl (lv_at hl 1 rfl) ?_
        refine lv_iconst (v := 2) hx hb dX10_set_44 (by decide) ?_
        have hpm : List.Perm (shW S cI cS sv si ++ (pigW B S U Q V K Z2 Z3 g_landed g_fault g_find ++ R)) (pigW B S U Q V K Z2 Z3 g_landed g_fault g_find ++ (shW S cI cS sv si ++ R)) := gp_swap
        have hP := gp_P hpm hP
        have hD := gp_D hpm hD
        refine mx_callV (As := [.int 2]) (rest := []) ⟨hx, hb, hml, hown, hts⟩ (mtX10_found l D cI cB cK cS B S U Q V K Z2 Z3 (shW S cI cS sv si ++ R) g_landed g_fault g_find 2) (cwV 1 hts gX10_set_X10_found rfl rfl rfl (by decide +kernel) ⟨Nat.le_of_ble_eq_true rfl, Nat.le_of_ble_eq_true rfl⟩) pF0_ok trivial hK hP hD hS hA 0 rfl rfl rfl rfl hl.1 rfl (Nat.le_of_ble_eq_true rfl) dX10_set_45 ⟨Nat.le_refl _, Nat.le_refl _⟩ (fun u_12 H locs eu_12 hP hD hS => ?_)
        refine W.eq (g2 := F0 m 48 ls [.int u_12.1]) rfl ?_
        have hP : va_P D vwCl (pigW B S U Q V K Z2 Z3 g_landed g_fault u_12.2 ++ (shW S cI cS sv si ++ R)) H := hP
        have hD : va_D A (pigW B S U Q V K Z2 Z3 g_landed g_fault u_12.2 ++ (shW S cI cS sv si ++ R)) := hD
        have hpm : List.Perm (pigW B S U Q V K Z2 Z3 g_landed g_fault u_12.2 ++ (shW S cI cS sv si ++ R)) (shW S cI cS sv si ++ (pigW B S U Q V K Z2 Z3 g_landed g_fault u_12.2 ++ R)) := gp_swap
        have hP := gp_P hpm hP
        have hD := gp_D hpm hD
        rw [hQm]
        exact mx_iret (u0 := sX10_set k j v sv si g_find) (rv := (fun u => some (.int u.1))) (w1 := (fun u => shW S cI cS sv u.2.1 ++ (pigW B S U Q V K Z2 Z3 g_landed g_fault u.2.2 ++ R))) (u := (u_12.1, si, u_12.2)) hx hb hr hlocks hK hS (lt_eq eu_1 ((if_neg c_2).trans ((if_pos c_4).trans (lt_eq eu_5 ((if_pos c_6).trans (lt_eq eu_12 rfl)))))) hP hD rfl dX10_set_48
    · have d_4 := i_eqn rfl (show (0 : Int32).toInt = 0 from by decide) c_4
      refine lv_aload_n hx hb dX10_set_27 rfl (lv_at hl 1 rfl) ?_
      refine lv_iconst (v := 1) hx hb dX10_set_28 (by decide) ?_
      have hpm : List.Perm (shW S cI cS sv si ++ (pigW B S U Q V K Z2 Z3 g_landed g_fault g_find ++ R)) (pigW B S U Q V K Z2 Z3 g_landed g_fault g_find ++ (shW S cI cS sv si ++ R)) := gp_swap
      have hP := gp_P hpm hP
      have hD := gp_D hpm hD
      refine mx_callV (As := [.int 1]) (rest := []) ⟨hx, hb, hml, hown, hts⟩ (mtX10_found l D cI cB cK cS B S U Q V K Z2 Z3 (shW S cI cS sv si ++ R) g_landed g_fault g_find 1) (cwV 1 hts gX10_set_X10_found rfl rfl rfl (by decide +kernel) ⟨Nat.le_of_ble_eq_true rfl, Nat.le_of_ble_eq_true rfl⟩) pF0_ok trivial hK hP hD hS hA 0 rfl rfl rfl rfl hl.1 rfl (Nat.le_of_ble_eq_true rfl) dX10_set_29 ⟨Nat.le_refl _, Nat.le_refl _⟩ (fun u_13 H locs eu_13 hP hD hS => ?_)
      refine W.eq (g2 := F0 m 32 ls [.int u_13.1]) rfl ?_
      have hP : va_P D vwCl (pigW B S U Q V K Z2 Z3 g_landed g_fault u_13.2 ++ (shW S cI cS sv si ++ R)) H := hP
      have hD : va_D A (pigW B S U Q V K Z2 Z3 g_landed g_fault u_13.2 ++ (shW S cI cS sv si ++ R)) := hD
      have hpm : List.Perm (pigW B S U Q V K Z2 Z3 g_landed g_fault u_13.2 ++ (shW S cI cS sv si ++ R)) (shW S cI cS sv si ++ (pigW B S U Q V K Z2 Z3 g_landed g_fault u_13.2 ++ R)) := gp_swap
      have hP := gp_P hpm hP
      have hD := gp_D hpm hD
      rw [hQm]
      exact mx_iret (u0 := sX10_set k j v sv si g_find) (rv := (fun u => some (.int u.1))) (w1 := (fun u => shW S cI cS sv u.2.1 ++ (pigW B S U Q V K Z2 Z3 g_landed g_fault u.2.2 ++ R))) (u := (u_13.1, si, u_13.2)) hx hb hr hlocks hK hS (lt_eq eu_1 ((if_neg c_2).trans ((if_neg c_4).trans (lt_eq eu_13 rfl)))) hP hD rfl dX10_set_32
  · have d_2 := i_eq rfl (show (0 : Int32).toInt = 0 from by decide) c_2
    refine lv_ldc (v := (-1000001)) hx hb hown k71 dX10_set_8 ?_
    rw [hQm]
    exact mx_iret (u0 := sX10_set k j v sv si g_find) (rv := (fun u => some (.int u.1))) (w1 := (fun u => shW S cI cS sv u.2.1 ++ (pigW B S U Q V K Z2 Z3 g_landed g_fault u.2.2 ++ R))) (u := ((-1000001), si, g_find)) hx hb hr hlocks hK hS (lt_eq eu_1 ((if_pos c_2).trans rfl)) hP hD rfl dX10_set_10

def sX10_drop (k : Int32) (sv : Nat → Nat → Int32) (g_find : Int32) : Int32 × (Nat → Nat → Int32) × (Int32) := lt (sX10_isSheet k) (fun u_1 : Int32 => if u_1 = 0 then (((-1000001), sv, g_find)) else (if ((sv k.toNatClampNeg) 1) = 0 then (lt (va_up sv k.toNatClampNeg (upd (sv k.toNatClampNeg) 1 1)) (fun kv_6 : Nat → Nat → Int32 => lt (sX10_foundNone ((kv_6 k.toNatClampNeg) 3)) (fun u_8 : Int32 × (Int32) => (u_8.1, kv_6, u_8.2)))) else (lt (sX10_found 1) (fun u_9 : Int32 × (Int32) => (u_9.1, sv, u_9.2)))))
set_option maxHeartbeats 4000000 in
set_option maxRecDepth 100000 in
theorem mtX10_drop (l : Launch) (D : va_G) (cI cB cK cS : ClassId) (B S U Q V K Z2 Z3 : Nat → Nat) (R : va_W) (sv : Nat → Nat → Int32) (si : Nat → Nat → Int32) (g_landed : Int32) (g_fault : Int32) (g_find : Int32) (k : Int32) : MX l yX10_drop wsX10_drop (rmX 2) D (tyX cI cB cK cS) pF0 (shW S cI cS sv si ++ (pigW B S U Q V K Z2 Z3 g_landed g_fault g_find ++ R)) [.ref (B 0), .int k] (sX10_drop k sv g_find) (fun u => some (.int u.1)) (fun u => shW S cI cS u.2.1 si ++ (pigW B S U Q V K Z2 Z3 g_landed g_fault u.2.2 ++ R)) := by
  refine mx_intro (cc := cX10_drop) (maxL := 2) (ret := (some .int)) (by decide) rfl (Nat.le_of_ble_eq_true rfl) ?_
  intro p e s m below meth c A ls H locs Qm hQm hx hb hr hml hts hown hlocks hA hS hP hK hD hF hl
  have hown : s.vm.findClass RX10 = some m.cls := hown
  have hl : lv_has ls 2 [(0, .ref (B 0)), (1, .int k)] := hl
  have k11 := hts (.fieldLink RX10 11 "PigRounds" "sheets" "[LPigRounds$Sheet;") (by decide +kernel)
  have k83 := hts (.fieldLink RX10 83 "PigRounds$Sheet" "missing" "Z") (by decide +kernel)
  have k106 := hts (.fieldLink RX10 106 "PigRounds$Sheet" "size" "I") (by decide +kernel)
  have k71 := hts (.constant RX10 71 (-1000001)) (by decide +kernel)
  have iX10 : ∀ w ∈ u_ws RX10 TX10 10, w ∈ wsX10_drop := by decide +kernel
  have iX6 : ∀ w ∈ u_ws RX6 TX6 4, w ∈ wsX10_drop := by decide +kernel
  refine lv_aload_n hx hb dX10_drop_0 rfl (lv_at hl 0 rfl) ?_
  refine lv_iload_n hx hb dX10_drop_1 rfl (lv_at hl 1 rfl) ?_
  refine mx_callV (As := [.int k]) (rest := []) ⟨hx, hb, hml, hown, hts⟩ (mtX10_isSheet l D cI cB cK cS B S U Q V K Z2 Z3 R sv si g_landed g_fault g_find k) (cwV 1 hts gX10_drop_X10_isSheet rfl rfl rfl (by decide +kernel) ⟨Nat.le_of_ble_eq_true rfl, Nat.le_of_ble_eq_true rfl⟩) pF0_ok trivial hK hP hD hS hA 17 rfl rfl rfl rfl hl.1 rfl (Nat.le_of_ble_eq_true rfl) dX10_drop_2 ⟨Nat.le_refl _, Nat.le_refl _⟩ (fun u_1 H locs eu_1 hP hD hS => ?_)
  refine W.eq (g2 := F0 m 5 ls [.int u_1]) rfl ?_
  have hP : va_P D vwCl (shW S cI cS sv si ++ (pigW B S U Q V K Z2 Z3 g_landed g_fault g_find ++ R)) H := hP
  have hD : va_D A (shW S cI cS sv si ++ (pigW B S U Q V K Z2 Z3 g_landed g_fault g_find ++ R)) := hD
  refine lv_if_ne (tgt := 11) hx hb dX10_drop_5 (by decide) (fun c_2 => ?_) (fun c_2 => ?_)
  · have d_2 := i_eqn rfl (show (0 : Int32).toInt = 0 from by decide) c_2
    have dt_2 := sX10_isSheet_t eu_1 c_2
    refine lv_aload_n hx hb dX10_drop_11 rfl (lv_at hl 0 rfl) ?_
    refine va_get (D := D) (ci := 8) (v := .ref (S 0)) (C := RX10) (T := TX10) (N := 10) hx hb hts iX10 hown hK hP 17 rfl rfl 0 (by decide) k11 (fun _ h9 => h9) rfl dX10_drop_12 ?_
    refine lv_iload_n hx hb dX10_drop_15 rfl (lv_at hl 1 rfl) ?_
    have q_3 : vp_in k 8 := vp_in_iff.mpr ⟨by omega, by omega⟩
    refine va_aldq hx hb hK hP 16 3 rfl rfl q_3 dX10_drop_16 ?_
    refine W.eq (g2 := F0 m 17 ls [.ref (S (1 + k.toNatClampNeg))]) rfl ?_
    have hq_3 : k.toNatClampNeg < 8 := vp_lt q_3
    refine va_get (D := D) (ci := 5) (v := .int ((sv k.toNatClampNeg) 1)) (C := RX6) (T := TX6) (N := 4) hx hb hts iX6 hown hK hP k.toNatClampNeg (ss_get hq_3) rfl 1 (by decide) k83 (fun _ h9 => h9) rfl dX10_drop_17 ?_
    refine lv_if_eq (tgt := 29) hx hb dX10_drop_20 (by decide) (fun c_4 => ?_) (fun c_4 => ?_)
    · have d_4 := i_eq rfl (show (0 : Int32).toInt = 0 from by decide) c_4
      refine lv_aload_n hx hb dX10_drop_29 rfl (lv_at hl 0 rfl) ?_
      refine va_get (D := D) (ci := 8) (v := .ref (S 0)) (C := RX10) (T := TX10) (N := 10) hx hb hts iX10 hown hK hP 17 rfl rfl 0 (by decide) k11 (fun _ h9 => h9) rfl dX10_drop_30 ?_
      refine lv_iload_n hx hb dX10_drop_33 rfl (lv_at hl 1 rfl) ?_
      have q_5 : vp_in k 8 := vp_in_iff.mpr ⟨by omega, by omega⟩
      refine va_aldq hx hb hK hP 16 3 rfl rfl q_5 dX10_drop_34 ?_
      refine W.eq (g2 := F0 m 35 ls [.ref (S (1 + k.toNatClampNeg))]) rfl ?_
      have hq_5 : k.toNatClampNeg < 8 := vp_lt q_5
      refine lv_iconst (v := 1) hx hb dX10_drop_35 (by decide) ?_
      refine va_put (D := D) (ci := 5) (v := .int 1) (ty := .boolean) (C := RX6) (T := TX6) (N := 4) hx hb hts iX6 tyX6 tyX6_ok nmX6 hown hK hP hD hS k.toNatClampNeg (ss_get hq_5) rfl 1 (by decide) k83 (fun _ h9 => h9) rfl (by decide +kernel) rfl rfl (Nat.le_of_ble_eq_true rfl) dX10_drop_36 (fun H locs hP hD hS => ?_)
      have hP : va_P D vwCl ((shW S cI cS sv si ++ (pigW B S U Q V K Z2 Z3 g_landed g_fault g_find ++ R)).set k.toNatClampNeg (S (1 + k.toNatClampNeg), .inr (5, sf (S (9 + k.toNatClampNeg)) (upd (sv k.toNatClampNeg) 1 1)))) H := hP
      rw [ss_set hq_5] at hP
      have hD : va_D A ((shW S cI cS sv si ++ (pigW B S U Q V K Z2 Z3 g_landed g_fault g_find ++ R)).set k.toNatClampNeg (S (1 + k.toNatClampNeg), .inr (5, sf (S (9 + k.toNatClampNeg)) (upd (sv k.toNatClampNeg) 1 1)))) := hD
      rw [ss_set hq_5] at hD
      obtain ⟨kv_6, ekv_6⟩ : ∃ z : Nat → Nat → Int32, z = va_up sv k.toNatClampNeg (upd (sv k.toNatClampNeg) 1 1) := ⟨_, rfl⟩
      rw [← ekv_6] at hP hD
      have hP : va_P D vwCl (shW S cI cS kv_6 si ++ (pigW B S U Q V K Z2 Z3 g_landed g_fault g_find ++ R)) H := hP
      have hD : va_D A (shW S cI cS kv_6 si ++ (pigW B S U Q V K Z2 Z3 g_landed g_fault g_find ++ R)) := hD
      refine lv_aload_n hx hb dX10_drop_39 rfl (lv_at hl 0 rfl) ?_
      refine lv_aload_n hx hb dX10_drop_40 rfl (lv_at hl 0 rfl) ?_
      refine va_get (D := D) (ci := 8) (v := .ref (S 0)) (C := RX10) (T := TX10) (N := 10) hx hb hts iX10 hown hK hP 17 rfl rfl 0 (by decide) k11 (fun _ h9 => h9) rfl dX10_drop_41 ?_
      refine lv_iload_n hx hb dX10_drop_44 rfl (lv_at hl 1 rfl) ?_
      have q_7 : vp_in k 8 := vp_in_iff.mpr ⟨by omega, by omega⟩
      refine va_aldq hx hb hK hP 16 3 rfl rfl q_7 dX10_drop_45 ?_
      refine W.eq (g2 := F0 m 46 ls [.ref (S (1 + k.toNatClampNeg)), .ref (B 0)]) rfl ?_
      have hq_7 : k.toNatClampNeg < 8 := vp_lt q_7
      refine va_get (D := D) (ci := 5) (v := .int ((kv_6 k.toNatClampNeg) 3)) (C := RX6) (T := TX6) (N := 4) hx hb hts iX6 hown hK hP k.toNatClampNeg (ss_get hq_7) rfl 3 (by decide) k106 (fun _ h9 => h9) rfl dX10_drop_46 ?_
      have hpm : List.Perm (shW S cI cS kv_6 si ++ (pigW B S U Q V K Z2 Z3 g_landed g_fault g_find ++ R)) (pigW B S U Q V K Z2 Z3 g_landed g_fault g_find ++ (shW S cI cS kv_6 si ++ R)) := gp_swap
      have hP := gp_P hpm hP
      have hD := gp_D hpm hD
      refine mx_callV (As := [.int ((kv_6 k.toNatClampNeg) 3)]) (rest := []) ⟨hx, hb, hml, hown, hts⟩ (mtX10_foundNone l D cI cB cK cS B S U Q V K Z2 Z3 (shW S cI cS kv_6 si ++ R) g_landed g_fault g_find ((kv_6 k.toNatClampNeg) 3)) (cwV 1 hts gX10_drop_X10_foundNone rfl rfl rfl (by decide +kernel) ⟨Nat.le_of_ble_eq_true rfl, Nat.le_of_ble_eq_true rfl⟩) pF0_ok trivial hK hP hD hS hA 0 rfl rfl rfl rfl hl.1 rfl (Nat.le_of_ble_eq_true rfl) dX10_drop_49 ⟨Nat.le_refl _, Nat.le_refl _⟩ (fun u_8 H locs eu_8 hP hD hS => ?_)
      refine W.eq (g2 := F0 m 52 ls [.int u_8.1]) rfl ?_
      have hP : va_P D vwCl (pigW B S U Q V K Z2 Z3 g_landed g_fault u_8.2 ++ (shW S cI cS kv_6 si ++ R)) H := hP
      have hD : va_D A (pigW B S U Q V K Z2 Z3 g_landed g_fault u_8.2 ++ (shW S cI cS kv_6 si ++ R)) := hD
      have hpm : List.Perm (pigW B S U Q V K Z2 Z3 g_landed g_fault u_8.2 ++ (shW S cI cS kv_6 si ++ R)) (shW S cI cS kv_6 si ++ (pigW B S U Q V K Z2 Z3 g_landed g_fault u_8.2 ++ R)) := gp_swap
      have hP := gp_P hpm hP
      have hD := gp_D hpm hD
      rw [hQm]
      exact mx_iret (u0 := sX10_drop k sv g_find) (rv := (fun u => some (.int u.1))) (w1 := (fun u => shW S cI cS u.2.1 si ++ (pigW B S U Q V K Z2 Z3 g_landed g_fault u.2.2 ++ R))) (u := (u_8.1, kv_6, u_8.2)) hx hb hr hlocks hK hS (lt_eq eu_1 ((if_neg c_2).trans ((if_pos c_4).trans (lt_eq ekv_6 (lt_eq eu_8 rfl))))) hP hD rfl dX10_drop_52
    · have d_4 := i_eqn rfl (show (0 : Int32).toInt = 0 from by decide) c_4
      refine lv_aload_n hx hb dX10_drop_23 rfl (lv_at hl 0 rfl) ?_
      refine lv_iconst (v := 1) hx hb dX10_drop_24 (by decide) ?_
      have hpm : List.Perm (shW S cI cS sv si ++ (pigW B S U Q V K Z2 Z3 g_landed g_fault g_find ++ R)) (pigW B S U Q V K Z2 Z3 g_landed g_fault g_find ++ (shW S cI cS sv si ++ R)) := gp_swap
      have hP := gp_P hpm hP
      have hD := gp_D hpm hD
      refine mx_callV (As := [.int 1]) (rest := []) ⟨hx, hb, hml, hown, hts⟩ (mtX10_found l D cI cB cK cS B S U Q V K Z2 Z3 (shW S cI cS sv si ++ R) g_landed g_fault g_find 1) (cwV 1 hts gX10_drop_X10_found rfl rfl rfl (by decide +kernel) ⟨Nat.le_of_ble_eq_true rfl, Nat.le_of_ble_eq_true rfl⟩) pF0_ok trivial hK hP hD hS hA 0 rfl rfl rfl rfl hl.1 rfl (Nat.le_of_ble_eq_true rfl) dX10_drop_25 ⟨Nat.le_refl _, Nat.le_refl _⟩ (fun u_9 H locs eu_9 hP hD hS => ?_)
      refine W.eq (g2 := F0 m 28 ls [.int u_9.1]) rfl ?_
      have hP : va_P D vwCl (pigW B S U Q V K Z2 Z3 g_landed g_fault u_9.2 ++ (shW S cI cS sv si ++ R)) H := hP
      have hD : va_D A (pigW B S U Q V K Z2 Z3 g_landed g_fault u_9.2 ++ (shW S cI cS sv si ++ R)) := hD
      have hpm : List.Perm (pigW B S U Q V K Z2 Z3 g_landed g_fault u_9.2 ++ (shW S cI cS sv si ++ R)) (shW S cI cS sv si ++ (pigW B S U Q V K Z2 Z3 g_landed g_fault u_9.2 ++ R)) := gp_swap
      have hP := gp_P hpm hP
      have hD := gp_D hpm hD
      rw [hQm]
      exact mx_iret (u0 := sX10_drop k sv g_find) (rv := (fun u => some (.int u.1))) (w1 := (fun u => shW S cI cS u.2.1 si ++ (pigW B S U Q V K Z2 Z3 g_landed g_fault u.2.2 ++ R))) (u := (u_9.1, sv, u_9.2)) hx hb hr hlocks hK hS (lt_eq eu_1 ((if_neg c_2).trans ((if_neg c_4).trans (lt_eq eu_9 rfl)))) hP hD rfl dX10_drop_28
  · have d_2 := i_eq rfl (show (0 : Int32).toInt = 0 from by decide) c_2
    refine lv_ldc (v := (-1000001)) hx hb hown k71 dX10_drop_8 ?_
    rw [hQm]
    exact mx_iret (u0 := sX10_drop k sv g_find) (rv := (fun u => some (.int u.1))) (w1 := (fun u => shW S cI cS u.2.1 si ++ (pigW B S U Q V K Z2 Z3 g_landed g_fault u.2.2 ++ R))) (u := ((-1000001), sv, g_find)) hx hb hr hlocks hK hS (lt_eq eu_1 ((if_pos c_2).trans rfl)) hP hD rfl dX10_drop_10

def sX10_copy (a : Int32) (i : Int32) (b : Int32) (j : Int32) (nn : Int32) (sv : Nat → Nat → Int32) (si : Nat → Nat → Int32) (g_find : Int32) : Int32 × (Nat → Nat → Int32) × (Int32) := lt (sX10_isSheet a) (fun u_1 : Int32 => if u_1 = 0 then (((-1000001), si, g_find)) else (lt (sX10_isSheet b) (fun u_3 : Int32 => if u_3 = 0 then (((-1000001), si, g_find)) else (if ((sv a.toNatClampNeg) 1) = 0 then (if ((sv b.toNatClampNeg) 1) = 0 then (if ((sv a.toNatClampNeg) 2) = ((sv b.toNatClampNeg) 2) then (lt (sX6_holds i nn (sv a.toNatClampNeg)) (fun u_11 : Int32 => if u_11 = 0 then (lt (sX10_found 2) (fun u_13 : Int32 × (Int32) => (u_13.1, si, u_13.2))) else (lt (sX6_holds j nn (sv b.toNatClampNeg)) (fun u_14 : Int32 => if u_14 = 0 then (lt (sX10_found 2) (fun u_18 : Int32 × (Int32) => (u_18.1, si, u_18.2))) else (lt (va_up si b.toNatClampNeg (va_cpy (si a.toNatClampNeg) (si b.toNatClampNeg) i.toNatClampNeg j.toNatClampNeg nn.toNatClampNeg)) (fun kv_16 : Nat → Nat → Int32 => lt (sX10_foundNone nn) (fun u_17 : Int32 × (Int32) => (u_17.1, kv_16, u_17.2)))))))) else (lt (sX10_found 5) (fun u_19 : Int32 × (Int32) => (u_19.1, si, u_19.2)))) else (lt (sX10_found 1) (fun u_20 : Int32 × (Int32) => (u_20.1, si, u_20.2)))) else (lt (sX10_found 1) (fun u_8 : Int32 × (Int32) => (u_8.1, si, u_8.2)))))))
set_option maxHeartbeats 4000000 in
set_option maxRecDepth 100000 in
theorem mtX10_copy (l : Launch) (D : va_G) (cI cB cK cS : ClassId) (B S U Q V K Z2 Z3 : Nat → Nat) (R : va_W) (sv : Nat → Nat → Int32) (si : Nat → Nat → Int32) (g_landed : Int32) (g_fault : Int32) (g_find : Int32) (a : Int32) (i : Int32) (b : Int32) (j : Int32) (nn : Int32) (hsz : ∀ j, j < 8 → 0 ≤ (sv j 3).toInt ∧ (sv j 3).toInt ≤ 60) : MX l yX10_copy wsX10_copy (rmX 2) D (tyX cI cB cK cS) pF0 (shW S cI cS sv si ++ (pigW B S U Q V K Z2 Z3 g_landed g_fault g_find ++ R)) [.ref (B 0), .int a, .int i, .int b, .int j, .int nn] (sX10_copy a i b j nn sv si g_find) (fun u => some (.int u.1)) (fun u => shW S cI cS sv u.2.1 ++ (pigW B S U Q V K Z2 Z3 g_landed g_fault u.2.2 ++ R)) := by
  refine mx_intro (cc := cX10_copy) (maxL := 8) (ret := (some .int)) (by decide) rfl (Nat.le_of_ble_eq_true rfl) ?_
  intro p e s m below meth c A ls H locs Qm hQm hx hb hr hml hts hown hlocks hA hS hP hK hD hF hl
  have hown : s.vm.findClass RX10 = some m.cls := hown
  have hl : lv_has ls 8 [(0, .ref (B 0)), (1, .int a), (2, .int i), (3, .int b), (4, .int j), (5, .int nn)] := hl
  have k71 := hts (.constant RX10 71 (-1000001)) (by decide +kernel)
  have k11 := hts (.fieldLink RX10 11 "PigRounds" "sheets" "[LPigRounds$Sheet;") (by decide +kernel)
  have k83 := hts (.fieldLink RX10 83 "PigRounds$Sheet" "missing" "Z") (by decide +kernel)
  have k97 := hts (.fieldLink RX10 97 "PigRounds$Sheet" "lane" "I") (by decide +kernel)
  have k90 := hts (.fieldLink RX10 90 "PigRounds$Sheet" "items" "[I") (by decide +kernel)
  have k100 := hts (.methodLink RX10 100 arraycopyName) (by decide +kernel)
  have kN_cp := hts (.native arraycopyName) (by decide +kernel)
  have kS_cp := hts (.static arraycopyName) (by decide +kernel)
  have kI_sys := hts (.initialized "java/lang/System") (by decide +kernel)
  have iX10 : ∀ w ∈ u_ws RX10 TX10 10, w ∈ wsX10_copy := by decide +kernel
  have iX6 : ∀ w ∈ u_ws RX6 TX6 4, w ∈ wsX10_copy := by decide +kernel
  refine lv_aload_n hx hb dX10_copy_0 rfl (lv_at hl 0 rfl) ?_
  refine lv_iload_n hx hb dX10_copy_1 rfl (lv_at hl 1 rfl) ?_
  refine mx_callV (As := [.int a]) (rest := []) ⟨hx, hb, hml, hown, hts⟩ (mtX10_isSheet l D cI cB cK cS B S U Q V K Z2 Z3 R sv si g_landed g_fault g_find a) (cwV 1 hts gX10_copy_X10_isSheet rfl rfl rfl (by decide +kernel) ⟨Nat.le_of_ble_eq_true rfl, Nat.le_of_ble_eq_true rfl⟩) pF0_ok trivial hK hP hD hS hA 17 rfl rfl rfl rfl hl.1 rfl (Nat.le_of_ble_eq_true rfl) dX10_copy_2 ⟨Nat.le_refl _, Nat.le_refl _⟩ (fun u_1 H locs eu_1 hP hD hS => ?_)
  refine W.eq (g2 := F0 m 5 ls [.int u_1]) rfl ?_
  have hP : va_P D vwCl (shW S cI cS sv si ++ (pigW B S U Q V K Z2 Z3 g_landed g_fault g_find ++ R)) H := hP
  have hD : va_D A (shW S cI cS sv si ++ (pigW B S U Q V K Z2 Z3 g_landed g_fault g_find ++ R)) := hD
  refine lv_if_eq (tgt := 16) hx hb dX10_copy_5 (by decide) (fun c_2 => ?_) (fun c_2 => ?_)
  · have d_2 := i_eq rfl (show (0 : Int32).toInt = 0 from by decide) c_2
    refine lv_ldc (v := (-1000001)) hx hb hown k71 dX10_copy_16 ?_
    rw [hQm]
    exact mx_iret (u0 := sX10_copy a i b j nn sv si g_find) (rv := (fun u => some (.int u.1))) (w1 := (fun u => shW S cI cS sv u.2.1 ++ (pigW B S U Q V K Z2 Z3 g_landed g_fault u.2.2 ++ R))) (u := ((-1000001), si, g_find)) hx hb hr hlocks hK hS (lt_eq eu_1 ((if_pos c_2).trans rfl)) hP hD rfl dX10_copy_18
  · have d_2 := i_eqn rfl (show (0 : Int32).toInt = 0 from by decide) c_2
    have dt_2 := sX10_isSheet_t eu_1 c_2
    refine lv_aload_n hx hb dX10_copy_8 rfl (lv_at hl 0 rfl) ?_
    refine lv_iload_n hx hb dX10_copy_9 rfl (lv_at hl 3 rfl) ?_
    refine mx_callV (As := [.int b]) (rest := []) ⟨hx, hb, hml, hown, hts⟩ (mtX10_isSheet l D cI cB cK cS B S U Q V K Z2 Z3 R sv si g_landed g_fault g_find b) (cwV 1 hts gX10_copy_X10_isSheet rfl rfl rfl (by decide +kernel) ⟨Nat.le_of_ble_eq_true rfl, Nat.le_of_ble_eq_true rfl⟩) pF0_ok trivial hK hP hD hS hA 17 rfl rfl rfl rfl hl.1 rfl (Nat.le_of_ble_eq_true rfl) dX10_copy_10 ⟨Nat.le_refl _, Nat.le_refl _⟩ (fun u_3 H locs eu_3 hP hD hS => ?_)
    refine W.eq (g2 := F0 m 13 ls [.int u_3]) rfl ?_
    have hP : va_P D vwCl (shW S cI cS sv si ++ (pigW B S U Q V K Z2 Z3 g_landed g_fault g_find ++ R)) H := hP
    have hD : va_D A (shW S cI cS sv si ++ (pigW B S U Q V K Z2 Z3 g_landed g_fault g_find ++ R)) := hD
    refine lv_if_ne (tgt := 19) hx hb dX10_copy_13 (by decide) (fun c_4 => ?_) (fun c_4 => ?_)
    · have d_4 := i_eqn rfl (show (0 : Int32).toInt = 0 from by decide) c_4
      have dt_4 := sX10_isSheet_t eu_3 c_4
      refine lv_aload_n hx hb dX10_copy_19 rfl (lv_at hl 0 rfl) ?_
      refine va_get (D := D) (ci := 8) (v := .ref (S 0)) (C := RX10) (T := TX10) (N := 10) hx hb hts iX10 hown hK hP 17 rfl rfl 0 (by decide) k11 (fun _ h9 => h9) rfl dX10_copy_20 ?_
      refine lv_iload_n hx hb dX10_copy_23 rfl (lv_at hl 1 rfl) ?_
      have q_5 : vp_in a 8 := vp_in_iff.mpr ⟨by omega, by omega⟩
      refine va_aldq hx hb hK hP 16 3 rfl rfl q_5 dX10_copy_24 ?_
      refine W.eq (g2 := F0 m 25 ls [.ref (S (1 + a.toNatClampNeg))]) rfl ?_
      have hq_5 : a.toNatClampNeg < 8 := vp_lt q_5
      refine lv_astore (lv' := [(6, .ref (S (1 + a.toNatClampNeg))), (0, .ref (B 0)), (1, .int a), (2, .int i), (3, .int b), (4, .int j), (5, .int nn)]) hx hb dX10_copy_25 hl (by decide) rfl (fun ls hl => ?_)
      refine lv_aload_n hx hb dX10_copy_27 rfl (lv_at hl 1 rfl) ?_
      refine va_get (D := D) (ci := 8) (v := .ref (S 0)) (C := RX10) (T := TX10) (N := 10) hx hb hts iX10 hown hK hP 17 rfl rfl 0 (by decide) k11 (fun _ h9 => h9) rfl dX10_copy_28 ?_
      refine lv_iload_n hx hb dX10_copy_31 rfl (lv_at hl 4 rfl) ?_
      have q_6 : vp_in b 8 := vp_in_iff.mpr ⟨by omega, by omega⟩
      refine va_aldq hx hb hK hP 16 3 rfl rfl q_6 dX10_copy_32 ?_
      refine W.eq (g2 := F0 m 33 ls [.ref (S (1 + b.toNatClampNeg))]) rfl ?_
      have hq_6 : b.toNatClampNeg < 8 := vp_lt q_6
      refine lv_astore (lv' := [(7, .ref (S (1 + b.toNatClampNeg))), (6, .ref (S (1 + a.toNatClampNeg))), (0, .ref (B 0)), (1, .int a), (2, .int i), (3, .int b), (4, .int j), (5, .int nn)]) hx hb dX10_copy_33 hl (by decide) rfl (fun ls hl => ?_)
      have hs_a := hsz a.toNatClampNeg (vp_lt (vp_in_iff.mpr ⟨by omega, by omega⟩))
      have hs_b := hsz b.toNatClampNeg (vp_lt (vp_in_iff.mpr ⟨by omega, by omega⟩))
      refine lv_aload hx hb dX10_copy_35 (lv_at hl 1 rfl) ?_
      refine va_get (D := D) (ci := 5) (v := .int ((sv a.toNatClampNeg) 1)) (C := RX6) (T := TX6) (N := 4) hx hb hts iX6 hown hK hP a.toNatClampNeg (ss_get hq_5) rfl 1 (by decide) k83 (fun _ h9 => h9) rfl dX10_copy_37 ?_
      refine lv_if_ne (tgt := 51) hx hb dX10_copy_40 (by decide) (fun c_7 => ?_) (fun c_7 => ?_)
      · have d_7 := i_eqn rfl (show (0 : Int32).toInt = 0 from by decide) c_7
        refine lv_aload_n hx hb dX10_copy_51 rfl (lv_at hl 2 rfl) ?_
        refine lv_iconst (v := 1) hx hb dX10_copy_52 (by decide) ?_
        have hpm : List.Perm (shW S cI cS sv si ++ (pigW B S U Q V K Z2 Z3 g_landed g_fault g_find ++ R)) (pigW B S U Q V K Z2 Z3 g_landed g_fault g_find ++ (shW S cI cS sv si ++ R)) := gp_swap
        have hP := gp_P hpm hP
        have hD := gp_D hpm hD
        refine mx_callV (As := [.int 1]) (rest := []) ⟨hx, hb, hml, hown, hts⟩ (mtX10_found l D cI cB cK cS B S U Q V K Z2 Z3 (shW S cI cS sv si ++ R) g_landed g_fault g_find 1) (cwV 1 hts gX10_copy_X10_found rfl rfl rfl (by decide +kernel) ⟨Nat.le_of_ble_eq_true rfl, Nat.le_of_ble_eq_true rfl⟩) pF0_ok trivial hK hP hD hS hA 0 rfl rfl rfl rfl hl.1 rfl (Nat.le_of_ble_eq_true rfl) dX10_copy_53 ⟨Nat.le_refl _, Nat.le_refl _⟩ (fun u_8 H locs eu_8 hP hD hS => ?_)
        refine W.eq (g2 := F0 m 56 ls [.int u_8.1]) rfl ?_
        have hP : va_P D vwCl (pigW B S U Q V K Z2 Z3 g_landed g_fault u_8.2 ++ (shW S cI cS sv si ++ R)) H := hP
        have hD : va_D A (pigW B S U Q V K Z2 Z3 g_landed g_fault u_8.2 ++ (shW S cI cS sv si ++ R)) := hD
        have hpm : List.Perm (pigW B S U Q V K Z2 Z3 g_landed g_fault u_8.2 ++ (shW S cI cS sv si ++ R)) (shW S cI cS sv si ++ (pigW B S U Q V K Z2 Z3 g_landed g_fault u_8.2 ++ R)) := gp_swap
        have hP := gp_P hpm hP
        have hD := gp_D hpm hD
        rw [hQm]
        exact mx_iret (u0 := sX10_copy a i b j nn sv si g_find) (rv := (fun u => some (.int u.1))) (w1 := (fun u => shW S cI cS sv u.2.1 ++ (pigW B S U Q V K Z2 Z3 g_landed g_fault u.2.2 ++ R))) (u := (u_8.1, si, u_8.2)) hx hb hr hlocks hK hS (lt_eq eu_1 ((if_neg c_2).trans (lt_eq eu_3 ((if_neg c_4).trans ((if_neg c_7).trans (lt_eq eu_8 rfl)))))) hP hD rfl dX10_copy_56
      · have d_7 := i_eq rfl (show (0 : Int32).toInt = 0 from by decide) c_7
        refine lv_aload hx hb dX10_copy_43 (lv_at hl 0 rfl) ?_
        refine va_get (D := D) (ci := 5) (v := .int ((sv b.toNatClampNeg) 1)) (C := RX6) (T := TX6) (N := 4) hx hb hts iX6 hown hK hP b.toNatClampNeg (ss_get hq_6) rfl 1 (by decide) k83 (fun _ h9 => h9) rfl dX10_copy_45 ?_
        refine lv_if_eq (tgt := 57) hx hb dX10_copy_48 (by decide) (fun c_9 => ?_) (fun c_9 => ?_)
        · have d_9 := i_eq rfl (show (0 : Int32).toInt = 0 from by decide) c_9
          refine lv_aload hx hb dX10_copy_57 (lv_at hl 1 rfl) ?_
          refine va_get (D := D) (ci := 5) (v := .int ((sv a.toNatClampNeg) 2)) (C := RX6) (T := TX6) (N := 4) hx hb hts iX6 hown hK hP a.toNatClampNeg (ss_get hq_5) rfl 2 (by decide) k97 (fun _ h9 => h9) rfl dX10_copy_59 ?_
          refine lv_aload hx hb dX10_copy_62 (lv_at hl 0 rfl) ?_
          refine va_get (D := D) (ci := 5) (v := .int ((sv b.toNatClampNeg) 2)) (C := RX6) (T := TX6) (N := 4) hx hb hts iX6 hown hK hP b.toNatClampNeg (ss_get hq_6) rfl 2 (by decide) k97 (fun _ h9 => h9) rfl dX10_copy_64 ?_
          refine lv_icmp_eq (tgt := 76) hx hb dX10_copy_67 (by decide) (fun c_10 => ?_) (fun c_10 => ?_)
          · have d_10 := i_eq rfl rfl c_10
            refine lv_aload hx hb dX10_copy_76 (lv_at hl 1 rfl) ?_
            refine lv_iload_n hx hb dX10_copy_78 rfl (lv_at hl 4 rfl) ?_
            refine lv_iload hx hb dX10_copy_79 (lv_at hl 7 rfl) ?_
            refine mx_callV (As := [.int i, .int nn]) (rest := []) ⟨hx, hb, hml, hown, hts⟩ (mtX6_holds l D cI cB cK cS (shW S cI cS sv si ++ (pigW B S U Q V K Z2 Z3 g_landed g_fault g_find ++ R)) (S (1 + a.toNatClampNeg)) a.toNatClampNeg (S (9 + a.toNatClampNeg)) (sv a.toNatClampNeg) i nn (ss_get hq_5)) (cwV 2 hts gX10_copy_X6_holds rfl rfl rfl (by decide +kernel) ⟨Nat.le_of_ble_eq_true rfl, Nat.le_of_ble_eq_true rfl⟩) pF0_ok trivial hK hP hD hS hA a.toNatClampNeg (ss_get hq_5) rfl rfl rfl hl.1 rfl (Nat.le_of_ble_eq_true rfl) dX10_copy_81 ⟨Nat.le_refl _, Nat.le_refl _⟩ (fun u_11 H locs eu_11 hP hD hS => ?_)
            refine W.eq (g2 := F0 m 84 ls [.int u_11]) rfl ?_
            have hP : va_P D vwCl (shW S cI cS sv si ++ (pigW B S U Q V K Z2 Z3 g_landed g_fault g_find ++ R)) H := hP
            have hD : va_D A (shW S cI cS sv si ++ (pigW B S U Q V K Z2 Z3 g_landed g_fault g_find ++ R)) := hD
            refine lv_if_eq (tgt := 99) hx hb dX10_copy_84 (by decide) (fun c_12 => ?_) (fun c_12 => ?_)
            · have d_12 := i_eq rfl (show (0 : Int32).toInt = 0 from by decide) c_12
              refine lv_aload_n hx hb dX10_copy_99 rfl (lv_at hl 2 rfl) ?_
              refine lv_iconst (v := 2) hx hb dX10_copy_100 (by decide) ?_
              have hpm : List.Perm (shW S cI cS sv si ++ (pigW B S U Q V K Z2 Z3 g_landed g_fault g_find ++ R)) (pigW B S U Q V K Z2 Z3 g_landed g_fault g_find ++ (shW S cI cS sv si ++ R)) := gp_swap
              have hP := gp_P hpm hP
              have hD := gp_D hpm hD
              refine mx_callV (As := [.int 2]) (rest := []) ⟨hx, hb, hml, hown, hts⟩ (mtX10_found l D cI cB cK cS B S U Q V K Z2 Z3 (shW S cI cS sv si ++ R) g_landed g_fault g_find 2) (cwV 1 hts gX10_copy_X10_found rfl rfl rfl (by decide +kernel) ⟨Nat.le_of_ble_eq_true rfl, Nat.le_of_ble_eq_true rfl⟩) pF0_ok trivial hK hP hD hS hA 0 rfl rfl rfl rfl hl.1 rfl (Nat.le_of_ble_eq_true rfl) dX10_copy_101 ⟨Nat.le_refl _, Nat.le_refl _⟩ (fun u_13 H locs eu_13 hP hD hS => ?_)
              refine W.eq (g2 := F0 m 104 ls [.int u_13.1]) rfl ?_
              have hP : va_P D vwCl (pigW B S U Q V K Z2 Z3 g_landed g_fault u_13.2 ++ (shW S cI cS sv si ++ R)) H := hP
              have hD : va_D A (pigW B S U Q V K Z2 Z3 g_landed g_fault u_13.2 ++ (shW S cI cS sv si ++ R)) := hD
              have hpm : List.Perm (pigW B S U Q V K Z2 Z3 g_landed g_fault u_13.2 ++ (shW S cI cS sv si ++ R)) (shW S cI cS sv si ++ (pigW B S U Q V K Z2 Z3 g_landed g_fault u_13.2 ++ R)) := gp_swap
              have hP := gp_P hpm hP
              have hD := gp_D hpm hD
              rw [hQm]
              exact mx_iret (u0 := sX10_copy a i b j nn sv si g_find) (rv := (fun u => some (.int u.1))) (w1 := (fun u => shW S cI cS sv u.2.1 ++ (pigW B S U Q V K Z2 Z3 g_landed g_fault u.2.2 ++ R))) (u := (u_13.1, si, u_13.2)) hx hb hr hlocks hK hS (lt_eq eu_1 ((if_neg c_2).trans (lt_eq eu_3 ((if_neg c_4).trans ((if_pos c_7).trans ((if_pos c_9).trans ((if_pos c_10).trans (lt_eq eu_11 ((if_pos c_12).trans (lt_eq eu_13 rfl)))))))))) hP hD rfl dX10_copy_104
            · have d_12 := i_eqn rfl (show (0 : Int32).toInt = 0 from by decide) c_12
              have dt_12 := sX6_holds_t (hsz _ (by first | assumption | omega)).1 eu_11 c_12
              refine lv_aload hx hb dX10_copy_87 (lv_at hl 0 rfl) ?_
              refine lv_iload hx hb dX10_copy_89 (lv_at hl 6 rfl) ?_
              refine lv_iload hx hb dX10_copy_91 (lv_at hl 7 rfl) ?_
              refine mx_callV (As := [.int j, .int nn]) (rest := []) ⟨hx, hb, hml, hown, hts⟩ (mtX6_holds l D cI cB cK cS (shW S cI cS sv si ++ (pigW B S U Q V K Z2 Z3 g_landed g_fault g_find ++ R)) (S (1 + b.toNatClampNeg)) b.toNatClampNeg (S (9 + b.toNatClampNeg)) (sv b.toNatClampNeg) j nn (ss_get hq_6)) (cwV 2 hts gX10_copy_X6_holds rfl rfl rfl (by decide +kernel) ⟨Nat.le_of_ble_eq_true rfl, Nat.le_of_ble_eq_true rfl⟩) pF0_ok trivial hK hP hD hS hA b.toNatClampNeg (ss_get hq_6) rfl rfl rfl hl.1 rfl (Nat.le_of_ble_eq_true rfl) dX10_copy_93 ⟨Nat.le_refl _, Nat.le_refl _⟩ (fun u_14 H locs eu_14 hP hD hS => ?_)
              refine W.eq (g2 := F0 m 96 ls [.int u_14]) rfl ?_
              have hP : va_P D vwCl (shW S cI cS sv si ++ (pigW B S U Q V K Z2 Z3 g_landed g_fault g_find ++ R)) H := hP
              have hD : va_D A (shW S cI cS sv si ++ (pigW B S U Q V K Z2 Z3 g_landed g_fault g_find ++ R)) := hD
              refine lv_if_ne (tgt := 105) hx hb dX10_copy_96 (by decide) (fun c_15 => ?_) (fun c_15 => ?_)
              · have d_15 := i_eqn rfl (show (0 : Int32).toInt = 0 from by decide) c_15
                have dt_15 := sX6_holds_t (hsz _ (by first | assumption | omega)).1 eu_14 c_15
                refine lv_aload hx hb dX10_copy_105 (lv_at hl 1 rfl) ?_
                refine va_get (D := D) (ci := 5) (v := .ref (S (9 + a.toNatClampNeg))) (C := RX6) (T := TX6) (N := 4) hx hb hts iX6 hown hK hP a.toNatClampNeg (ss_get hq_5) rfl 0 (by decide) k90 (fun _ h9 => h9) rfl dX10_copy_107 ?_
                refine lv_iload_n hx hb dX10_copy_110 rfl (lv_at hl 4 rfl) ?_
                refine lv_aload hx hb dX10_copy_111 (lv_at hl 0 rfl) ?_
                refine va_get (D := D) (ci := 5) (v := .ref (S (9 + b.toNatClampNeg))) (C := RX6) (T := TX6) (N := 4) hx hb hts iX6 hown hK hP b.toNatClampNeg (ss_get hq_6) rfl 0 (by decide) k90 (fun _ h9 => h9) rfl dX10_copy_113 ?_
                refine lv_iload hx hb dX10_copy_116 (lv_at hl 6 rfl) ?_
                refine lv_iload hx hb dX10_copy_118 (lv_at hl 7 rfl) ?_
                refine va_copyi hx hb (by rw [hml]; exact hl.1.symm) hown k100 kN_cp kS_cp kI_sys hK hP hD hS (8 + a.toNatClampNeg) (8 + b.toNatClampNeg) 0 0 (si_get hq_5) (si_get hq_6) rfl rfl rfl (n_neg (by omega)) (n_neg (by omega)) (n_neg (by omega)) (n_sum (by omega) (by omega) (by omega)) (n_sum (by omega) (by omega) (by omega)) (fun _ _ => rfl) (Nat.le_of_ble_eq_true rfl) (Nat.le_of_ble_eq_true rfl) dX10_copy_120 (fun H locs hP hD hS => ?_)
                have hP : va_P D vwCl ((shW S cI cS sv si ++ (pigW B S U Q V K Z2 Z3 g_landed g_fault g_find ++ R)).set (8 + b.toNatClampNeg) (S (9 + b.toNatClampNeg), .inl (cI, 60, .inl (va_cpy (si a.toNatClampNeg) (si b.toNatClampNeg) i.toNatClampNeg j.toNatClampNeg nn.toNatClampNeg)))) H := hP
                rw [si_set hq_6] at hP
                have hD : va_D A ((shW S cI cS sv si ++ (pigW B S U Q V K Z2 Z3 g_landed g_fault g_find ++ R)).set (8 + b.toNatClampNeg) (S (9 + b.toNatClampNeg), .inl (cI, 60, .inl (va_cpy (si a.toNatClampNeg) (si b.toNatClampNeg) i.toNatClampNeg j.toNatClampNeg nn.toNatClampNeg)))) := hD
                rw [si_set hq_6] at hD
                obtain ⟨kv_16, ekv_16⟩ : ∃ z : Nat → Nat → Int32, z = va_up si b.toNatClampNeg (va_cpy (si a.toNatClampNeg) (si b.toNatClampNeg) i.toNatClampNeg j.toNatClampNeg nn.toNatClampNeg) := ⟨_, rfl⟩
                rw [← ekv_16] at hP hD
                have hP : va_P D vwCl (shW S cI cS sv kv_16 ++ (pigW B S U Q V K Z2 Z3 g_landed g_fault g_find ++ R)) H := hP
                have hD : va_D A (shW S cI cS sv kv_16 ++ (pigW B S U Q V K Z2 Z3 g_landed g_fault g_find ++ R)) := hD
                refine lv_aload_n hx hb dX10_copy_123 rfl (lv_at hl 2 rfl) ?_
                refine lv_iload hx hb dX10_copy_124 (lv_at hl 7 rfl) ?_
                have hpm : List.Perm (shW S cI cS sv kv_16 ++ (pigW B S U Q V K Z2 Z3 g_landed g_fault g_find ++ R)) (pigW B S U Q V K Z2 Z3 g_landed g_fault g_find ++ (shW S cI cS sv kv_16 ++ R)) := gp_swap
                have hP := gp_P hpm hP
                have hD := gp_D hpm hD
                refine mx_callV (As := [.int nn]) (rest := []) ⟨hx, hb, hml, hown, hts⟩ (mtX10_foundNone l D cI cB cK cS B S U Q V K Z2 Z3 (shW S cI cS sv kv_16 ++ R) g_landed g_fault g_find nn) (cwV 1 hts gX10_copy_X10_foundNone rfl rfl rfl (by decide +kernel) ⟨Nat.le_of_ble_eq_true rfl, Nat.le_of_ble_eq_true rfl⟩) pF0_ok trivial hK hP hD hS hA 0 rfl rfl rfl rfl hl.1 rfl (Nat.le_of_ble_eq_true rfl) dX10_copy_126 ⟨Nat.le_refl _, Nat.le_refl _⟩ (fun u_17 H locs eu_17 hP hD hS => ?_)
                refine W.eq (g2 := F0 m 129 ls [.int u_17.1]) rfl ?_
                have hP : va_P D vwCl (pigW B S U Q V K Z2 Z3 g_landed g_fault u_17.2 ++ (shW S cI cS sv kv_16 ++ R)) H := hP
                have hD : va_D A (pigW B S U Q V K Z2 Z3 g_landed g_fault u_17.2 ++ (shW S cI cS sv kv_16 ++ R)) := hD
                have hpm : List.Perm (pigW B S U Q V K Z2 Z3 g_landed g_fault u_17.2 ++ (shW S cI cS sv kv_16 ++ R)) (shW S cI cS sv kv_16 ++ (pigW B S U Q V K Z2 Z3 g_landed g_fault u_17.2 ++ R)) := gp_swap
                have hP := gp_P hpm hP
                have hD := gp_D hpm hD
                rw [hQm]
                exact mx_iret (u0 := sX10_copy a i b j nn sv si g_find) (rv := (fun u => some (.int u.1))) (w1 := (fun u => shW S cI cS sv u.2.1 ++ (pigW B S U Q V K Z2 Z3 g_landed g_fault u.2.2 ++ R))) (u := (u_17.1, kv_16, u_17.2)) hx hb hr hlocks hK hS (lt_eq eu_1 ((if_neg c_2).trans (lt_eq eu_3 ((if_neg c_4).trans ((if_pos c_7).trans ((if_pos c_9).trans ((if_pos c_10).trans (lt_eq eu_11 ((if_neg c_12).trans (lt_eq eu_14 ((if_neg c_15).trans (lt_eq ekv_16 (lt_eq eu_17 rfl))))))))))))) hP hD rfl dX10_copy_129
              · have d_15 := i_eq rfl (show (0 : Int32).toInt = 0 from by decide) c_15
                refine lv_aload_n hx hb dX10_copy_99 rfl (lv_at hl 2 rfl) ?_
                refine lv_iconst (v := 2) hx hb dX10_copy_100 (by decide) ?_
                have hpm : List.Perm (shW S cI cS sv si ++ (pigW B S U Q V K Z2 Z3 g_landed g_fault g_find ++ R)) (pigW B S U Q V K Z2 Z3 g_landed g_fault g_find ++ (shW S cI cS sv si ++ R)) := gp_swap
                have hP := gp_P hpm hP
                have hD := gp_D hpm hD
                refine mx_callV (As := [.int 2]) (rest := []) ⟨hx, hb, hml, hown, hts⟩ (mtX10_found l D cI cB cK cS B S U Q V K Z2 Z3 (shW S cI cS sv si ++ R) g_landed g_fault g_find 2) (cwV 1 hts gX10_copy_X10_found rfl rfl rfl (by decide +kernel) ⟨Nat.le_of_ble_eq_true rfl, Nat.le_of_ble_eq_true rfl⟩) pF0_ok trivial hK hP hD hS hA 0 rfl rfl rfl rfl hl.1 rfl (Nat.le_of_ble_eq_true rfl) dX10_copy_101 ⟨Nat.le_refl _, Nat.le_refl _⟩ (fun u_18 H locs eu_18 hP hD hS => ?_)
                refine W.eq (g2 := F0 m 104 ls [.int u_18.1]) rfl ?_
                have hP : va_P D vwCl (pigW B S U Q V K Z2 Z3 g_landed g_fault u_18.2 ++ (shW S cI cS sv si ++ R)) H := hP
                have hD : va_D A (pigW B S U Q V K Z2 Z3 g_landed g_fault u_18.2 ++ (shW S cI cS sv si ++ R)) := hD
                have hpm : List.Perm (pigW B S U Q V K Z2 Z3 g_landed g_fault u_18.2 ++ (shW S cI cS sv si ++ R)) (shW S cI cS sv si ++ (pigW B S U Q V K Z2 Z3 g_landed g_fault u_18.2 ++ R)) := gp_swap
                have hP := gp_P hpm hP
                have hD := gp_D hpm hD
                rw [hQm]
                exact mx_iret (u0 := sX10_copy a i b j nn sv si g_find) (rv := (fun u => some (.int u.1))) (w1 := (fun u => shW S cI cS sv u.2.1 ++ (pigW B S U Q V K Z2 Z3 g_landed g_fault u.2.2 ++ R))) (u := (u_18.1, si, u_18.2)) hx hb hr hlocks hK hS (lt_eq eu_1 ((if_neg c_2).trans (lt_eq eu_3 ((if_neg c_4).trans ((if_pos c_7).trans ((if_pos c_9).trans ((if_pos c_10).trans (lt_eq eu_11 ((if_neg c_12).trans (lt_eq eu_14 ((if_pos c_15).trans (lt_eq eu_18 rfl)))))))))))) hP hD rfl dX10_copy_104
          · have d_10 := i_eqn rfl rfl c_10
            refine lv_aload_n hx hb dX10_copy_70 rfl (lv_at hl 2 rfl) ?_
            refine lv_iconst (v := 5) hx hb dX10_copy_71 (by decide) ?_
            have hpm : List.Perm (shW S cI cS sv si ++ (pigW B S U Q V K Z2 Z3 g_landed g_fault g_find ++ R)) (pigW B S U Q V K Z2 Z3 g_landed g_fault g_find ++ (shW S cI cS sv si ++ R)) := gp_swap
            have hP := gp_P hpm hP
            have hD := gp_D hpm hD
            refine mx_callV (As := [.int 5]) (rest := []) ⟨hx, hb, hml, hown, hts⟩ (mtX10_found l D cI cB cK cS B S U Q V K Z2 Z3 (shW S cI cS sv si ++ R) g_landed g_fault g_find 5) (cwV 1 hts gX10_copy_X10_found rfl rfl rfl (by decide +kernel) ⟨Nat.le_of_ble_eq_true rfl, Nat.le_of_ble_eq_true rfl⟩) pF0_ok trivial hK hP hD hS hA 0 rfl rfl rfl rfl hl.1 rfl (Nat.le_of_ble_eq_true rfl) dX10_copy_72 ⟨Nat.le_refl _, Nat.le_refl _⟩ (fun u_19 H locs eu_19 hP hD hS => ?_)
            refine W.eq (g2 := F0 m 75 ls [.int u_19.1]) rfl ?_
            have hP : va_P D vwCl (pigW B S U Q V K Z2 Z3 g_landed g_fault u_19.2 ++ (shW S cI cS sv si ++ R)) H := hP
            have hD : va_D A (pigW B S U Q V K Z2 Z3 g_landed g_fault u_19.2 ++ (shW S cI cS sv si ++ R)) := hD
            have hpm : List.Perm (pigW B S U Q V K Z2 Z3 g_landed g_fault u_19.2 ++ (shW S cI cS sv si ++ R)) (shW S cI cS sv si ++ (pigW B S U Q V K Z2 Z3 g_landed g_fault u_19.2 ++ R)) := gp_swap
            have hP := gp_P hpm hP
            have hD := gp_D hpm hD
            rw [hQm]
            exact mx_iret (u0 := sX10_copy a i b j nn sv si g_find) (rv := (fun u => some (.int u.1))) (w1 := (fun u => shW S cI cS sv u.2.1 ++ (pigW B S U Q V K Z2 Z3 g_landed g_fault u.2.2 ++ R))) (u := (u_19.1, si, u_19.2)) hx hb hr hlocks hK hS (lt_eq eu_1 ((if_neg c_2).trans (lt_eq eu_3 ((if_neg c_4).trans ((if_pos c_7).trans ((if_pos c_9).trans ((if_neg c_10).trans (lt_eq eu_19 rfl)))))))) hP hD rfl dX10_copy_75
        · have d_9 := i_eqn rfl (show (0 : Int32).toInt = 0 from by decide) c_9
          refine lv_aload_n hx hb dX10_copy_51 rfl (lv_at hl 2 rfl) ?_
          refine lv_iconst (v := 1) hx hb dX10_copy_52 (by decide) ?_
          have hpm : List.Perm (shW S cI cS sv si ++ (pigW B S U Q V K Z2 Z3 g_landed g_fault g_find ++ R)) (pigW B S U Q V K Z2 Z3 g_landed g_fault g_find ++ (shW S cI cS sv si ++ R)) := gp_swap
          have hP := gp_P hpm hP
          have hD := gp_D hpm hD
          refine mx_callV (As := [.int 1]) (rest := []) ⟨hx, hb, hml, hown, hts⟩ (mtX10_found l D cI cB cK cS B S U Q V K Z2 Z3 (shW S cI cS sv si ++ R) g_landed g_fault g_find 1) (cwV 1 hts gX10_copy_X10_found rfl rfl rfl (by decide +kernel) ⟨Nat.le_of_ble_eq_true rfl, Nat.le_of_ble_eq_true rfl⟩) pF0_ok trivial hK hP hD hS hA 0 rfl rfl rfl rfl hl.1 rfl (Nat.le_of_ble_eq_true rfl) dX10_copy_53 ⟨Nat.le_refl _, Nat.le_refl _⟩ (fun u_20 H locs eu_20 hP hD hS => ?_)
          refine W.eq (g2 := F0 m 56 ls [.int u_20.1]) rfl ?_
          have hP : va_P D vwCl (pigW B S U Q V K Z2 Z3 g_landed g_fault u_20.2 ++ (shW S cI cS sv si ++ R)) H := hP
          have hD : va_D A (pigW B S U Q V K Z2 Z3 g_landed g_fault u_20.2 ++ (shW S cI cS sv si ++ R)) := hD
          have hpm : List.Perm (pigW B S U Q V K Z2 Z3 g_landed g_fault u_20.2 ++ (shW S cI cS sv si ++ R)) (shW S cI cS sv si ++ (pigW B S U Q V K Z2 Z3 g_landed g_fault u_20.2 ++ R)) := gp_swap
          have hP := gp_P hpm hP
          have hD := gp_D hpm hD
          rw [hQm]
          exact mx_iret (u0 := sX10_copy a i b j nn sv si g_find) (rv := (fun u => some (.int u.1))) (w1 := (fun u => shW S cI cS sv u.2.1 ++ (pigW B S U Q V K Z2 Z3 g_landed g_fault u.2.2 ++ R))) (u := (u_20.1, si, u_20.2)) hx hb hr hlocks hK hS (lt_eq eu_1 ((if_neg c_2).trans (lt_eq eu_3 ((if_neg c_4).trans ((if_pos c_7).trans ((if_neg c_9).trans (lt_eq eu_20 rfl))))))) hP hD rfl dX10_copy_56
    · have d_4 := i_eq rfl (show (0 : Int32).toInt = 0 from by decide) c_4
      refine lv_ldc (v := (-1000001)) hx hb hown k71 dX10_copy_16 ?_
      rw [hQm]
      exact mx_iret (u0 := sX10_copy a i b j nn sv si g_find) (rv := (fun u => some (.int u.1))) (w1 := (fun u => shW S cI cS sv u.2.1 ++ (pigW B S U Q V K Z2 Z3 g_landed g_fault u.2.2 ++ R))) (u := ((-1000001), si, g_find)) hx hb hr hlocks hK hS (lt_eq eu_1 ((if_neg c_2).trans (lt_eq eu_3 ((if_pos c_4).trans rfl)))) hP hD rfl dX10_copy_18

def lX10_sheetCount_13 (sv : Nat → Nat → Int32) : Nat → Int32 → Int32 → Int32 × Int32
  | 0, x4_13, x1_13 => (x4_13, x1_13)
  | n + 1, x4_13, x1_13 => if 8 ≤ x4_13 then ((x4_13, x1_13)) else (lt (if ((sv x4_13.toNatClampNeg) 1) = 0 then (lt (x1_13 + 1) (fun x_6 : Int32 => x_6)) else (x1_13)) (fun y_4 : Int32 => lt (x4_13 + 1) (fun x_7 : Int32 => lX10_sheetCount_13 sv n x_7 y_4)))

def sX10_sheetCount (sv : Nat → Nat → Int32) : Int32 := lt (lX10_sheetCount_13 sv 9 0 0) (fun u_8 : Int32 × Int32 => (u_8.2))
set_option maxHeartbeats 4000000 in
set_option maxRecDepth 100000 in
theorem mtX10_sheetCount (l : Launch) (D : va_G) (cI cB cK cS : ClassId) (B S U Q V K Z2 Z3 : Nat → Nat) (R : va_W) (sv : Nat → Nat → Int32) (si : Nat → Nat → Int32) (g_landed : Int32) (g_fault : Int32) (g_find : Int32) : MX l yX10_sheetCount wsX10_sheetCount (rmX 1) D (tyX cI cB cK cS) pF0 (shW S cI cS sv si ++ (pigW B S U Q V K Z2 Z3 g_landed g_fault g_find ++ R)) [.ref (B 0)] (sX10_sheetCount sv) (fun u => some (.int u)) (fun _ => shW S cI cS sv si ++ (pigW B S U Q V K Z2 Z3 g_landed g_fault g_find ++ R)) := by
  refine mx_intro (cc := cX10_sheetCount) (maxL := 6) (ret := (some .int)) (by decide) rfl (Nat.le_of_ble_eq_true rfl) ?_
  intro p e s m below meth c A ls H locs Qm hQm hx hb hr hml hts hown hlocks hA hS hP hK hD hF hl
  have hown : s.vm.findClass RX10 = some m.cls := hown
  have hl : lv_has ls 6 [(0, .ref (B 0))] := hl
  have k11 := hts (.fieldLink RX10 11 "PigRounds" "sheets" "[LPigRounds$Sheet;") (by decide +kernel)
  have k83 := hts (.fieldLink RX10 83 "PigRounds$Sheet" "missing" "Z") (by decide +kernel)
  have iX10 : ∀ w ∈ u_ws RX10 TX10 10, w ∈ wsX10_sheetCount := by decide +kernel
  have iX6 : ∀ w ∈ u_ws RX6 TX6 4, w ∈ wsX10_sheetCount := by decide +kernel
  refine lv_iconst (v := 0) hx hb dX10_sheetCount_0 (by decide) ?_
  refine lv_istore_n (lv' := [(1, .int 0), (0, .ref (B 0))]) hx hb dX10_sheetCount_1 rfl hl (by decide) rfl (fun ls hl => ?_)
  refine lv_aload_n hx hb dX10_sheetCount_2 rfl (lv_at hl 1 rfl) ?_
  refine va_get (D := D) (ci := 8) (v := .ref (S 0)) (C := RX10) (T := TX10) (N := 10) hx hb hts iX10 hown hK hP 17 rfl rfl 0 (by decide) k11 (fun _ h9 => h9) rfl dX10_sheetCount_3 ?_
  refine lv_astore_n (lv' := [(2, .ref (S 0)), (1, .int 0), (0, .ref (B 0))]) hx hb dX10_sheetCount_6 rfl hl (by decide) rfl (fun ls hl => ?_)
  refine lv_aload_n hx hb dX10_sheetCount_7 rfl (lv_at hl 0 rfl) ?_
  refine va_alen (v := 8) hx hb hK hP 16 3 rfl rfl rfl dX10_sheetCount_8 ?_
  refine lv_istore_n (lv' := [(3, .int 8), (2, .ref (S 0)), (1, .int 0), (0, .ref (B 0))]) hx hb dX10_sheetCount_9 rfl hl (by decide) rfl (fun ls hl => ?_)
  refine lv_iconst (v := 0) hx hb dX10_sheetCount_10 (by decide) ?_
  refine lv_istore (lv' := [(4, .int 0), (3, .int 8), (2, .ref (S 0)), (1, .int 0), (0, .ref (B 0))]) hx hb dX10_sheetCount_11 hl (by decide) rfl (fun ls hl => ?_)
  have L_13 : ∀ (n : Nat) (x4_13 : Int32) (x1_13 : Int32) (H : Heap) (locs : List Loc) (ls : Array Slot), 0 ≤ x4_13.toInt → x4_13.toInt ≤ 8 → (8 : Int) < x4_13.toInt + ((n : Nat) : Int) → va_P D vwCl (shW S cI cS sv si ++ (pigW B S U Q V K Z2 Z3 g_landed g_fault g_find ++ R)) H → va_D A (shW S cI cS sv si ++ (pigW B S U Q V K Z2 Z3 g_landed g_fault g_find ++ R)) → va_S A s.heap H locs → lv_has ls 6 [(4, .int x4_13), (3, .int 8), (2, .ref (S 0)), (1, .int x1_13)] → (∀ (u : Int32 × Int32) (H : Heap) (locs : List Loc) (ls : Array Slot), u = lX10_sheetCount_13 sv n x4_13 x1_13 → va_P D vwCl (shW S cI cS sv si ++ (pigW B S U Q V K Z2 Z3 g_landed g_fault g_find ++ R)) H → va_D A (shW S cI cS sv si ++ (pigW B S U Q V K Z2 Z3 g_landed g_fault g_find ++ R)) → va_S A s.heap H locs → lv_has ls 6 [(1, .int u.2)] → W p l e (rmX 1) s m ([.ref (B 0)] : List Value).toArray below meth c H locs 0 0 Qm (F0 m 42 ls [])) → W p l e (rmX 1) s m ([.ref (B 0)] : List Value).toArray below meth c H locs 0 0 Qm (F0 m 13 ls []) := by
    intro n
    induction n with
    | zero =>
      intro x4_13 x1_13 H locs ls iv_13_0 iv_13_1 iv_13_2 hP hD hS hl kont_13
      exfalso; omega
    | succ n ih_13 =>
      intro x4_13 x1_13 H locs ls iv_13_0 iv_13_1 iv_13_2 hP hD hS hl kont_13
      refine lv_iload hx hb dX10_sheetCount_13 (lv_at hl 0 rfl) ?_
      refine lv_iload_n hx hb dX10_sheetCount_15 rfl (lv_at hl 1 rfl) ?_
      refine lv_icmp_ge (tgt := 42) hx hb dX10_sheetCount_16 (by decide) (fun c_1 => ?_) (fun c_1 => ?_)
      · have d_1 := i_le (show (8 : Int32).toInt = 8 from by decide) rfl c_1
        exact kont_13 (x4_13, x1_13) H locs ls (show lX10_sheetCount_13 sv (n + 1) x4_13 x1_13 = (x4_13, x1_13) from ((if_pos c_1).trans rfl)).symm  hP hD hS (lv_sub hl [3] rfl)
      · have d_1 := i_len (show (8 : Int32).toInt = 8 from by decide) rfl c_1
        refine lv_aload_n hx hb dX10_sheetCount_19 rfl (lv_at hl 2 rfl) ?_
        refine lv_iload hx hb dX10_sheetCount_20 (lv_at hl 0 rfl) ?_
        have q_2 : vp_in x4_13 8 := vp_in_iff.mpr ⟨by omega, by omega⟩
        refine va_aldq hx hb hK hP 16 3 rfl rfl q_2 dX10_sheetCount_22 ?_
        refine W.eq (g2 := F0 m 23 ls [.ref (S (1 + x4_13.toNatClampNeg))]) rfl ?_
        have hq_2 : x4_13.toNatClampNeg < 8 := vp_lt q_2
        refine lv_astore (lv' := [(5, .ref (S (1 + x4_13.toNatClampNeg))), (4, .int x4_13), (3, .int 8), (2, .ref (S 0)), (1, .int x1_13)]) hx hb dX10_sheetCount_23 hl (by decide) rfl (fun ls hl => ?_)
        refine lv_aload hx hb dX10_sheetCount_25 (lv_at hl 0 rfl) ?_
        refine va_get (D := D) (ci := 5) (v := .int ((sv x4_13.toNatClampNeg) 1)) (C := RX6) (T := TX6) (N := 4) hx hb hts iX6 hown hK hP x4_13.toNatClampNeg (ss_get hq_2) rfl 1 (by decide) k83 (fun _ h9 => h9) rfl dX10_sheetCount_27 ?_
        have J_4 : ∀ (y_4 : Int32) (H : Heap) (locs : List Loc) (ls : Array Slot), y_4 = (if ((sv x4_13.toNatClampNeg) 1) = 0 then (lt (x1_13 + 1) (fun x_6 : Int32 => x_6)) else (x1_13)) → va_P D vwCl (shW S cI cS sv si ++ (pigW B S U Q V K Z2 Z3 g_landed g_fault g_find ++ R)) H → va_D A (shW S cI cS sv si ++ (pigW B S U Q V K Z2 Z3 g_landed g_fault g_find ++ R)) → va_S A s.heap H locs → lv_has ls 6 [(1, .int y_4), (4, .int x4_13), (3, .int 8), (2, .ref (S 0))] → W p l e (rmX 1) s m ([.ref (B 0)] : List Value).toArray below meth c H locs 0 0 Qm (F0 m 36 ls []) := by
          intro y_4 H locs ls ey_4 hP hD hS hl
          obtain ⟨x_7, ex_7⟩ : ∃ z : Int32, z = x4_13 + 1 := ⟨_, rfl⟩
          refine lv_iinc (v := x_7) (lv' := [(4, .int x_7), (1, .int y_4), (3, .int 8), (2, .ref (S 0))]) hx hb dX10_sheetCount_36 hl (k := 1) rfl (by rw [ex_7]; rfl) (by decide) rfl (fun ls hl => ?_)
          refine lv_goto (tgt := 13) hx hb dX10_sheetCount_39 (by decide) ?_
          try have tx_7 : x_7.toInt = x4_13.toInt + 1 := i_inc ex_7 (by decide) (by omega) (by omega)
          refine ih_13 x_7 y_4 H locs ls (by first | omega | assumption) (by first | omega | assumption) (by first | omega | assumption) hP hD hS (lv_sub hl [0, 2, 3, 1] rfl) (fun u H locs ls eu  hP hD hS hl => ?_)
          exact kont_13 u H locs ls (eu.trans (show lX10_sheetCount_13 sv (n + 1) x4_13 x1_13 = lX10_sheetCount_13 sv n x_7 y_4 from ((if_neg c_1).trans (lt_eq ey_4 (lt_eq ex_7 rfl)))).symm)  hP hD hS hl
        refine lv_if_ne (tgt := 36) hx hb dX10_sheetCount_30 (by decide) (fun c_5 => ?_) (fun c_5 => ?_)
        · have d_5 := i_eqn rfl (show (0 : Int32).toInt = 0 from by decide) c_5
          exact J_4 x1_13 H locs ls (Eq.symm ((if_neg c_5).trans rfl)) hP hD hS (lv_sub hl [4, 1, 2, 3] rfl)
        · have d_5 := i_eq rfl (show (0 : Int32).toInt = 0 from by decide) c_5
          obtain ⟨x_6, ex_6⟩ : ∃ z : Int32, z = x1_13 + 1 := ⟨_, rfl⟩
          refine lv_iinc (v := x_6) (lv' := [(1, .int x_6), (5, .ref (S (1 + x4_13.toNatClampNeg))), (4, .int x4_13), (3, .int 8), (2, .ref (S 0))]) hx hb dX10_sheetCount_33 hl (k := 4) rfl (by rw [ex_6]; rfl) (by decide) rfl (fun ls hl => ?_)
          exact J_4 x_6 H locs ls (Eq.symm ((if_pos c_5).trans (lt_eq ex_6 rfl))) hP hD hS (lv_sub hl [0, 2, 3, 4] rfl)
  refine L_13 9 0 0 H locs ls (by decide) (by decide) (by decide) hP hD hS (lv_sub hl [0, 1, 2, 3] rfl) (fun u_8 H locs ls eu_8  hP hD hS hl => ?_)
  have hP : va_P D vwCl (shW S cI cS sv si ++ (pigW B S U Q V K Z2 Z3 g_landed g_fault g_find ++ R)) H := hP
  have hD : va_D A (shW S cI cS sv si ++ (pigW B S U Q V K Z2 Z3 g_landed g_fault g_find ++ R)) := hD
  refine lv_iload_n hx hb dX10_sheetCount_42 rfl (lv_at hl 0 rfl) ?_
  rw [hQm]
  exact mx_iret (u0 := sX10_sheetCount sv) (rv := (fun u => some (.int u))) (w1 := (fun _ => shW S cI cS sv si ++ (pigW B S U Q V K Z2 Z3 g_landed g_fault g_find ++ R))) (u := (u_8.2)) hx hb hr hlocks hK hS (lt_eq eu_8 rfl) hP hD rfl dX10_sheetCount_43

def sX10_shown (k : Int32) (j : Int32) (nn : Int32) (sv : Nat → Nat → Int32) (si : Nat → Nat → Int32) (g_find : Int32) : Int32 × (Int32) := lt (sX10_isSheet k) (fun u_1 : Int32 => if u_1 = 0 then (((-1000001), g_find)) else (if nn < 1 then (((-1000001), g_find)) else (if nn ≤ 15 then (if ((sv k.toNatClampNeg) 1) = 0 then (lt (sX6_holds j (nn * 4) (sv k.toNatClampNeg)) (fun u_7 : Int32 => if u_7 = 0 then (lt (sX10_found 2) (fun u_13 : Int32 × (Int32) => (u_13.1, u_13.2))) else (lt (sX5_arePrices j nn (si k.toNatClampNeg)) (fun u_9 : Int32 => if u_9 = 0 then (((-1000001), g_find)) else (lt (sX5_waysShown j nn (si k.toNatClampNeg)) (fun u_11 : Int32 => lt (sX10_foundNone u_11) (fun u_12 : Int32 × (Int32) => (u_12.1, u_12.2)))))))) else (lt (sX10_found 1) (fun u_14 : Int32 × (Int32) => (u_14.1, u_14.2)))) else (((-1000001), g_find)))))
set_option maxHeartbeats 4000000 in
set_option maxRecDepth 100000 in
theorem mtX10_shown (l : Launch) (D : va_G) (cI cB cK cS : ClassId) (B S U Q V K Z2 Z3 : Nat → Nat) (R : va_W) (sv : Nat → Nat → Int32) (si : Nat → Nat → Int32) (g_landed : Int32) (g_fault : Int32) (g_find : Int32) (k : Int32) (j : Int32) (nn : Int32) (hsz : ∀ j, j < 8 → 0 ≤ (sv j 3).toInt ∧ (sv j 3).toInt ≤ 60) : MX l yX10_shown wsX10_shown (rmX 6) D (tyX cI cB cK cS) pF0 (shW S cI cS sv si ++ (pigW B S U Q V K Z2 Z3 g_landed g_fault g_find ++ R)) [.ref (B 0), .int k, .int j, .int nn] (sX10_shown k j nn sv si g_find) (fun u => some (.int u.1)) (fun u => shW S cI cS sv si ++ (pigW B S U Q V K Z2 Z3 g_landed g_fault u.2 ++ R)) := by
  refine mx_intro (cc := cX10_shown) (maxL := 5) (ret := (some .int)) (by decide) rfl (Nat.le_of_ble_eq_true rfl) ?_
  intro p e s m below meth c A ls H locs Qm hQm hx hb hr hml hts hown hlocks hA hS hP hK hD hF hl
  have hown : s.vm.findClass RX10 = some m.cls := hown
  have hl : lv_has ls 5 [(0, .ref (B 0)), (1, .int k), (2, .int j), (3, .int nn)] := hl
  have k71 := hts (.constant RX10 71 (-1000001)) (by decide +kernel)
  have k11 := hts (.fieldLink RX10 11 "PigRounds" "sheets" "[LPigRounds$Sheet;") (by decide +kernel)
  have k83 := hts (.fieldLink RX10 83 "PigRounds$Sheet" "missing" "Z") (by decide +kernel)
  have k90 := hts (.fieldLink RX10 90 "PigRounds$Sheet" "items" "[I") (by decide +kernel)
  have iX10 : ∀ w ∈ u_ws RX10 TX10 10, w ∈ wsX10_shown := by decide +kernel
  have iX6 : ∀ w ∈ u_ws RX6 TX6 4, w ∈ wsX10_shown := by decide +kernel
  refine lv_aload_n hx hb dX10_shown_0 rfl (lv_at hl 0 rfl) ?_
  refine lv_iload_n hx hb dX10_shown_1 rfl (lv_at hl 1 rfl) ?_
  refine mx_callV (As := [.int k]) (rest := []) ⟨hx, hb, hml, hown, hts⟩ (mtX10_isSheet l D cI cB cK cS B S U Q V K Z2 Z3 R sv si g_landed g_fault g_find k) (cwV 1 hts gX10_shown_X10_isSheet rfl rfl rfl (by decide +kernel) ⟨Nat.le_of_ble_eq_true rfl, Nat.le_of_ble_eq_true rfl⟩) pF0_ok trivial hK hP hD hS hA 17 rfl rfl rfl rfl hl.1 rfl (Nat.le_of_ble_eq_true rfl) dX10_shown_2 ⟨Nat.le_refl _, Nat.le_refl _⟩ (fun u_1 H locs eu_1 hP hD hS => ?_)
  refine W.eq (g2 := F0 m 5 ls [.int u_1]) rfl ?_
  have hP : va_P D vwCl (shW S cI cS sv si ++ (pigW B S U Q V K Z2 Z3 g_landed g_fault g_find ++ R)) H := hP
  have hD : va_D A (shW S cI cS sv si ++ (pigW B S U Q V K Z2 Z3 g_landed g_fault g_find ++ R)) := hD
  refine lv_if_eq (tgt := 19) hx hb dX10_shown_5 (by decide) (fun c_2 => ?_) (fun c_2 => ?_)
  · have d_2 := i_eq rfl (show (0 : Int32).toInt = 0 from by decide) c_2
    refine lv_ldc (v := (-1000001)) hx hb hown k71 dX10_shown_19 ?_
    rw [hQm]
    exact mx_iret (u0 := sX10_shown k j nn sv si g_find) (rv := (fun u => some (.int u.1))) (w1 := (fun u => shW S cI cS sv si ++ (pigW B S U Q V K Z2 Z3 g_landed g_fault u.2 ++ R))) (u := ((-1000001), g_find)) hx hb hr hlocks hK hS (lt_eq eu_1 ((if_pos c_2).trans rfl)) hP hD rfl dX10_shown_21
  · have d_2 := i_eqn rfl (show (0 : Int32).toInt = 0 from by decide) c_2
    have dt_2 := sX10_isSheet_t eu_1 c_2
    refine lv_iload_n hx hb dX10_shown_8 rfl (lv_at hl 3 rfl) ?_
    refine lv_iconst (v := 1) hx hb dX10_shown_9 (by decide) ?_
    refine lv_icmp_lt (tgt := 19) hx hb dX10_shown_10 (by decide) (fun c_3 => ?_) (fun c_3 => ?_)
    · have d_3 := i_lt rfl (show (1 : Int32).toInt = 1 from by decide) c_3
      refine lv_ldc (v := (-1000001)) hx hb hown k71 dX10_shown_19 ?_
      rw [hQm]
      exact mx_iret (u0 := sX10_shown k j nn sv si g_find) (rv := (fun u => some (.int u.1))) (w1 := (fun u => shW S cI cS sv si ++ (pigW B S U Q V K Z2 Z3 g_landed g_fault u.2 ++ R))) (u := ((-1000001), g_find)) hx hb hr hlocks hK hS (lt_eq eu_1 ((if_neg c_2).trans ((if_pos c_3).trans rfl))) hP hD rfl dX10_shown_21
    · have d_3 := i_ltn rfl (show (1 : Int32).toInt = 1 from by decide) c_3
      refine lv_iload_n hx hb dX10_shown_13 rfl (lv_at hl 3 rfl) ?_
      refine lv_bipush (v := 15) hx hb dX10_shown_14 (by decide) ?_
      refine lv_icmp_le (tgt := 22) hx hb dX10_shown_16 (by decide) (fun c_4 => ?_) (fun c_4 => ?_)
      · have d_4 := i_le rfl (show (15 : Int32).toInt = 15 from by decide) c_4
        refine lv_aload_n hx hb dX10_shown_22 rfl (lv_at hl 0 rfl) ?_
        refine va_get (D := D) (ci := 8) (v := .ref (S 0)) (C := RX10) (T := TX10) (N := 10) hx hb hts iX10 hown hK hP 17 rfl rfl 0 (by decide) k11 (fun _ h9 => h9) rfl dX10_shown_23 ?_
        refine lv_iload_n hx hb dX10_shown_26 rfl (lv_at hl 1 rfl) ?_
        have q_5 : vp_in k 8 := vp_in_iff.mpr ⟨by omega, by omega⟩
        refine va_aldq hx hb hK hP 16 3 rfl rfl q_5 dX10_shown_27 ?_
        refine W.eq (g2 := F0 m 28 ls [.ref (S (1 + k.toNatClampNeg))]) rfl ?_
        have hq_5 : k.toNatClampNeg < 8 := vp_lt q_5
        refine lv_astore (lv' := [(4, .ref (S (1 + k.toNatClampNeg))), (0, .ref (B 0)), (1, .int k), (2, .int j), (3, .int nn)]) hx hb dX10_shown_28 hl (by decide) rfl (fun ls hl => ?_)
        have hs_k := hsz k.toNatClampNeg (vp_lt (vp_in_iff.mpr ⟨by omega, by omega⟩))
        refine lv_aload hx hb dX10_shown_30 (lv_at hl 0 rfl) ?_
        refine va_get (D := D) (ci := 5) (v := .int ((sv k.toNatClampNeg) 1)) (C := RX6) (T := TX6) (N := 4) hx hb hts iX6 hown hK hP k.toNatClampNeg (ss_get hq_5) rfl 1 (by decide) k83 (fun _ h9 => h9) rfl dX10_shown_32 ?_
        refine lv_if_eq (tgt := 44) hx hb dX10_shown_35 (by decide) (fun c_6 => ?_) (fun c_6 => ?_)
        · have d_6 := i_eq rfl (show (0 : Int32).toInt = 0 from by decide) c_6
          refine lv_aload hx hb dX10_shown_44 (lv_at hl 0 rfl) ?_
          refine lv_iload_n hx hb dX10_shown_46 rfl (lv_at hl 3 rfl) ?_
          refine lv_iload_n hx hb dX10_shown_47 rfl (lv_at hl 4 rfl) ?_
          refine lv_iconst (v := 4) hx hb dX10_shown_48 (by decide) ?_
          refine lv_imul hx hb dX10_shown_49 ?_
          refine mx_callV (As := [.int j, .int (nn * 4)]) (rest := []) ⟨hx, hb, hml, hown, hts⟩ (mtX6_holds l D cI cB cK cS (shW S cI cS sv si ++ (pigW B S U Q V K Z2 Z3 g_landed g_fault g_find ++ R)) (S (1 + k.toNatClampNeg)) k.toNatClampNeg (S (9 + k.toNatClampNeg)) (sv k.toNatClampNeg) j (nn * 4) (ss_get hq_5)) (cwV 2 hts gX10_shown_X6_holds rfl rfl rfl (by decide +kernel) ⟨Nat.le_of_ble_eq_true rfl, Nat.le_of_ble_eq_true rfl⟩) pF0_ok trivial hK hP hD hS hA k.toNatClampNeg (ss_get hq_5) rfl rfl rfl hl.1 rfl (Nat.le_of_ble_eq_true rfl) dX10_shown_50 ⟨Nat.le_refl _, Nat.le_refl _⟩ (fun u_7 H locs eu_7 hP hD hS => ?_)
          refine W.eq (g2 := F0 m 53 ls [.int u_7]) rfl ?_
          have hP : va_P D vwCl (shW S cI cS sv si ++ (pigW B S U Q V K Z2 Z3 g_landed g_fault g_find ++ R)) H := hP
          have hD : va_D A (shW S cI cS sv si ++ (pigW B S U Q V K Z2 Z3 g_landed g_fault g_find ++ R)) := hD
          refine lv_if_ne (tgt := 62) hx hb dX10_shown_53 (by decide) (fun c_8 => ?_) (fun c_8 => ?_)
          · have d_8 := i_eqn rfl (show (0 : Int32).toInt = 0 from by decide) c_8
            have dt_8 := sX6_holds_t (hsz _ (by first | assumption | omega)).1 eu_7 c_8
            refine lv_aload hx hb dX10_shown_62 (lv_at hl 0 rfl) ?_
            refine va_get (D := D) (ci := 5) (v := .ref (S (9 + k.toNatClampNeg))) (C := RX6) (T := TX6) (N := 4) hx hb hts iX6 hown hK hP k.toNatClampNeg (ss_get hq_5) rfl 0 (by decide) k90 (fun _ h9 => h9) rfl dX10_shown_64 ?_
            refine lv_iload_n hx hb dX10_shown_67 rfl (lv_at hl 3 rfl) ?_
            refine lv_iload_n hx hb dX10_shown_68 rfl (lv_at hl 4 rfl) ?_
            refine mx_callS (As := [.ref (S (9 + k.toNatClampNeg)), .int j, .int nn]) (rest := []) ⟨hx, hb, hml, hown, hts⟩ (mtX5_arePrices l D cI cB cK cS (shW S cI cS sv si ++ (pigW B S U Q V K Z2 Z3 g_landed g_fault g_find ++ R)) (S (9 + k.toNatClampNeg)) (8 + k.toNatClampNeg) (si k.toNatClampNeg) j nn (si_get hq_5) (by first | assumption | omega) (by first | assumption | omega)) (va_cwS 3 hts gX10_shown_X5_arePrices rfl rfl rfl (by decide +kernel) ⟨Nat.le_of_ble_eq_true rfl, Nat.le_of_ble_eq_true rfl⟩) pF0_ok trivial hK hP hD hS hA rfl hl.1 rfl (Nat.le_of_ble_eq_true rfl) dX10_shown_69 ⟨Nat.le_refl _, Nat.le_refl _⟩ (fun u_9 H locs eu_9 hP hD hS => ?_)
            refine W.eq (g2 := F0 m 72 ls [.int u_9]) rfl ?_
            have hP : va_P D vwCl (shW S cI cS sv si ++ (pigW B S U Q V K Z2 Z3 g_landed g_fault g_find ++ R)) H := hP
            have hD : va_D A (shW S cI cS sv si ++ (pigW B S U Q V K Z2 Z3 g_landed g_fault g_find ++ R)) := hD
            refine lv_if_ne (tgt := 78) hx hb dX10_shown_72 (by decide) (fun c_10 => ?_) (fun c_10 => ?_)
            · have d_10 := i_eqn rfl (show (0 : Int32).toInt = 0 from by decide) c_10
              refine lv_aload_n hx hb dX10_shown_78 rfl (lv_at hl 1 rfl) ?_
              refine lv_aload hx hb dX10_shown_79 (lv_at hl 0 rfl) ?_
              refine va_get (D := D) (ci := 5) (v := .ref (S (9 + k.toNatClampNeg))) (C := RX6) (T := TX6) (N := 4) hx hb hts iX6 hown hK hP k.toNatClampNeg (ss_get hq_5) rfl 0 (by decide) k90 (fun _ h9 => h9) rfl dX10_shown_81 ?_
              refine lv_iload_n hx hb dX10_shown_84 rfl (lv_at hl 3 rfl) ?_
              refine lv_iload_n hx hb dX10_shown_85 rfl (lv_at hl 4 rfl) ?_
              refine mx_callS (As := [.ref (S (9 + k.toNatClampNeg)), .int j, .int nn]) (rest := [.ref (B 0)]) ⟨hx, hb, hml, hown, hts⟩ (mtX5_waysShown l D cI cB cK cS (shW S cI cS sv si ++ (pigW B S U Q V K Z2 Z3 g_landed g_fault g_find ++ R)) (S (9 + k.toNatClampNeg)) (8 + k.toNatClampNeg) (si k.toNatClampNeg) j nn (si_get hq_5) (by first | assumption | omega)) (va_cwS 3 hts gX10_shown_X5_waysShown rfl rfl rfl (by decide +kernel) ⟨Nat.le_of_ble_eq_true rfl, Nat.le_of_ble_eq_true rfl⟩) pF0_ok trivial hK hP hD hS hA rfl hl.1 rfl (Nat.le_of_ble_eq_true rfl) dX10_shown_86 ⟨Nat.le_refl _, Nat.le_refl _⟩ (fun u_11 H locs eu_11 hP hD hS => ?_)
              refine W.eq (g2 := F0 m 89 ls [.int u_11, .ref (B 0)]) rfl ?_
              have hP : va_P D vwCl (shW S cI cS sv si ++ (pigW B S U Q V K Z2 Z3 g_landed g_fault g_find ++ R)) H := hP
              have hD : va_D A (shW S cI cS sv si ++ (pigW B S U Q V K Z2 Z3 g_landed g_fault g_find ++ R)) := hD
              have hpm : List.Perm (shW S cI cS sv si ++ (pigW B S U Q V K Z2 Z3 g_landed g_fault g_find ++ R)) (pigW B S U Q V K Z2 Z3 g_landed g_fault g_find ++ (shW S cI cS sv si ++ R)) := gp_swap
              have hP := gp_P hpm hP
              have hD := gp_D hpm hD
              refine mx_callV (As := [.int u_11]) (rest := []) ⟨hx, hb, hml, hown, hts⟩ (mtX10_foundNone l D cI cB cK cS B S U Q V K Z2 Z3 (shW S cI cS sv si ++ R) g_landed g_fault g_find u_11) (cwV 1 hts gX10_shown_X10_foundNone rfl rfl rfl (by decide +kernel) ⟨Nat.le_of_ble_eq_true rfl, Nat.le_of_ble_eq_true rfl⟩) pF0_ok trivial hK hP hD hS hA 0 rfl rfl rfl rfl hl.1 rfl (Nat.le_of_ble_eq_true rfl) dX10_shown_89 ⟨Nat.le_refl _, Nat.le_refl _⟩ (fun u_12 H locs eu_12 hP hD hS => ?_)
              refine W.eq (g2 := F0 m 92 ls [.int u_12.1]) rfl ?_
              have hP : va_P D vwCl (pigW B S U Q V K Z2 Z3 g_landed g_fault u_12.2 ++ (shW S cI cS sv si ++ R)) H := hP
              have hD : va_D A (pigW B S U Q V K Z2 Z3 g_landed g_fault u_12.2 ++ (shW S cI cS sv si ++ R)) := hD
              have hpm : List.Perm (pigW B S U Q V K Z2 Z3 g_landed g_fault u_12.2 ++ (shW S cI cS sv si ++ R)) (shW S cI cS sv si ++ (pigW B S U Q V K Z2 Z3 g_landed g_fault u_12.2 ++ R)) := gp_swap
              have hP := gp_P hpm hP
              have hD := gp_D hpm hD
              rw [hQm]
              exact mx_iret (u0 := sX10_shown k j nn sv si g_find) (rv := (fun u => some (.int u.1))) (w1 := (fun u => shW S cI cS sv si ++ (pigW B S U Q V K Z2 Z3 g_landed g_fault u.2 ++ R))) (u := (u_12.1, u_12.2)) hx hb hr hlocks hK hS (lt_eq eu_1 ((if_neg c_2).trans ((if_neg c_3).trans ((if_pos c_4).trans ((if_pos c_6).trans (lt_eq eu_7 ((if_neg c_8).trans (lt_eq eu_9 ((if_neg c_10).trans (lt_eq eu_11 (lt_eq eu_12 rfl))))))))))) hP hD rfl dX10_shown_92
            · have d_10 := i_eq rfl (show (0 : Int32).toInt = 0 from by decide) c_10
              refine lv_ldc (v := (-1000001)) hx hb hown k71 dX10_shown_75 ?_
              rw [hQm]
              exact mx_iret (u0 := sX10_shown k j nn sv si g_find) (rv := (fun u => some (.int u.1))) (w1 := (fun u => shW S cI cS sv si ++ (pigW B S U Q V K Z2 Z3 g_landed g_fault u.2 ++ R))) (u := ((-1000001), g_find)) hx hb hr hlocks hK hS (lt_eq eu_1 ((if_neg c_2).trans ((if_neg c_3).trans ((if_pos c_4).trans ((if_pos c_6).trans (lt_eq eu_7 ((if_neg c_8).trans (lt_eq eu_9 ((if_pos c_10).trans rfl))))))))) hP hD rfl dX10_shown_77
          · have d_8 := i_eq rfl (show (0 : Int32).toInt = 0 from by decide) c_8
            refine lv_aload_n hx hb dX10_shown_56 rfl (lv_at hl 1 rfl) ?_
            refine lv_iconst (v := 2) hx hb dX10_shown_57 (by decide) ?_
            have hpm : List.Perm (shW S cI cS sv si ++ (pigW B S U Q V K Z2 Z3 g_landed g_fault g_find ++ R)) (pigW B S U Q V K Z2 Z3 g_landed g_fault g_find ++ (shW S cI cS sv si ++ R)) := gp_swap
            have hP := gp_P hpm hP
            have hD := gp_D hpm hD
            refine mx_callV (As := [.int 2]) (rest := []) ⟨hx, hb, hml, hown, hts⟩ (mtX10_found l D cI cB cK cS B S U Q V K Z2 Z3 (shW S cI cS sv si ++ R) g_landed g_fault g_find 2) (cwV 1 hts gX10_shown_X10_found rfl rfl rfl (by decide +kernel) ⟨Nat.le_of_ble_eq_true rfl, Nat.le_of_ble_eq_true rfl⟩) pF0_ok trivial hK hP hD hS hA 0 rfl rfl rfl rfl hl.1 rfl (Nat.le_of_ble_eq_true rfl) dX10_shown_58 ⟨Nat.le_refl _, Nat.le_refl _⟩ (fun u_13 H locs eu_13 hP hD hS => ?_)
            refine W.eq (g2 := F0 m 61 ls [.int u_13.1]) rfl ?_
            have hP : va_P D vwCl (pigW B S U Q V K Z2 Z3 g_landed g_fault u_13.2 ++ (shW S cI cS sv si ++ R)) H := hP
            have hD : va_D A (pigW B S U Q V K Z2 Z3 g_landed g_fault u_13.2 ++ (shW S cI cS sv si ++ R)) := hD
            have hpm : List.Perm (pigW B S U Q V K Z2 Z3 g_landed g_fault u_13.2 ++ (shW S cI cS sv si ++ R)) (shW S cI cS sv si ++ (pigW B S U Q V K Z2 Z3 g_landed g_fault u_13.2 ++ R)) := gp_swap
            have hP := gp_P hpm hP
            have hD := gp_D hpm hD
            rw [hQm]
            exact mx_iret (u0 := sX10_shown k j nn sv si g_find) (rv := (fun u => some (.int u.1))) (w1 := (fun u => shW S cI cS sv si ++ (pigW B S U Q V K Z2 Z3 g_landed g_fault u.2 ++ R))) (u := (u_13.1, u_13.2)) hx hb hr hlocks hK hS (lt_eq eu_1 ((if_neg c_2).trans ((if_neg c_3).trans ((if_pos c_4).trans ((if_pos c_6).trans (lt_eq eu_7 ((if_pos c_8).trans (lt_eq eu_13 rfl)))))))) hP hD rfl dX10_shown_61
        · have d_6 := i_eqn rfl (show (0 : Int32).toInt = 0 from by decide) c_6
          refine lv_aload_n hx hb dX10_shown_38 rfl (lv_at hl 1 rfl) ?_
          refine lv_iconst (v := 1) hx hb dX10_shown_39 (by decide) ?_
          have hpm : List.Perm (shW S cI cS sv si ++ (pigW B S U Q V K Z2 Z3 g_landed g_fault g_find ++ R)) (pigW B S U Q V K Z2 Z3 g_landed g_fault g_find ++ (shW S cI cS sv si ++ R)) := gp_swap
          have hP := gp_P hpm hP
          have hD := gp_D hpm hD
          refine mx_callV (As := [.int 1]) (rest := []) ⟨hx, hb, hml, hown, hts⟩ (mtX10_found l D cI cB cK cS B S U Q V K Z2 Z3 (shW S cI cS sv si ++ R) g_landed g_fault g_find 1) (cwV 1 hts gX10_shown_X10_found rfl rfl rfl (by decide +kernel) ⟨Nat.le_of_ble_eq_true rfl, Nat.le_of_ble_eq_true rfl⟩) pF0_ok trivial hK hP hD hS hA 0 rfl rfl rfl rfl hl.1 rfl (Nat.le_of_ble_eq_true rfl) dX10_shown_40 ⟨Nat.le_refl _, Nat.le_refl _⟩ (fun u_14 H locs eu_14 hP hD hS => ?_)
          refine W.eq (g2 := F0 m 43 ls [.int u_14.1]) rfl ?_
          have hP : va_P D vwCl (pigW B S U Q V K Z2 Z3 g_landed g_fault u_14.2 ++ (shW S cI cS sv si ++ R)) H := hP
          have hD : va_D A (pigW B S U Q V K Z2 Z3 g_landed g_fault u_14.2 ++ (shW S cI cS sv si ++ R)) := hD
          have hpm : List.Perm (pigW B S U Q V K Z2 Z3 g_landed g_fault u_14.2 ++ (shW S cI cS sv si ++ R)) (shW S cI cS sv si ++ (pigW B S U Q V K Z2 Z3 g_landed g_fault u_14.2 ++ R)) := gp_swap
          have hP := gp_P hpm hP
          have hD := gp_D hpm hD
          rw [hQm]
          exact mx_iret (u0 := sX10_shown k j nn sv si g_find) (rv := (fun u => some (.int u.1))) (w1 := (fun u => shW S cI cS sv si ++ (pigW B S U Q V K Z2 Z3 g_landed g_fault u.2 ++ R))) (u := (u_14.1, u_14.2)) hx hb hr hlocks hK hS (lt_eq eu_1 ((if_neg c_2).trans ((if_neg c_3).trans ((if_pos c_4).trans ((if_neg c_6).trans (lt_eq eu_14 rfl)))))) hP hD rfl dX10_shown_43
      · have d_4 := i_len rfl (show (15 : Int32).toInt = 15 from by decide) c_4
        refine lv_ldc (v := (-1000001)) hx hb hown k71 dX10_shown_19 ?_
        rw [hQm]
        exact mx_iret (u0 := sX10_shown k j nn sv si g_find) (rv := (fun u => some (.int u.1))) (w1 := (fun u => shW S cI cS sv si ++ (pigW B S U Q V K Z2 Z3 g_landed g_fault u.2 ++ R))) (u := ((-1000001), g_find)) hx hb hr hlocks hK hS (lt_eq eu_1 ((if_neg c_2).trans ((if_neg c_3).trans ((if_neg c_4).trans rfl)))) hP hD rfl dX10_shown_21

def sX10_count (w : Int32) (f2 : Nat → Int32) (kv2 : Nat → Nat → Int32) (p_len : Int32) (sv : Nat → Nat → Int32) : Int32 := if w = 0 then (lt (sX10_sheetCount sv) (fun u_2 : Int32 => (u_2))) else (if w = 1 then (((f2 2))) else (if w = 2 then (lt (sX2_farmerCount f2 kv2) (fun u_5 : Int32 => (u_5))) else (if w = 3 then (lt (sX2_outCount f2 kv2) (fun u_7 : Int32 => (u_7))) else (if w = 4 then ((p_len)) else (((-1000001)))))))
set_option maxHeartbeats 4000000 in
set_option maxRecDepth 100000 in
theorem mtX10_count (l : Launch) (D : va_G) (cI cB cK cS : ClassId) (B S U Q V K Z2 Z3 : Nat → Nat) (R : va_W) (f2 : Nat → Int32) (kv2 : Nat → Nat → Int32) (mv2 : Nat → Int32) (p_len : Int32) (p_bytes : Nat → Int32) (sv : Nat → Nat → Int32) (si : Nat → Nat → Int32) (g_landed : Int32) (g_fault : Int32) (g_find : Int32) (w : Int32) : MX l yX10_count wsX10_count (rmX 3) D (tyX cI cB cK cS) pF0 (landW Z2 cK f2 kv2 mv2 ++ (tpW U cB p_len p_bytes ++ (shW S cI cS sv si ++ (pigW B S U Q V K Z2 Z3 g_landed g_fault g_find ++ R)))) [.ref (B 0), .int w] (sX10_count w f2 kv2 p_len sv) (fun u => some (.int u)) (fun _ => landW Z2 cK f2 kv2 mv2 ++ (tpW U cB p_len p_bytes ++ (shW S cI cS sv si ++ (pigW B S U Q V K Z2 Z3 g_landed g_fault g_find ++ R)))) := by
  refine mx_intro (cc := cX10_count) (maxL := 2) (ret := (some .int)) (by decide) rfl (Nat.le_of_ble_eq_true rfl) ?_
  intro p e s m below meth c A ls H locs Qm hQm hx hb hr hml hts hown hlocks hA hS hP hK hD hF hl
  have hown : s.vm.findClass RX10 = some m.cls := hown
  have hl : lv_has ls 2 [(0, .ref (B 0)), (1, .int w)] := hl
  have k48 := hts (.fieldLink RX10 48 "PigRounds" "land" "LPigRounds$Land;") (by decide +kernel)
  have k131 := hts (.fieldLink RX10 131 "PigRounds$Land" "kindCount" "I") (by decide +kernel)
  have k18 := hts (.fieldLink RX10 18 "PigRounds" "tape" "LPigRounds$Tape;") (by decide +kernel)
  have k117 := hts (.fieldLink RX10 117 "PigRounds$Tape" "length" "I") (by decide +kernel)
  have k71 := hts (.constant RX10 71 (-1000001)) (by decide +kernel)
  have iX10 : ∀ w ∈ u_ws RX10 TX10 10, w ∈ wsX10_count := by decide +kernel
  have iX2 : ∀ w ∈ u_ws RX2 TX2 12, w ∈ wsX10_count := by decide +kernel
  have iX7 : ∀ w ∈ u_ws RX7 TX7 2, w ∈ wsX10_count := by decide +kernel
  refine lv_iload_n hx hb dX10_count_0 rfl (lv_at hl 1 rfl) ?_
  rcases Classical.em (w = 0) with c_1 | c_1
  · refine lv_tableIn (tgt := 36) hx hb dX10_count_1 (by rw [c_1]; decide) (by rw [c_1]; decide) (by rw [c_1]; rfl) (by decide) ?_
    refine lv_aload_n hx hb dX10_count_36 rfl (lv_at hl 0 rfl) ?_
    have hpm : List.Perm (landW Z2 cK f2 kv2 mv2 ++ (tpW U cB p_len p_bytes ++ (shW S cI cS sv si ++ (pigW B S U Q V K Z2 Z3 g_landed g_fault g_find ++ R)))) (shW S cI cS sv si ++ (pigW B S U Q V K Z2 Z3 g_landed g_fault g_find ++ (landW Z2 cK f2 kv2 mv2 ++ (tpW U cB p_len p_bytes ++ R)))) := (((gp_swap.trans gp_swap).trans ((List.Perm.append_left _ ((List.Perm.append_left _ gp_swap).trans gp_swap)).trans gp_swap)).trans ((List.Perm.append_left _ ((List.Perm.append_left _ gp_swap).trans gp_swap)).trans gp_swap))
    have hP := gp_P hpm hP
    have hD := gp_D hpm hD
    refine mx_callV (As := []) (rest := []) ⟨hx, hb, hml, hown, hts⟩ (mtX10_sheetCount l D cI cB cK cS B S U Q V K Z2 Z3 (landW Z2 cK f2 kv2 mv2 ++ (tpW U cB p_len p_bytes ++ R)) sv si g_landed g_fault g_find) (cwV 0 hts gX10_count_X10_sheetCount rfl rfl rfl (by decide +kernel) ⟨Nat.le_of_ble_eq_true rfl, Nat.le_of_ble_eq_true rfl⟩) pF0_ok trivial hK hP hD hS hA 17 rfl rfl rfl rfl hl.1 rfl (Nat.le_of_ble_eq_true rfl) dX10_count_37 ⟨Nat.le_refl _, Nat.le_refl _⟩ (fun u_2 H locs eu_2 hP hD hS => ?_)
    refine W.eq (g2 := F0 m 40 ls [.int u_2]) rfl ?_
    have hP : va_P D vwCl (shW S cI cS sv si ++ (pigW B S U Q V K Z2 Z3 g_landed g_fault g_find ++ (landW Z2 cK f2 kv2 mv2 ++ (tpW U cB p_len p_bytes ++ R)))) H := hP
    have hD : va_D A (shW S cI cS sv si ++ (pigW B S U Q V K Z2 Z3 g_landed g_fault g_find ++ (landW Z2 cK f2 kv2 mv2 ++ (tpW U cB p_len p_bytes ++ R)))) := hD
    have hpm : List.Perm (shW S cI cS sv si ++ (pigW B S U Q V K Z2 Z3 g_landed g_fault g_find ++ (landW Z2 cK f2 kv2 mv2 ++ (tpW U cB p_len p_bytes ++ R)))) (landW Z2 cK f2 kv2 mv2 ++ (tpW U cB p_len p_bytes ++ (shW S cI cS sv si ++ (pigW B S U Q V K Z2 Z3 g_landed g_fault g_find ++ R)))) := (((gp_swap.trans gp_swap).trans ((List.Perm.append_left _ ((List.Perm.append_left _ gp_swap).trans gp_swap)).trans gp_swap)).trans ((List.Perm.append_left _ ((List.Perm.append_left _ gp_swap).trans gp_swap)).trans gp_swap))
    have hP := gp_P hpm hP
    have hD := gp_D hpm hD
    rw [hQm]
    exact mx_iret (u0 := sX10_count w f2 kv2 p_len sv) (rv := (fun u => some (.int u))) (w1 := (fun _ => landW Z2 cK f2 kv2 mv2 ++ (tpW U cB p_len p_bytes ++ (shW S cI cS sv si ++ (pigW B S U Q V K Z2 Z3 g_landed g_fault g_find ++ R))))) (u := (u_2)) hx hb hr hlocks hK hS ((if_pos c_1).trans (lt_eq eu_2 rfl)) hP hD rfl dX10_count_40
  · rcases Classical.em (w = 1) with c_3 | c_3
    · refine lv_tableIn (tgt := 41) hx hb dX10_count_1 (by rw [c_3]; decide) (by rw [c_3]; decide) (by rw [c_3]; rfl) (by decide) ?_
      refine lv_aload_n hx hb dX10_count_41 rfl (lv_at hl 0 rfl) ?_
      refine va_get (D := D) (ci := 8) (v := .ref (Z2 0)) (C := RX10) (T := TX10) (N := 10) hx hb hts iX10 hown hK hP 27 rfl rfl 5 (by decide) k48 (fun _ h9 => h9) rfl dX10_count_42 ?_
      refine va_get (D := D) (ci := 2) (v := .int (f2 2)) (C := RX2) (T := TX2) (N := 12) hx hb hts iX2 hown hK hP 5 rfl rfl 2 (by decide) k131 (fun _ h9 => h9) rfl dX10_count_45 ?_
      rw [hQm]
      exact mx_iret (u0 := sX10_count w f2 kv2 p_len sv) (rv := (fun u => some (.int u))) (w1 := (fun _ => landW Z2 cK f2 kv2 mv2 ++ (tpW U cB p_len p_bytes ++ (shW S cI cS sv si ++ (pigW B S U Q V K Z2 Z3 g_landed g_fault g_find ++ R))))) (u := ((f2 2))) hx hb hr hlocks hK hS ((if_neg c_1).trans ((if_pos c_3).trans rfl)) hP hD rfl dX10_count_48
    · rcases Classical.em (w = 2) with c_4 | c_4
      · refine lv_tableIn (tgt := 49) hx hb dX10_count_1 (by rw [c_4]; decide) (by rw [c_4]; decide) (by rw [c_4]; rfl) (by decide) ?_
        refine lv_aload_n hx hb dX10_count_49 rfl (lv_at hl 0 rfl) ?_
        refine va_get (D := D) (ci := 8) (v := .ref (Z2 0)) (C := RX10) (T := TX10) (N := 10) hx hb hts iX10 hown hK hP 27 rfl rfl 5 (by decide) k48 (fun _ h9 => h9) rfl dX10_count_50 ?_
        refine mx_callV (As := []) (rest := []) ⟨hx, hb, hml, hown, hts⟩ (mtX2_farmerCount l D cI cB cK cS Z2 (tpW U cB p_len p_bytes ++ (shW S cI cS sv si ++ (pigW B S U Q V K Z2 Z3 g_landed g_fault g_find ++ R))) f2 kv2 mv2) (cwV 0 hts gX10_count_X2_farmerCount rfl rfl rfl (by decide +kernel) ⟨Nat.le_of_ble_eq_true rfl, Nat.le_of_ble_eq_true rfl⟩) pF0_ok trivial hK hP hD hS hA 5 rfl rfl rfl rfl hl.1 rfl (Nat.le_of_ble_eq_true rfl) dX10_count_53 ⟨Nat.le_refl _, Nat.le_refl _⟩ (fun u_5 H locs eu_5 hP hD hS => ?_)
        refine W.eq (g2 := F0 m 56 ls [.int u_5]) rfl ?_
        have hP : va_P D vwCl (landW Z2 cK f2 kv2 mv2 ++ (tpW U cB p_len p_bytes ++ (shW S cI cS sv si ++ (pigW B S U Q V K Z2 Z3 g_landed g_fault g_find ++ R)))) H := hP
        have hD : va_D A (landW Z2 cK f2 kv2 mv2 ++ (tpW U cB p_len p_bytes ++ (shW S cI cS sv si ++ (pigW B S U Q V K Z2 Z3 g_landed g_fault g_find ++ R)))) := hD
        rw [hQm]
        exact mx_iret (u0 := sX10_count w f2 kv2 p_len sv) (rv := (fun u => some (.int u))) (w1 := (fun _ => landW Z2 cK f2 kv2 mv2 ++ (tpW U cB p_len p_bytes ++ (shW S cI cS sv si ++ (pigW B S U Q V K Z2 Z3 g_landed g_fault g_find ++ R))))) (u := (u_5)) hx hb hr hlocks hK hS ((if_neg c_1).trans ((if_neg c_3).trans ((if_pos c_4).trans (lt_eq eu_5 rfl)))) hP hD rfl dX10_count_56
      · rcases Classical.em (w = 3) with c_6 | c_6
        · refine lv_tableIn (tgt := 57) hx hb dX10_count_1 (by rw [c_6]; decide) (by rw [c_6]; decide) (by rw [c_6]; rfl) (by decide) ?_
          refine lv_aload_n hx hb dX10_count_57 rfl (lv_at hl 0 rfl) ?_
          refine va_get (D := D) (ci := 8) (v := .ref (Z2 0)) (C := RX10) (T := TX10) (N := 10) hx hb hts iX10 hown hK hP 27 rfl rfl 5 (by decide) k48 (fun _ h9 => h9) rfl dX10_count_58 ?_
          refine mx_callV (As := []) (rest := []) ⟨hx, hb, hml, hown, hts⟩ (mtX2_outCount l D cI cB cK cS Z2 (tpW U cB p_len p_bytes ++ (shW S cI cS sv si ++ (pigW B S U Q V K Z2 Z3 g_landed g_fault g_find ++ R))) f2 kv2 mv2) (cwV 0 hts gX10_count_X2_outCount rfl rfl rfl (by decide +kernel) ⟨Nat.le_of_ble_eq_true rfl, Nat.le_of_ble_eq_true rfl⟩) pF0_ok trivial hK hP hD hS hA 5 rfl rfl rfl rfl hl.1 rfl (Nat.le_of_ble_eq_true rfl) dX10_count_61 ⟨Nat.le_refl _, Nat.le_refl _⟩ (fun u_7 H locs eu_7 hP hD hS => ?_)
          refine W.eq (g2 := F0 m 64 ls [.int u_7]) rfl ?_
          have hP : va_P D vwCl (landW Z2 cK f2 kv2 mv2 ++ (tpW U cB p_len p_bytes ++ (shW S cI cS sv si ++ (pigW B S U Q V K Z2 Z3 g_landed g_fault g_find ++ R)))) H := hP
          have hD : va_D A (landW Z2 cK f2 kv2 mv2 ++ (tpW U cB p_len p_bytes ++ (shW S cI cS sv si ++ (pigW B S U Q V K Z2 Z3 g_landed g_fault g_find ++ R)))) := hD
          rw [hQm]
          exact mx_iret (u0 := sX10_count w f2 kv2 p_len sv) (rv := (fun u => some (.int u))) (w1 := (fun _ => landW Z2 cK f2 kv2 mv2 ++ (tpW U cB p_len p_bytes ++ (shW S cI cS sv si ++ (pigW B S U Q V K Z2 Z3 g_landed g_fault g_find ++ R))))) (u := (u_7)) hx hb hr hlocks hK hS ((if_neg c_1).trans ((if_neg c_3).trans ((if_neg c_4).trans ((if_pos c_6).trans (lt_eq eu_7 rfl))))) hP hD rfl dX10_count_64
        · rcases Classical.em (w = 4) with c_8 | c_8
          · refine lv_tableIn (tgt := 65) hx hb dX10_count_1 (by rw [c_8]; decide) (by rw [c_8]; decide) (by rw [c_8]; rfl) (by decide) ?_
            refine lv_aload_n hx hb dX10_count_65 rfl (lv_at hl 0 rfl) ?_
            refine va_get (D := D) (ci := 8) (v := .ref (U 0)) (C := RX10) (T := TX10) (N := 10) hx hb hts iX10 hown hK hP 27 rfl rfl 1 (by decide) k18 (fun _ h9 => h9) rfl dX10_count_66 ?_
            refine va_get (D := D) (ci := 6) (v := .int p_len) (C := RX7) (T := TX7) (N := 2) hx hb hts iX7 hown hK hP 8 rfl rfl 1 (by decide) k117 (fun _ h9 => h9) rfl dX10_count_69 ?_
            rw [hQm]
            exact mx_iret (u0 := sX10_count w f2 kv2 p_len sv) (rv := (fun u => some (.int u))) (w1 := (fun _ => landW Z2 cK f2 kv2 mv2 ++ (tpW U cB p_len p_bytes ++ (shW S cI cS sv si ++ (pigW B S U Q V K Z2 Z3 g_landed g_fault g_find ++ R))))) (u := (p_len)) hx hb hr hlocks hK hS ((if_neg c_1).trans ((if_neg c_3).trans ((if_neg c_4).trans ((if_neg c_6).trans ((if_pos c_8).trans rfl))))) hP hD rfl dX10_count_72
          · refine lv_tableOut (tgt := 73) hx hb dX10_count_1 (by have := lv_neT c_1 (show (0 : Int32).toInt = 0 from by decide); have := lv_neT c_3 (show (1 : Int32).toInt = 1 from by decide); have := lv_neT c_4 (show (2 : Int32).toInt = 2 from by decide); have := lv_neT c_6 (show (3 : Int32).toInt = 3 from by decide); have := lv_neT c_8 (show (4 : Int32).toInt = 4 from by decide); omega) (by decide) ?_
            refine lv_ldc (v := (-1000001)) hx hb hown k71 dX10_count_73 ?_
            rw [hQm]
            exact mx_iret (u0 := sX10_count w f2 kv2 p_len sv) (rv := (fun u => some (.int u))) (w1 := (fun _ => landW Z2 cK f2 kv2 mv2 ++ (tpW U cB p_len p_bytes ++ (shW S cI cS sv si ++ (pigW B S U Q V K Z2 Z3 g_landed g_fault g_find ++ R))))) (u := ((-1000001))) hx hb hr hlocks hK hS ((if_neg c_1).trans ((if_neg c_3).trans ((if_neg c_4).trans ((if_neg c_6).trans ((if_neg c_8).trans rfl))))) hP hD rfl dX10_count_75
