def sX2_nextKind (f : Nat → Int32) (kv : Nat → Nat → Int32) : Option Nat × (Nat → Int32) × (Nat → Nat → Int32) := if (f 2) < 5 then (lt (va_up kv ((f 2).toNatClampNeg) (upd (kv ((f 2).toNatClampNeg)) 7 0)) (fun kv_3 : Nat → Nat → Int32 => (some ((f 2).toNatClampNeg), upd f 2 ((f 2) + 1), kv_3))) else ((none, f, kv))
set_option maxHeartbeats 4000000 in
set_option maxRecDepth 100000 in
theorem mtX2_nextKind (l : Launch) (D : va_G) (cI cB cK cS : ClassId) (Z : Nat → Nat) (R : va_W) (f : Nat → Int32) (kv : Nat → Nat → Int32) (mv : Nat → Int32) (hk0 : 0 ≤ (f 2).toInt) : MX l yX2_nextKind wsX2_nextKind (rmX 1) D (tyX cI cB cK cS) pF0 (landW Z cK f kv mv ++ R) [.ref (Z 0)] (sX2_nextKind f kv) (fun u => some (va_rf (u.1.map (fun j => Z (3 + j))))) (fun u => landW Z cK u.2.1 u.2.2 mv ++ R) := by
  refine mx_intro (cc := cX2_nextKind) (maxL := 2) (ret := (some (.object "PigRounds$Kind"))) (by decide) rfl (Nat.le_of_ble_eq_true rfl) ?_
  intro p e s m below meth c A ls H locs Qm hQm hx hb hr hml hts hown hlocks hA hS hP hK hD hF hl
  have hown : s.vm.findClass RX2 = some m.cls := hown
  have hl : lv_has ls 2 [(0, .ref (Z 0))] := hl
  have k24 := hts (.fieldLink RX2 24 "PigRounds$Land" "kindCount" "I") (by decide +kernel)
  have k11 := hts (.fieldLink RX2 11 "PigRounds$Land" "kinds" "[LPigRounds$Kind;") (by decide +kernel)
  have k70 := hts (.fieldLink RX2 70 "PigRounds$Kind" "out" "Z") (by decide +kernel)
  have iX1 : ∀ w ∈ u_ws RX1 TX1 9, w ∈ wsX2_nextKind := by decide +kernel
  have iX2 : ∀ w ∈ u_ws RX2 TX2 12, w ∈ wsX2_nextKind := by decide +kernel
  refine lv_aload_n hx hb dX2_nextKind_0 rfl (lv_at hl 0 rfl) ?_
  refine va_get (D := D) (ci := 2) (v := .int (f 2)) (C := RX2) (T := TX2) (N := 12) hx hb hts iX2 hown hK hP 5 rfl rfl 2 (by decide) k24 (fun _ h9 => h9) rfl dX2_nextKind_1 ?_
  refine lv_aload_n hx hb dX2_nextKind_4 rfl (lv_at hl 0 rfl) ?_
  refine va_get (D := D) (ci := 2) (v := .ref (Z 1)) (C := RX2) (T := TX2) (N := 12) hx hb hts iX2 hown hK hP 5 rfl rfl 0 (by decide) k11 (fun _ h9 => h9) rfl dX2_nextKind_5 ?_
  refine va_alen (v := 5) hx hb hK hP 6 2 rfl rfl rfl dX2_nextKind_8 ?_
  refine lv_icmp_lt (tgt := 14) hx hb dX2_nextKind_9 (by decide) (fun c_1 => ?_) (fun c_1 => ?_)
  · have d_1 := i_lt rfl (show (5 : Int32).toInt = 5 from by decide) c_1
    refine lv_aload_n hx hb dX2_nextKind_14 rfl (lv_at hl 0 rfl) ?_
    refine va_get (D := D) (ci := 2) (v := .ref (Z 1)) (C := RX2) (T := TX2) (N := 12) hx hb hts iX2 hown hK hP 5 rfl rfl 0 (by decide) k11 (fun _ h9 => h9) rfl dX2_nextKind_15 ?_
    refine lv_aload_n hx hb dX2_nextKind_18 rfl (lv_at hl 0 rfl) ?_
    refine va_get (D := D) (ci := 2) (v := .int (f 2)) (C := RX2) (T := TX2) (N := 12) hx hb hts iX2 hown hK hP 5 rfl rfl 2 (by decide) k24 (fun _ h9 => h9) rfl dX2_nextKind_19 ?_
    have q_2 : vp_in (f 2) 5 := vp_in_iff.mpr ⟨by omega, by omega⟩
    refine va_aldq hx hb hK hP 6 2 rfl rfl q_2 dX2_nextKind_22 ?_
    refine W.eq (g2 := F0 m 23 ls [.ref (Z (3 + ((f 2).toNatClampNeg)))]) rfl ?_
    have hq_2 : (f 2).toNatClampNeg < 5 := vp_lt q_2
    refine lv_astore_n (lv' := [(1, .ref (Z (3 + ((f 2).toNatClampNeg)))), (0, .ref (Z 0))]) hx hb dX2_nextKind_23 rfl hl (by decide) rfl (fun ls hl => ?_)
    refine lv_aload_n hx hb dX2_nextKind_24 rfl (lv_at hl 0 rfl) ?_
    refine lv_iconst (v := 0) hx hb dX2_nextKind_25 (by decide) ?_
    refine va_put (D := D) (ci := 1) (v := .int 0) (ty := .boolean) (C := RX1) (T := TX1) (N := 9) hx hb hts iX1 tyX1 tyX1_ok nmX1 hown hK hP hD hS ((f 2).toNatClampNeg) (kk_get hq_2) rfl 7 (by decide) k70 (fun _ h9 => h9) rfl (by decide +kernel) rfl rfl (Nat.le_of_ble_eq_true rfl) dX2_nextKind_26 (fun H locs hP hD hS => ?_)
    have hP : va_P D vwCl ((landW Z cK f kv mv ++ R).set ((f 2).toNatClampNeg) (Z (3 + ((f 2).toNatClampNeg)), .inr (1, kf (upd (kv ((f 2).toNatClampNeg)) 7 0)))) H := hP
    rw [kk_set hq_2] at hP
    have hD : va_D A ((landW Z cK f kv mv ++ R).set ((f 2).toNatClampNeg) (Z (3 + ((f 2).toNatClampNeg)), .inr (1, kf (upd (kv ((f 2).toNatClampNeg)) 7 0)))) := hD
    rw [kk_set hq_2] at hD
    obtain ⟨kv_3, ekv_3⟩ : ∃ z : Nat → Nat → Int32, z = va_up kv ((f 2).toNatClampNeg) (upd (kv ((f 2).toNatClampNeg)) 7 0) := ⟨_, rfl⟩
    rw [← ekv_3] at hP hD
    have hP : va_P D vwCl (landW Z cK f kv_3 mv ++ R) H := hP
    have hD : va_D A (landW Z cK f kv_3 mv ++ R) := hD
    refine lv_aload_n hx hb dX2_nextKind_29 rfl (lv_at hl 1 rfl) ?_
    refine lv_dup hx hb dX2_nextKind_30 rfl ?_
    refine va_get (D := D) (ci := 2) (v := .int (f 2)) (C := RX2) (T := TX2) (N := 12) hx hb hts iX2 hown hK hP 5 rfl rfl 2 (by decide) k24 (fun _ h9 => h9) rfl dX2_nextKind_31 ?_
    refine lv_iconst (v := 1) hx hb dX2_nextKind_34 (by decide) ?_
    refine lv_iadd hx hb dX2_nextKind_35 ?_
    refine va_put (D := D) (ci := 2) (v := .int ((f 2) + 1)) (ty := .int) (C := RX2) (T := TX2) (N := 12) hx hb hts iX2 tyX2 tyX2_ok nmX2 hown hK hP hD hS 5 rfl rfl 2 (by decide) k24 (fun _ h9 => h9) rfl (by decide +kernel) rfl rfl (Nat.le_of_ble_eq_true rfl) dX2_nextKind_36 (fun H locs hP hD hS => ?_)
    have hP : va_P D vwCl (landW Z cK (upd f 2 ((f 2) + 1)) kv_3 mv ++ R) H := hP
    have hD : va_D A (landW Z cK (upd f 2 ((f 2) + 1)) kv_3 mv ++ R) := hD
    refine lv_aload_n hx hb dX2_nextKind_39 rfl (lv_at hl 0 rfl) ?_
    rw [hQm]
    exact mx_aret (u0 := sX2_nextKind f kv) (rv := (fun u => some (va_rf (u.1.map (fun j => Z (3 + j)))))) (w1 := (fun u => landW Z cK u.2.1 u.2.2 mv ++ R)) (u := (some ((f 2).toNatClampNeg), upd f 2 ((f 2) + 1), kv_3)) hx hb hr hlocks hK hS ((if_pos c_1).trans (lt_eq ekv_3 rfl)) hP hD rfl (Or.inr ⟨_, rfl⟩) dX2_nextKind_40
  · have d_1 := i_ltn rfl (show (5 : Int32).toInt = 5 from by decide) c_1
    refine lv_null hx hb dX2_nextKind_12 ?_
    rw [hQm]
    exact mx_aret (u0 := sX2_nextKind f kv) (rv := (fun u => some (va_rf (u.1.map (fun j => Z (3 + j)))))) (w1 := (fun u => landW Z cK u.2.1 u.2.2 mv ++ R)) (u := (none, f, kv)) hx hb hr hlocks hK hS ((if_neg c_1).trans rfl) hP hD rfl (Or.inl rfl) dX2_nextKind_13
theorem sX2_nextKind_lt {f : Nat → Int32} {kv : Nat → Nat → Int32} {u : Option Nat × (Nat → Int32) × (Nat → Nat → Int32)} (h0 : 0 ≤ (f 2).toInt) (e : u = sX2_nextKind f kv) (h : ¬ u.1 = none) : u.1.getD 0 < 5 := by
  rw [e] at h ⊢
  unfold sX2_nextKind at h ⊢
  by_cases c : (f 2) < 5
  · rw [if_pos c]
    have d := i_lt rfl (show (5 : Int32).toInt = 5 from by decide) c
    show (f 2).toNatClampNeg < 5
    exact vp_lt (vp_in_iff.mpr ⟨h0, by omega⟩)
  · rw [if_neg c] at h
    exact absurd rfl h
theorem sX2_nextKind_kc {f : Nat → Int32} {kv : Nat → Nat → Int32} {u : Option Nat × (Nat → Int32) × (Nat → Nat → Int32)} (h0 : 0 ≤ (f 2).toInt) (e : u = sX2_nextKind f kv) : 0 ≤ (u.2.1 2).toInt := by
  rw [e]
  unfold sX2_nextKind
  by_cases c : (f 2) < 5
  · rw [if_pos c]
    have d := i_lt rfl (show (5 : Int32).toInt = 5 from by decide) c
    show 0 ≤ (f 2 + 1).toInt
    rw [i_addv (a := f 2) rfl (show (1 : Int32).toInt = 1 from by decide) (by omega) (by omega)]
    omega
  · rw [if_neg c]
    exact h0
def sX4_readMarket (f : Nat → Int32) (p_len : Int32) (p_bytes : Nat → Int32) (d_place : Int32) (d_fault : Int32) (d_num : Nat → Int32) : Int32 × (Nat → Int32) × (Int32) × (Int32) × (Int32) × (Int32) × (Int32) × (Nat → Int32) := lt (sX4_takeName 0 p_len p_bytes d_place d_fault) (fun u_1 : Int32 × (Int32) × (Int32) × (Int32) × (Int32) × (Int32) => if u_1.1 = 0 then ((0, f, u_1.2.1, u_1.2.2.1, u_1.2.2.2.1, u_1.2.2.2.2.1, u_1.2.2.2.2.2, d_num)) else (lt (sX4_takeNumbers 3 4 p_len p_bytes u_1.2.1 u_1.2.2.1 u_1.2.2.2.1 u_1.2.2.2.2.1 u_1.2.2.2.2.2 d_num) (fun u_3 : Int32 × (Int32) × (Int32) × (Int32) × (Int32) × (Int32) × (Nat → Int32) => if u_3.1 = 0 then ((0, f, u_3.2.1, u_3.2.2.1, u_3.2.2.2.1, u_3.2.2.2.2.1, u_3.2.2.2.2.2.1, u_3.2.2.2.2.2.2)) else ((1, upd (upd (upd f 3 (u_3.2.2.2.2.2.2 0)) 4 (u_3.2.2.2.2.2.2 1)) 5 (u_3.2.2.2.2.2.2 2), u_3.2.1, u_3.2.2.1, u_3.2.2.2.1, u_3.2.2.2.2.1, u_3.2.2.2.2.2.1, u_3.2.2.2.2.2.2)))))
set_option maxHeartbeats 4000000 in
set_option maxRecDepth 100000 in
theorem mtX4_readMarket (l : Launch) (D : va_G) (cI cB cK cS : ClassId) (t ks kb : Nat → Nat) (Z U Q : Nat → Nat) (R : va_W) (f : Nat → Int32) (kv : Nat → Nat → Int32) (mv : Nat → Int32) (p_len : Int32) (p_bytes : Nat → Int32) (d_place : Int32) (d_token : Int32) (d_value : Int32) (d_start : Int32) (d_fault : Int32) (d_num : Nat → Int32) (hpl : pl_ok d_place) (hl1 : p_len.toInt ≤ 400) (hk0 : 0 ≤ (f 2).toInt) : MX l yX4_readMarket wsX4_readMarket (rmX 7) D (tyX cI cB cK cS) (pFs t ks kb) (landW Z cK f kv mv ++ (tpW U cB p_len p_bytes ++ (rdW Q U cI d_place d_token d_value d_start d_fault d_num ++ R))) [.ref (Q 0), .ref (Z 0)] (sX4_readMarket f p_len p_bytes d_place d_fault d_num) (fun u => some (.int u.1)) (fun u => landW Z cK u.2.1 kv mv ++ (tpW U cB p_len p_bytes ++ (rdW Q U cI u.2.2.1 u.2.2.2.1 u.2.2.2.2.1 u.2.2.2.2.2.1 u.2.2.2.2.2.2.1 u.2.2.2.2.2.2.2 ++ R))) := by
  refine mx_intro (cc := cX4_readMarket) (maxL := 2) (ret := (some .boolean)) (by decide) rfl (Nat.le_of_ble_eq_true rfl) ?_
  intro p e s m below meth c A ls H locs Qm hQm hx hb hr hml hts hown hlocks hA hS hP hK hD hF hl
  have hown : s.vm.findClass RX4 = some m.cls := hown
  have hl : lv_has ls 2 [(0, .ref (Q 0)), (1, .ref (Z 0))] := hl
  have k59 := hts (.fieldLink RX4 59 "PigRounds$Reader" "LEAST_OF_MARKET" "[I") (by decide +kernel)
  have k62 := hts (.fieldLink RX4 62 "PigRounds$Reader" "MOST_OF_MARKET" "[I") (by decide +kernel)
  have k9 := hts (.fieldLink RX4 9 "PigRounds$Reader" "numbers" "[I") (by decide +kernel)
  have k69 := hts (.fieldLink RX4 69 "PigRounds$Land" "top" "I") (by decide +kernel)
  have k72 := hts (.fieldLink RX4 72 "PigRounds$Land" "depth" "I") (by decide +kernel)
  have k75 := hts (.fieldLink RX4 75 "PigRounds$Land" "feed" "I") (by decide +kernel)
  have iX2 : ∀ w ∈ u_ws RX2 TX2 12, w ∈ wsX4_readMarket := by decide +kernel
  have iX4 : ∀ w ∈ u_ws RX4 TX4 7, w ∈ wsX4_readMarket := by decide +kernel
  refine lv_aload_n hx hb dX4_readMarket_0 rfl (lv_at hl 0 rfl) ?_
  refine va_ldcS hx hb hown (hF.2.2.2.2 0 (by decide)) dX4_readMarket_1 ?_
  have hpm : List.Perm (landW Z cK f kv mv ++ (tpW U cB p_len p_bytes ++ (rdW Q U cI d_place d_token d_value d_start d_fault d_num ++ R))) (tpW U cB p_len p_bytes ++ (rdW Q U cI d_place d_token d_value d_start d_fault d_num ++ (landW Z cK f kv mv ++ R))) := (((List.Perm.append_left _ gp_swap).trans gp_swap).trans ((List.Perm.append_left _ gp_swap).trans gp_swap))
  have hP := gp_P hpm hP
  have hD := gp_D hpm hD
  refine mx_callV (As := [.ref (ks 0)]) (rest := []) ⟨hx, hb, hml, hown, hts⟩ (mtX4_takeName l D cI cB cK cS t ks kb U Q (landW Z cK f kv mv ++ R) 0 p_len p_bytes d_place d_token d_value d_start d_fault d_num (by assumption) (by assumption) (by first | decide | assumption)) (cwV 1 hts gX4_readMarket_X4_takeName rfl rfl rfl (by decide +kernel) ⟨Nat.le_of_ble_eq_true rfl, Nat.le_of_ble_eq_true rfl⟩) pFs_ok hF hK hP hD hS hA 2 rfl rfl rfl rfl hl.1 rfl (Nat.le_of_ble_eq_true rfl) dX4_readMarket_3 ⟨Nat.le_refl _, Nat.le_refl _⟩ (fun u_1 H locs eu_1 hP hD hS => ?_)
  refine W.eq (g2 := F0 m 6 ls [.int u_1.1]) rfl ?_
  have hP : va_P D vwCl (tpW U cB p_len p_bytes ++ (rdW Q U cI u_1.2.1 u_1.2.2.1 u_1.2.2.2.1 u_1.2.2.2.2.1 u_1.2.2.2.2.2 d_num ++ (landW Z cK f kv mv ++ R))) H := hP
  have hD : va_D A (tpW U cB p_len p_bytes ++ (rdW Q U cI u_1.2.1 u_1.2.2.1 u_1.2.2.2.1 u_1.2.2.2.2.1 u_1.2.2.2.2.2 d_num ++ (landW Z cK f kv mv ++ R))) := hD
  have hpm : List.Perm (tpW U cB p_len p_bytes ++ (rdW Q U cI u_1.2.1 u_1.2.2.1 u_1.2.2.2.1 u_1.2.2.2.2.1 u_1.2.2.2.2.2 d_num ++ (landW Z cK f kv mv ++ R))) (landW Z cK f kv mv ++ (tpW U cB p_len p_bytes ++ (rdW Q U cI u_1.2.1 u_1.2.2.1 u_1.2.2.2.1 u_1.2.2.2.2.1 u_1.2.2.2.2.2 d_num ++ R))) := ((gp_swap.trans gp_swap).trans ((List.Perm.append_left _ gp_swap).trans gp_swap))
  have hP := gp_P hpm hP
  have hD := gp_D hpm hD
  have hpl_u_1 := sX4_takeName_ok (by assumption) (by assumption) eu_1
  refine lv_if_eq (tgt := 22) hx hb dX4_readMarket_6 (by decide) (fun c_2 => ?_) (fun c_2 => ?_)
  · refine lv_iconst (v := 0) hx hb dX4_readMarket_22 (by decide) ?_
    rw [hQm]
    exact mx_zret (u0 := sX4_readMarket f p_len p_bytes d_place d_fault d_num) (rv := (fun u => some (.int u.1))) (w1 := (fun u => landW Z cK u.2.1 kv mv ++ (tpW U cB p_len p_bytes ++ (rdW Q U cI u.2.2.1 u.2.2.2.1 u.2.2.2.2.1 u.2.2.2.2.2.1 u.2.2.2.2.2.2.1 u.2.2.2.2.2.2.2 ++ R)))) (u := (0, f, u_1.2.1, u_1.2.2.1, u_1.2.2.2.1, u_1.2.2.2.2.1, u_1.2.2.2.2.2, d_num)) hx hb hr hlocks hK hS (lt_eq eu_1 ((if_pos c_2).trans rfl)) hP hD rfl rfl dX4_readMarket_23
  · refine lv_aload_n hx hb dX4_readMarket_9 rfl (lv_at hl 0 rfl) ?_
    refine va_gets (v := .ref (t 3)) hx hb (hF.1 3 (by decide)).1 hS hown k59 (fun _ h9 => h9) dX4_readMarket_10 ?_
    refine va_gets (v := .ref (t 4)) hx hb (hF.1 4 (by decide)).1 hS hown k62 (fun _ h9 => h9) dX4_readMarket_13 ?_
    have hpm : List.Perm (landW Z cK f kv mv ++ (tpW U cB p_len p_bytes ++ (rdW Q U cI u_1.2.1 u_1.2.2.1 u_1.2.2.2.1 u_1.2.2.2.2.1 u_1.2.2.2.2.2 d_num ++ R))) (tpW U cB p_len p_bytes ++ (rdW Q U cI u_1.2.1 u_1.2.2.1 u_1.2.2.2.1 u_1.2.2.2.2.1 u_1.2.2.2.2.2 d_num ++ (landW Z cK f kv mv ++ R))) := (((List.Perm.append_left _ gp_swap).trans gp_swap).trans ((List.Perm.append_left _ gp_swap).trans gp_swap))
    have hP := gp_P hpm hP
    have hD := gp_D hpm hD
    refine mx_callV (As := [.ref (t 3), .ref (t 4)]) (rest := []) ⟨hx, hb, hml, hown, hts⟩ (mtX4_takeNumbers l D cI cB cK cS t ks kb U Q (landW Z cK f kv mv ++ R) 3 4 p_len p_bytes u_1.2.1 u_1.2.2.1 u_1.2.2.2.1 u_1.2.2.2.2.1 u_1.2.2.2.2.2 d_num (by assumption) (by assumption) (by decide) (by decide)) (cwV 2 hts gX4_readMarket_X4_takeNumbers rfl rfl rfl (by decide +kernel) ⟨Nat.le_of_ble_eq_true rfl, Nat.le_of_ble_eq_true rfl⟩) pFs_ok hF hK hP hD hS hA 2 rfl rfl rfl rfl hl.1 rfl (Nat.le_of_ble_eq_true rfl) dX4_readMarket_16 ⟨Nat.le_refl _, Nat.le_refl _⟩ (fun u_3 H locs eu_3 hP hD hS => ?_)
    refine W.eq (g2 := F0 m 19 ls [.int u_3.1]) rfl ?_
    have hP : va_P D vwCl (tpW U cB p_len p_bytes ++ (rdW Q U cI u_3.2.1 u_3.2.2.1 u_3.2.2.2.1 u_3.2.2.2.2.1 u_3.2.2.2.2.2.1 u_3.2.2.2.2.2.2 ++ (landW Z cK f kv mv ++ R))) H := hP
    have hD : va_D A (tpW U cB p_len p_bytes ++ (rdW Q U cI u_3.2.1 u_3.2.2.1 u_3.2.2.2.1 u_3.2.2.2.2.1 u_3.2.2.2.2.2.1 u_3.2.2.2.2.2.2 ++ (landW Z cK f kv mv ++ R))) := hD
    have hpm : List.Perm (tpW U cB p_len p_bytes ++ (rdW Q U cI u_3.2.1 u_3.2.2.1 u_3.2.2.2.1 u_3.2.2.2.2.1 u_3.2.2.2.2.2.1 u_3.2.2.2.2.2.2 ++ (landW Z cK f kv mv ++ R))) (landW Z cK f kv mv ++ (tpW U cB p_len p_bytes ++ (rdW Q U cI u_3.2.1 u_3.2.2.1 u_3.2.2.2.1 u_3.2.2.2.2.1 u_3.2.2.2.2.2.1 u_3.2.2.2.2.2.2 ++ R))) := ((gp_swap.trans gp_swap).trans ((List.Perm.append_left _ gp_swap).trans gp_swap))
    have hP := gp_P hpm hP
    have hD := gp_D hpm hD
    have hpl_u_3 := sX4_takeNumbers_ok (by assumption) (by assumption) eu_3
    refine lv_if_ne (tgt := 24) hx hb dX4_readMarket_19 (by decide) (fun c_4 => ?_) (fun c_4 => ?_)
    · refine lv_aload_n hx hb dX4_readMarket_24 rfl (lv_at hl 1 rfl) ?_
      refine lv_aload_n hx hb dX4_readMarket_25 rfl (lv_at hl 0 rfl) ?_
      refine va_get (D := D) (ci := 4) (v := .ref (Q 1)) (C := RX4) (T := TX4) (N := 7) hx hb hts iX4 hown hK hP 10 rfl rfl 1 (by decide) k9 (fun _ h9 => h9) rfl dX4_readMarket_26 ?_
      refine lv_iconst (v := 0) hx hb dX4_readMarket_29 (by decide) ?_
      have q_5 : vp_in (0 : Int32) 5 := vp_in_iff.mpr (by decide)
      refine va_iald hx hb hK hP 11 0 rfl rfl q_5 dX4_readMarket_30 ?_
      refine W.eq (g2 := F0 m 31 ls [.int (u_3.2.2.2.2.2.2 0), .ref (Z 0)]) rfl ?_
      refine va_put (D := D) (ci := 2) (v := .int (u_3.2.2.2.2.2.2 0)) (ty := .int) (C := RX2) (T := TX2) (N := 12) hx hb hts iX2 tyX2 tyX2_ok nmX2 hown hK hP hD hS 5 rfl rfl 3 (by decide) k69 (fun _ h9 => h9) rfl (by decide +kernel) rfl rfl (Nat.le_of_ble_eq_true rfl) dX4_readMarket_31 (fun H locs hP hD hS => ?_)
      have hP : va_P D vwCl (landW Z cK (upd f 3 (u_3.2.2.2.2.2.2 0)) kv mv ++ (tpW U cB p_len p_bytes ++ (rdW Q U cI u_3.2.1 u_3.2.2.1 u_3.2.2.2.1 u_3.2.2.2.2.1 u_3.2.2.2.2.2.1 u_3.2.2.2.2.2.2 ++ R))) H := hP
      have hD : va_D A (landW Z cK (upd f 3 (u_3.2.2.2.2.2.2 0)) kv mv ++ (tpW U cB p_len p_bytes ++ (rdW Q U cI u_3.2.1 u_3.2.2.1 u_3.2.2.2.1 u_3.2.2.2.2.1 u_3.2.2.2.2.2.1 u_3.2.2.2.2.2.2 ++ R))) := hD
      refine lv_aload_n hx hb dX4_readMarket_34 rfl (lv_at hl 1 rfl) ?_
      refine lv_aload_n hx hb dX4_readMarket_35 rfl (lv_at hl 0 rfl) ?_
      refine va_get (D := D) (ci := 4) (v := .ref (Q 1)) (C := RX4) (T := TX4) (N := 7) hx hb hts iX4 hown hK hP 10 rfl rfl 1 (by decide) k9 (fun _ h9 => h9) rfl dX4_readMarket_36 ?_
      refine lv_iconst (v := 1) hx hb dX4_readMarket_39 (by decide) ?_
      have q_6 : vp_in (1 : Int32) 5 := vp_in_iff.mpr (by decide)
      refine va_iald hx hb hK hP 11 0 rfl rfl q_6 dX4_readMarket_40 ?_
      refine W.eq (g2 := F0 m 41 ls [.int (u_3.2.2.2.2.2.2 1), .ref (Z 0)]) rfl ?_
      refine va_put (D := D) (ci := 2) (v := .int (u_3.2.2.2.2.2.2 1)) (ty := .int) (C := RX2) (T := TX2) (N := 12) hx hb hts iX2 tyX2 tyX2_ok nmX2 hown hK hP hD hS 5 rfl rfl 4 (by decide) k72 (fun _ h9 => h9) rfl (by decide +kernel) rfl rfl (Nat.le_of_ble_eq_true rfl) dX4_readMarket_41 (fun H locs hP hD hS => ?_)
      have hP : va_P D vwCl (landW Z cK (upd (upd f 3 (u_3.2.2.2.2.2.2 0)) 4 (u_3.2.2.2.2.2.2 1)) kv mv ++ (tpW U cB p_len p_bytes ++ (rdW Q U cI u_3.2.1 u_3.2.2.1 u_3.2.2.2.1 u_3.2.2.2.2.1 u_3.2.2.2.2.2.1 u_3.2.2.2.2.2.2 ++ R))) H := hP
      have hD : va_D A (landW Z cK (upd (upd f 3 (u_3.2.2.2.2.2.2 0)) 4 (u_3.2.2.2.2.2.2 1)) kv mv ++ (tpW U cB p_len p_bytes ++ (rdW Q U cI u_3.2.1 u_3.2.2.1 u_3.2.2.2.1 u_3.2.2.2.2.1 u_3.2.2.2.2.2.1 u_3.2.2.2.2.2.2 ++ R))) := hD
      refine lv_aload_n hx hb dX4_readMarket_44 rfl (lv_at hl 1 rfl) ?_
      refine lv_aload_n hx hb dX4_readMarket_45 rfl (lv_at hl 0 rfl) ?_
      refine va_get (D := D) (ci := 4) (v := .ref (Q 1)) (C := RX4) (T := TX4) (N := 7) hx hb hts iX4 hown hK hP 10 rfl rfl 1 (by decide) k9 (fun _ h9 => h9) rfl dX4_readMarket_46 ?_
      refine lv_iconst (v := 2) hx hb dX4_readMarket_49 (by decide) ?_
      have q_7 : vp_in (2 : Int32) 5 := vp_in_iff.mpr (by decide)
      refine va_iald hx hb hK hP 11 0 rfl rfl q_7 dX4_readMarket_50 ?_
      refine W.eq (g2 := F0 m 51 ls [.int (u_3.2.2.2.2.2.2 2), .ref (Z 0)]) rfl ?_
      refine va_put (D := D) (ci := 2) (v := .int (u_3.2.2.2.2.2.2 2)) (ty := .int) (C := RX2) (T := TX2) (N := 12) hx hb hts iX2 tyX2 tyX2_ok nmX2 hown hK hP hD hS 5 rfl rfl 5 (by decide) k75 (fun _ h9 => h9) rfl (by decide +kernel) rfl rfl (Nat.le_of_ble_eq_true rfl) dX4_readMarket_51 (fun H locs hP hD hS => ?_)
      have hP : va_P D vwCl (landW Z cK (upd (upd (upd f 3 (u_3.2.2.2.2.2.2 0)) 4 (u_3.2.2.2.2.2.2 1)) 5 (u_3.2.2.2.2.2.2 2)) kv mv ++ (tpW U cB p_len p_bytes ++ (rdW Q U cI u_3.2.1 u_3.2.2.1 u_3.2.2.2.1 u_3.2.2.2.2.1 u_3.2.2.2.2.2.1 u_3.2.2.2.2.2.2 ++ R))) H := hP
      have hD : va_D A (landW Z cK (upd (upd (upd f 3 (u_3.2.2.2.2.2.2 0)) 4 (u_3.2.2.2.2.2.2 1)) 5 (u_3.2.2.2.2.2.2 2)) kv mv ++ (tpW U cB p_len p_bytes ++ (rdW Q U cI u_3.2.1 u_3.2.2.1 u_3.2.2.2.1 u_3.2.2.2.2.1 u_3.2.2.2.2.2.1 u_3.2.2.2.2.2.2 ++ R))) := hD
      refine lv_iconst (v := 1) hx hb dX4_readMarket_54 (by decide) ?_
      rw [hQm]
      exact mx_zret (u0 := sX4_readMarket f p_len p_bytes d_place d_fault d_num) (rv := (fun u => some (.int u.1))) (w1 := (fun u => landW Z cK u.2.1 kv mv ++ (tpW U cB p_len p_bytes ++ (rdW Q U cI u.2.2.1 u.2.2.2.1 u.2.2.2.2.1 u.2.2.2.2.2.1 u.2.2.2.2.2.2.1 u.2.2.2.2.2.2.2 ++ R)))) (u := (1, upd (upd (upd f 3 (u_3.2.2.2.2.2.2 0)) 4 (u_3.2.2.2.2.2.2 1)) 5 (u_3.2.2.2.2.2.2 2), u_3.2.1, u_3.2.2.1, u_3.2.2.2.1, u_3.2.2.2.2.1, u_3.2.2.2.2.2.1, u_3.2.2.2.2.2.2)) hx hb hr hlocks hK hS (lt_eq eu_1 ((if_neg c_2).trans (lt_eq eu_3 ((if_neg c_4).trans rfl)))) hP hD rfl rfl dX4_readMarket_55
    · refine lv_iconst (v := 0) hx hb dX4_readMarket_22 (by decide) ?_
      rw [hQm]
      exact mx_zret (u0 := sX4_readMarket f p_len p_bytes d_place d_fault d_num) (rv := (fun u => some (.int u.1))) (w1 := (fun u => landW Z cK u.2.1 kv mv ++ (tpW U cB p_len p_bytes ++ (rdW Q U cI u.2.2.1 u.2.2.2.1 u.2.2.2.2.1 u.2.2.2.2.2.1 u.2.2.2.2.2.2.1 u.2.2.2.2.2.2.2 ++ R)))) (u := (0, f, u_3.2.1, u_3.2.2.1, u_3.2.2.2.1, u_3.2.2.2.2.1, u_3.2.2.2.2.2.1, u_3.2.2.2.2.2.2)) hx hb hr hlocks hK hS (lt_eq eu_1 ((if_neg c_2).trans (lt_eq eu_3 ((if_pos c_4).trans rfl)))) hP hD rfl rfl dX4_readMarket_23
theorem sX4_readMarket_ok {f p_bytes d_num : Nat → Int32} {p_len x d_fault : Int32} {u : Int32 × (Nat → Int32) × (Int32) × (Int32) × (Int32) × (Int32) × (Int32) × (Nat → Int32)} (h : pl_ok x) (hl : p_len.toInt ≤ 400) (hk : 0 ≤ (f 2).toInt) (e : u = sX4_readMarket f p_len p_bytes x d_fault d_num) : pl_ok u.2.2.1 ∧ 0 ≤ (u.2.1 2).toInt := by
  rw [e]
  unfold sX4_readMarket
  show (fun r : Int32 × (Nat → Int32) × (Int32) × (Int32) × (Int32) × (Int32) × (Int32) × (Nat → Int32) => pl_ok r.2.2.1 ∧ 0 ≤ (r.2.1 2).toInt) _
  repeat' first | with_reducible refine if_P (fun r : Int32 × (Nat → Int32) × (Int32) × (Int32) × (Int32) × (Int32) × (Int32) × (Nat → Int32) => pl_ok r.2.2.1 ∧ 0 ≤ (r.2.1 2).toInt) (fun _ => ?_) (fun _ => ?_) | with_reducible refine lt_P (fun r : Int32 × (Int32) × (Int32) × (Int32) × (Int32) × (Int32) => pl_ok r.2.1) (fun r : Int32 × (Nat → Int32) × (Int32) × (Int32) × (Int32) × (Int32) × (Int32) × (Nat → Int32) => pl_ok r.2.2.1 ∧ 0 ≤ (r.2.1 2).toInt) (sX4_takeName_ok (by assumption) (by assumption) rfl) (fun _ _ => ?_) | with_reducible refine lt_P (fun r : Int32 × (Int32) × (Int32) × (Int32) × (Int32) × (Int32) × (Nat → Int32) => pl_ok r.2.1) (fun r : Int32 × (Nat → Int32) × (Int32) × (Int32) × (Int32) × (Int32) × (Int32) × (Nat → Int32) => pl_ok r.2.2.1 ∧ 0 ≤ (r.2.1 2).toInt) (sX4_takeNumbers_ok (by assumption) (by assumption) rfl) (fun _ _ => ?_) | with_reducible refine lt_P (fun _ => True) (fun r : Int32 × (Nat → Int32) × (Int32) × (Int32) × (Int32) × (Int32) × (Int32) × (Nat → Int32) => pl_ok r.2.2.1 ∧ 0 ≤ (r.2.1 2).toInt) trivial (fun _ _ => ?_) | exact ⟨by assumption, by assumption⟩
def sX4_readStart (f : Nat → Int32) (p_len : Int32) (p_bytes : Nat → Int32) (d_place : Int32) (d_fault : Int32) (d_num : Nat → Int32) : Int32 × (Nat → Int32) × (Int32) × (Int32) × (Int32) × (Int32) × (Int32) × (Nat → Int32) := lt (sX4_takeName 1 p_len p_bytes d_place d_fault) (fun u_1 : Int32 × (Int32) × (Int32) × (Int32) × (Int32) × (Int32) => if u_1.1 = 0 then ((0, f, u_1.2.1, u_1.2.2.1, u_1.2.2.2.1, u_1.2.2.2.2.1, u_1.2.2.2.2.2, d_num)) else (lt (sX4_takeNumbers 5 6 p_len p_bytes u_1.2.1 u_1.2.2.1 u_1.2.2.2.1 u_1.2.2.2.2.1 u_1.2.2.2.2.2 d_num) (fun u_3 : Int32 × (Int32) × (Int32) × (Int32) × (Int32) × (Int32) × (Nat → Int32) => if u_3.1 = 0 then ((0, f, u_3.2.1, u_3.2.2.1, u_3.2.2.2.1, u_3.2.2.2.2.1, u_3.2.2.2.2.2.1, u_3.2.2.2.2.2.2)) else ((1, upd (upd (upd (upd f 6 (u_3.2.2.2.2.2.2 0)) 7 (u_3.2.2.2.2.2.2 1)) 8 (u_3.2.2.2.2.2.2 2)) 9 (u_3.2.2.2.2.2.2 0), u_3.2.1, u_3.2.2.1, u_3.2.2.2.1, u_3.2.2.2.2.1, u_3.2.2.2.2.2.1, u_3.2.2.2.2.2.2)))))
set_option maxHeartbeats 4000000 in
set_option maxRecDepth 100000 in
theorem mtX4_readStart (l : Launch) (D : va_G) (cI cB cK cS : ClassId) (t ks kb : Nat → Nat) (Z U Q : Nat → Nat) (R : va_W) (f : Nat → Int32) (kv : Nat → Nat → Int32) (mv : Nat → Int32) (p_len : Int32) (p_bytes : Nat → Int32) (d_place : Int32) (d_token : Int32) (d_value : Int32) (d_start : Int32) (d_fault : Int32) (d_num : Nat → Int32) (hpl : pl_ok d_place) (hl1 : p_len.toInt ≤ 400) (hk0 : 0 ≤ (f 2).toInt) : MX l yX4_readStart wsX4_readStart (rmX 7) D (tyX cI cB cK cS) (pFs t ks kb) (landW Z cK f kv mv ++ (tpW U cB p_len p_bytes ++ (rdW Q U cI d_place d_token d_value d_start d_fault d_num ++ R))) [.ref (Q 0), .ref (Z 0)] (sX4_readStart f p_len p_bytes d_place d_fault d_num) (fun u => some (.int u.1)) (fun u => landW Z cK u.2.1 kv mv ++ (tpW U cB p_len p_bytes ++ (rdW Q U cI u.2.2.1 u.2.2.2.1 u.2.2.2.2.1 u.2.2.2.2.2.1 u.2.2.2.2.2.2.1 u.2.2.2.2.2.2.2 ++ R))) := by
  refine mx_intro (cc := cX4_readStart) (maxL := 2) (ret := (some .boolean)) (by decide) rfl (Nat.le_of_ble_eq_true rfl) ?_
  intro p e s m below meth c A ls H locs Qm hQm hx hb hr hml hts hown hlocks hA hS hP hK hD hF hl
  have hown : s.vm.findClass RX4 = some m.cls := hown
  have hl : lv_has ls 2 [(0, .ref (Q 0)), (1, .ref (Z 0))] := hl
  have k79 := hts (.fieldLink RX4 79 "PigRounds$Reader" "LEAST_OF_START" "[I") (by decide +kernel)
  have k82 := hts (.fieldLink RX4 82 "PigRounds$Reader" "MOST_OF_START" "[I") (by decide +kernel)
  have k9 := hts (.fieldLink RX4 9 "PigRounds$Reader" "numbers" "[I") (by decide +kernel)
  have k85 := hts (.fieldLink RX4 85 "PigRounds$Land" "a" "I") (by decide +kernel)
  have k88 := hts (.fieldLink RX4 88 "PigRounds$Land" "b" "I") (by decide +kernel)
  have k91 := hts (.fieldLink RX4 91 "PigRounds$Land" "c" "I") (by decide +kernel)
  have k94 := hts (.fieldLink RX4 94 "PigRounds$Land" "printed" "I") (by decide +kernel)
  have iX2 : ∀ w ∈ u_ws RX2 TX2 12, w ∈ wsX4_readStart := by decide +kernel
  have iX4 : ∀ w ∈ u_ws RX4 TX4 7, w ∈ wsX4_readStart := by decide +kernel
  refine lv_aload_n hx hb dX4_readStart_0 rfl (lv_at hl 0 rfl) ?_
  refine va_ldcS hx hb hown (hF.2.2.2.2 1 (by decide)) dX4_readStart_1 ?_
  have hpm : List.Perm (landW Z cK f kv mv ++ (tpW U cB p_len p_bytes ++ (rdW Q U cI d_place d_token d_value d_start d_fault d_num ++ R))) (tpW U cB p_len p_bytes ++ (rdW Q U cI d_place d_token d_value d_start d_fault d_num ++ (landW Z cK f kv mv ++ R))) := (((List.Perm.append_left _ gp_swap).trans gp_swap).trans ((List.Perm.append_left _ gp_swap).trans gp_swap))
  have hP := gp_P hpm hP
  have hD := gp_D hpm hD
  refine mx_callV (As := [.ref (ks 1)]) (rest := []) ⟨hx, hb, hml, hown, hts⟩ (mtX4_takeName l D cI cB cK cS t ks kb U Q (landW Z cK f kv mv ++ R) 1 p_len p_bytes d_place d_token d_value d_start d_fault d_num (by assumption) (by assumption) (by first | decide | assumption)) (cwV 1 hts gX4_readStart_X4_takeName rfl rfl rfl (by decide +kernel) ⟨Nat.le_of_ble_eq_true rfl, Nat.le_of_ble_eq_true rfl⟩) pFs_ok hF hK hP hD hS hA 2 rfl rfl rfl rfl hl.1 rfl (Nat.le_of_ble_eq_true rfl) dX4_readStart_3 ⟨Nat.le_refl _, Nat.le_refl _⟩ (fun u_1 H locs eu_1 hP hD hS => ?_)
  refine W.eq (g2 := F0 m 6 ls [.int u_1.1]) rfl ?_
  have hP : va_P D vwCl (tpW U cB p_len p_bytes ++ (rdW Q U cI u_1.2.1 u_1.2.2.1 u_1.2.2.2.1 u_1.2.2.2.2.1 u_1.2.2.2.2.2 d_num ++ (landW Z cK f kv mv ++ R))) H := hP
  have hD : va_D A (tpW U cB p_len p_bytes ++ (rdW Q U cI u_1.2.1 u_1.2.2.1 u_1.2.2.2.1 u_1.2.2.2.2.1 u_1.2.2.2.2.2 d_num ++ (landW Z cK f kv mv ++ R))) := hD
  have hpm : List.Perm (tpW U cB p_len p_bytes ++ (rdW Q U cI u_1.2.1 u_1.2.2.1 u_1.2.2.2.1 u_1.2.2.2.2.1 u_1.2.2.2.2.2 d_num ++ (landW Z cK f kv mv ++ R))) (landW Z cK f kv mv ++ (tpW U cB p_len p_bytes ++ (rdW Q U cI u_1.2.1 u_1.2.2.1 u_1.2.2.2.1 u_1.2.2.2.2.1 u_1.2.2.2.2.2 d_num ++ R))) := ((gp_swap.trans gp_swap).trans ((List.Perm.append_left _ gp_swap).trans gp_swap))
  have hP := gp_P hpm hP
  have hD := gp_D hpm hD
  have hpl_u_1 := sX4_takeName_ok (by assumption) (by assumption) eu_1
  refine lv_if_eq (tgt := 22) hx hb dX4_readStart_6 (by decide) (fun c_2 => ?_) (fun c_2 => ?_)
  · refine lv_iconst (v := 0) hx hb dX4_readStart_22 (by decide) ?_
    rw [hQm]
    exact mx_zret (u0 := sX4_readStart f p_len p_bytes d_place d_fault d_num) (rv := (fun u => some (.int u.1))) (w1 := (fun u => landW Z cK u.2.1 kv mv ++ (tpW U cB p_len p_bytes ++ (rdW Q U cI u.2.2.1 u.2.2.2.1 u.2.2.2.2.1 u.2.2.2.2.2.1 u.2.2.2.2.2.2.1 u.2.2.2.2.2.2.2 ++ R)))) (u := (0, f, u_1.2.1, u_1.2.2.1, u_1.2.2.2.1, u_1.2.2.2.2.1, u_1.2.2.2.2.2, d_num)) hx hb hr hlocks hK hS (lt_eq eu_1 ((if_pos c_2).trans rfl)) hP hD rfl rfl dX4_readStart_23
  · refine lv_aload_n hx hb dX4_readStart_9 rfl (lv_at hl 0 rfl) ?_
    refine va_gets (v := .ref (t 5)) hx hb (hF.1 5 (by decide)).1 hS hown k79 (fun _ h9 => h9) dX4_readStart_10 ?_
    refine va_gets (v := .ref (t 6)) hx hb (hF.1 6 (by decide)).1 hS hown k82 (fun _ h9 => h9) dX4_readStart_13 ?_
    have hpm : List.Perm (landW Z cK f kv mv ++ (tpW U cB p_len p_bytes ++ (rdW Q U cI u_1.2.1 u_1.2.2.1 u_1.2.2.2.1 u_1.2.2.2.2.1 u_1.2.2.2.2.2 d_num ++ R))) (tpW U cB p_len p_bytes ++ (rdW Q U cI u_1.2.1 u_1.2.2.1 u_1.2.2.2.1 u_1.2.2.2.2.1 u_1.2.2.2.2.2 d_num ++ (landW Z cK f kv mv ++ R))) := (((List.Perm.append_left _ gp_swap).trans gp_swap).trans ((List.Perm.append_left _ gp_swap).trans gp_swap))
    have hP := gp_P hpm hP
    have hD := gp_D hpm hD
    refine mx_callV (As := [.ref (t 5), .ref (t 6)]) (rest := []) ⟨hx, hb, hml, hown, hts⟩ (mtX4_takeNumbers l D cI cB cK cS t ks kb U Q (landW Z cK f kv mv ++ R) 5 6 p_len p_bytes u_1.2.1 u_1.2.2.1 u_1.2.2.2.1 u_1.2.2.2.2.1 u_1.2.2.2.2.2 d_num (by assumption) (by assumption) (by decide) (by decide)) (cwV 2 hts gX4_readStart_X4_takeNumbers rfl rfl rfl (by decide +kernel) ⟨Nat.le_of_ble_eq_true rfl, Nat.le_of_ble_eq_true rfl⟩) pFs_ok hF hK hP hD hS hA 2 rfl rfl rfl rfl hl.1 rfl (Nat.le_of_ble_eq_true rfl) dX4_readStart_16 ⟨Nat.le_refl _, Nat.le_refl _⟩ (fun u_3 H locs eu_3 hP hD hS => ?_)
    refine W.eq (g2 := F0 m 19 ls [.int u_3.1]) rfl ?_
    have hP : va_P D vwCl (tpW U cB p_len p_bytes ++ (rdW Q U cI u_3.2.1 u_3.2.2.1 u_3.2.2.2.1 u_3.2.2.2.2.1 u_3.2.2.2.2.2.1 u_3.2.2.2.2.2.2 ++ (landW Z cK f kv mv ++ R))) H := hP
    have hD : va_D A (tpW U cB p_len p_bytes ++ (rdW Q U cI u_3.2.1 u_3.2.2.1 u_3.2.2.2.1 u_3.2.2.2.2.1 u_3.2.2.2.2.2.1 u_3.2.2.2.2.2.2 ++ (landW Z cK f kv mv ++ R))) := hD
    have hpm : List.Perm (tpW U cB p_len p_bytes ++ (rdW Q U cI u_3.2.1 u_3.2.2.1 u_3.2.2.2.1 u_3.2.2.2.2.1 u_3.2.2.2.2.2.1 u_3.2.2.2.2.2.2 ++ (landW Z cK f kv mv ++ R))) (landW Z cK f kv mv ++ (tpW U cB p_len p_bytes ++ (rdW Q U cI u_3.2.1 u_3.2.2.1 u_3.2.2.2.1 u_3.2.2.2.2.1 u_3.2.2.2.2.2.1 u_3.2.2.2.2.2.2 ++ R))) := ((gp_swap.trans gp_swap).trans ((List.Perm.append_left _ gp_swap).trans gp_swap))
    have hP := gp_P hpm hP
    have hD := gp_D hpm hD
    have hpl_u_3 := sX4_takeNumbers_ok (by assumption) (by assumption) eu_3
    refine lv_if_ne (tgt := 24) hx hb dX4_readStart_19 (by decide) (fun c_4 => ?_) (fun c_4 => ?_)
    · refine lv_aload_n hx hb dX4_readStart_24 rfl (lv_at hl 1 rfl) ?_
      refine lv_aload_n hx hb dX4_readStart_25 rfl (lv_at hl 0 rfl) ?_
      refine va_get (D := D) (ci := 4) (v := .ref (Q 1)) (C := RX4) (T := TX4) (N := 7) hx hb hts iX4 hown hK hP 10 rfl rfl 1 (by decide) k9 (fun _ h9 => h9) rfl dX4_readStart_26 ?_
      refine lv_iconst (v := 0) hx hb dX4_readStart_29 (by decide) ?_
      have q_5 : vp_in (0 : Int32) 5 := vp_in_iff.mpr (by decide)
      refine va_iald hx hb hK hP 11 0 rfl rfl q_5 dX4_readStart_30 ?_
      refine W.eq (g2 := F0 m 31 ls [.int (u_3.2.2.2.2.2.2 0), .ref (Z 0)]) rfl ?_
      refine va_put (D := D) (ci := 2) (v := .int (u_3.2.2.2.2.2.2 0)) (ty := .int) (C := RX2) (T := TX2) (N := 12) hx hb hts iX2 tyX2 tyX2_ok nmX2 hown hK hP hD hS 5 rfl rfl 6 (by decide) k85 (fun _ h9 => h9) rfl (by decide +kernel) rfl rfl (Nat.le_of_ble_eq_true rfl) dX4_readStart_31 (fun H locs hP hD hS => ?_)
      have hP : va_P D vwCl (landW Z cK (upd f 6 (u_3.2.2.2.2.2.2 0)) kv mv ++ (tpW U cB p_len p_bytes ++ (rdW Q U cI u_3.2.1 u_3.2.2.1 u_3.2.2.2.1 u_3.2.2.2.2.1 u_3.2.2.2.2.2.1 u_3.2.2.2.2.2.2 ++ R))) H := hP
      have hD : va_D A (landW Z cK (upd f 6 (u_3.2.2.2.2.2.2 0)) kv mv ++ (tpW U cB p_len p_bytes ++ (rdW Q U cI u_3.2.1 u_3.2.2.1 u_3.2.2.2.1 u_3.2.2.2.2.1 u_3.2.2.2.2.2.1 u_3.2.2.2.2.2.2 ++ R))) := hD
      refine lv_aload_n hx hb dX4_readStart_34 rfl (lv_at hl 1 rfl) ?_
      refine lv_aload_n hx hb dX4_readStart_35 rfl (lv_at hl 0 rfl) ?_
      refine va_get (D := D) (ci := 4) (v := .ref (Q 1)) (C := RX4) (T := TX4) (N := 7) hx hb hts iX4 hown hK hP 10 rfl rfl 1 (by decide) k9 (fun _ h9 => h9) rfl dX4_readStart_36 ?_
      refine lv_iconst (v := 1) hx hb dX4_readStart_39 (by decide) ?_
      have q_6 : vp_in (1 : Int32) 5 := vp_in_iff.mpr (by decide)
      refine va_iald hx hb hK hP 11 0 rfl rfl q_6 dX4_readStart_40 ?_
      refine W.eq (g2 := F0 m 41 ls [.int (u_3.2.2.2.2.2.2 1), .ref (Z 0)]) rfl ?_
      refine va_put (D := D) (ci := 2) (v := .int (u_3.2.2.2.2.2.2 1)) (ty := .int) (C := RX2) (T := TX2) (N := 12) hx hb hts iX2 tyX2 tyX2_ok nmX2 hown hK hP hD hS 5 rfl rfl 7 (by decide) k88 (fun _ h9 => h9) rfl (by decide +kernel) rfl rfl (Nat.le_of_ble_eq_true rfl) dX4_readStart_41 (fun H locs hP hD hS => ?_)
      have hP : va_P D vwCl (landW Z cK (upd (upd f 6 (u_3.2.2.2.2.2.2 0)) 7 (u_3.2.2.2.2.2.2 1)) kv mv ++ (tpW U cB p_len p_bytes ++ (rdW Q U cI u_3.2.1 u_3.2.2.1 u_3.2.2.2.1 u_3.2.2.2.2.1 u_3.2.2.2.2.2.1 u_3.2.2.2.2.2.2 ++ R))) H := hP
      have hD : va_D A (landW Z cK (upd (upd f 6 (u_3.2.2.2.2.2.2 0)) 7 (u_3.2.2.2.2.2.2 1)) kv mv ++ (tpW U cB p_len p_bytes ++ (rdW Q U cI u_3.2.1 u_3.2.2.1 u_3.2.2.2.1 u_3.2.2.2.2.1 u_3.2.2.2.2.2.1 u_3.2.2.2.2.2.2 ++ R))) := hD
      refine lv_aload_n hx hb dX4_readStart_44 rfl (lv_at hl 1 rfl) ?_
      refine lv_aload_n hx hb dX4_readStart_45 rfl (lv_at hl 0 rfl) ?_
      refine va_get (D := D) (ci := 4) (v := .ref (Q 1)) (C := RX4) (T := TX4) (N := 7) hx hb hts iX4 hown hK hP 10 rfl rfl 1 (by decide) k9 (fun _ h9 => h9) rfl dX4_readStart_46 ?_
      refine lv_iconst (v := 2) hx hb dX4_readStart_49 (by decide) ?_
      have q_7 : vp_in (2 : Int32) 5 := vp_in_iff.mpr (by decide)
      refine va_iald hx hb hK hP 11 0 rfl rfl q_7 dX4_readStart_50 ?_
      refine W.eq (g2 := F0 m 51 ls [.int (u_3.2.2.2.2.2.2 2), .ref (Z 0)]) rfl ?_
      refine va_put (D := D) (ci := 2) (v := .int (u_3.2.2.2.2.2.2 2)) (ty := .int) (C := RX2) (T := TX2) (N := 12) hx hb hts iX2 tyX2 tyX2_ok nmX2 hown hK hP hD hS 5 rfl rfl 8 (by decide) k91 (fun _ h9 => h9) rfl (by decide +kernel) rfl rfl (Nat.le_of_ble_eq_true rfl) dX4_readStart_51 (fun H locs hP hD hS => ?_)
      have hP : va_P D vwCl (landW Z cK (upd (upd (upd f 6 (u_3.2.2.2.2.2.2 0)) 7 (u_3.2.2.2.2.2.2 1)) 8 (u_3.2.2.2.2.2.2 2)) kv mv ++ (tpW U cB p_len p_bytes ++ (rdW Q U cI u_3.2.1 u_3.2.2.1 u_3.2.2.2.1 u_3.2.2.2.2.1 u_3.2.2.2.2.2.1 u_3.2.2.2.2.2.2 ++ R))) H := hP
      have hD : va_D A (landW Z cK (upd (upd (upd f 6 (u_3.2.2.2.2.2.2 0)) 7 (u_3.2.2.2.2.2.2 1)) 8 (u_3.2.2.2.2.2.2 2)) kv mv ++ (tpW U cB p_len p_bytes ++ (rdW Q U cI u_3.2.1 u_3.2.2.1 u_3.2.2.2.1 u_3.2.2.2.2.1 u_3.2.2.2.2.2.1 u_3.2.2.2.2.2.2 ++ R))) := hD
      refine lv_aload_n hx hb dX4_readStart_54 rfl (lv_at hl 1 rfl) ?_
      refine lv_aload_n hx hb dX4_readStart_55 rfl (lv_at hl 1 rfl) ?_
      refine va_get (D := D) (ci := 2) (v := .int (u_3.2.2.2.2.2.2 0)) (C := RX2) (T := TX2) (N := 12) hx hb hts iX2 hown hK hP 5 rfl rfl 6 (by decide) k85 (fun _ h9 => h9) rfl dX4_readStart_56 ?_
      refine va_put (D := D) (ci := 2) (v := .int (u_3.2.2.2.2.2.2 0)) (ty := .int) (C := RX2) (T := TX2) (N := 12) hx hb hts iX2 tyX2 tyX2_ok nmX2 hown hK hP hD hS 5 rfl rfl 9 (by decide) k94 (fun _ h9 => h9) rfl (by decide +kernel) rfl rfl (Nat.le_of_ble_eq_true rfl) dX4_readStart_59 (fun H locs hP hD hS => ?_)
      have hP : va_P D vwCl (landW Z cK (upd (upd (upd (upd f 6 (u_3.2.2.2.2.2.2 0)) 7 (u_3.2.2.2.2.2.2 1)) 8 (u_3.2.2.2.2.2.2 2)) 9 (u_3.2.2.2.2.2.2 0)) kv mv ++ (tpW U cB p_len p_bytes ++ (rdW Q U cI u_3.2.1 u_3.2.2.1 u_3.2.2.2.1 u_3.2.2.2.2.1 u_3.2.2.2.2.2.1 u_3.2.2.2.2.2.2 ++ R))) H := hP
      have hD : va_D A (landW Z cK (upd (upd (upd (upd f 6 (u_3.2.2.2.2.2.2 0)) 7 (u_3.2.2.2.2.2.2 1)) 8 (u_3.2.2.2.2.2.2 2)) 9 (u_3.2.2.2.2.2.2 0)) kv mv ++ (tpW U cB p_len p_bytes ++ (rdW Q U cI u_3.2.1 u_3.2.2.1 u_3.2.2.2.1 u_3.2.2.2.2.1 u_3.2.2.2.2.2.1 u_3.2.2.2.2.2.2 ++ R))) := hD
      refine lv_iconst (v := 1) hx hb dX4_readStart_62 (by decide) ?_
      rw [hQm]
      exact mx_zret (u0 := sX4_readStart f p_len p_bytes d_place d_fault d_num) (rv := (fun u => some (.int u.1))) (w1 := (fun u => landW Z cK u.2.1 kv mv ++ (tpW U cB p_len p_bytes ++ (rdW Q U cI u.2.2.1 u.2.2.2.1 u.2.2.2.2.1 u.2.2.2.2.2.1 u.2.2.2.2.2.2.1 u.2.2.2.2.2.2.2 ++ R)))) (u := (1, upd (upd (upd (upd f 6 (u_3.2.2.2.2.2.2 0)) 7 (u_3.2.2.2.2.2.2 1)) 8 (u_3.2.2.2.2.2.2 2)) 9 (u_3.2.2.2.2.2.2 0), u_3.2.1, u_3.2.2.1, u_3.2.2.2.1, u_3.2.2.2.2.1, u_3.2.2.2.2.2.1, u_3.2.2.2.2.2.2)) hx hb hr hlocks hK hS (lt_eq eu_1 ((if_neg c_2).trans (lt_eq eu_3 ((if_neg c_4).trans rfl)))) hP hD rfl rfl dX4_readStart_63
    · refine lv_iconst (v := 0) hx hb dX4_readStart_22 (by decide) ?_
      rw [hQm]
      exact mx_zret (u0 := sX4_readStart f p_len p_bytes d_place d_fault d_num) (rv := (fun u => some (.int u.1))) (w1 := (fun u => landW Z cK u.2.1 kv mv ++ (tpW U cB p_len p_bytes ++ (rdW Q U cI u.2.2.1 u.2.2.2.1 u.2.2.2.2.1 u.2.2.2.2.2.1 u.2.2.2.2.2.2.1 u.2.2.2.2.2.2.2 ++ R)))) (u := (0, f, u_3.2.1, u_3.2.2.1, u_3.2.2.2.1, u_3.2.2.2.2.1, u_3.2.2.2.2.2.1, u_3.2.2.2.2.2.2)) hx hb hr hlocks hK hS (lt_eq eu_1 ((if_neg c_2).trans (lt_eq eu_3 ((if_pos c_4).trans rfl)))) hP hD rfl rfl dX4_readStart_23
theorem sX4_readStart_ok {f p_bytes d_num : Nat → Int32} {p_len x d_fault : Int32} {u : Int32 × (Nat → Int32) × (Int32) × (Int32) × (Int32) × (Int32) × (Int32) × (Nat → Int32)} (h : pl_ok x) (hl : p_len.toInt ≤ 400) (hk : 0 ≤ (f 2).toInt) (e : u = sX4_readStart f p_len p_bytes x d_fault d_num) : pl_ok u.2.2.1 ∧ 0 ≤ (u.2.1 2).toInt := by
  rw [e]
  unfold sX4_readStart
  show (fun r : Int32 × (Nat → Int32) × (Int32) × (Int32) × (Int32) × (Int32) × (Int32) × (Nat → Int32) => pl_ok r.2.2.1 ∧ 0 ≤ (r.2.1 2).toInt) _
  repeat' first | with_reducible refine if_P (fun r : Int32 × (Nat → Int32) × (Int32) × (Int32) × (Int32) × (Int32) × (Int32) × (Nat → Int32) => pl_ok r.2.2.1 ∧ 0 ≤ (r.2.1 2).toInt) (fun _ => ?_) (fun _ => ?_) | with_reducible refine lt_P (fun r : Int32 × (Int32) × (Int32) × (Int32) × (Int32) × (Int32) => pl_ok r.2.1) (fun r : Int32 × (Nat → Int32) × (Int32) × (Int32) × (Int32) × (Int32) × (Int32) × (Nat → Int32) => pl_ok r.2.2.1 ∧ 0 ≤ (r.2.1 2).toInt) (sX4_takeName_ok (by assumption) (by assumption) rfl) (fun _ _ => ?_) | with_reducible refine lt_P (fun r : Int32 × (Int32) × (Int32) × (Int32) × (Int32) × (Int32) × (Nat → Int32) => pl_ok r.2.1) (fun r : Int32 × (Nat → Int32) × (Int32) × (Int32) × (Int32) × (Int32) × (Int32) × (Nat → Int32) => pl_ok r.2.2.1 ∧ 0 ≤ (r.2.1 2).toInt) (sX4_takeNumbers_ok (by assumption) (by assumption) rfl) (fun _ _ => ?_) | with_reducible refine lt_P (fun _ => True) (fun r : Int32 × (Nat → Int32) × (Int32) × (Int32) × (Int32) × (Int32) × (Int32) × (Nat → Int32) => pl_ok r.2.2.1 ∧ 0 ≤ (r.2.1 2).toInt) trivial (fun _ _ => ?_) | exact ⟨by assumption, by assumption⟩
def sX4_wayNamed (p_len : Int32) (p_bytes : Nat → Int32) (d_place : Int32) (d_token : Int32) (d_start : Int32) : Int32 := lt (sX4_nameIs 3 p_len p_bytes d_place d_token d_start) (fun u_1 : Int32 => if u_1 = 0 then (lt (sX4_nameIs 4 p_len p_bytes d_place d_token d_start) (fun u_3 : Int32 => if u_3 = 0 then (lt (sX4_nameIs 5 p_len p_bytes d_place d_token d_start) (fun u_5 : Int32 => if u_5 = 0 then (lt (sX4_nameIs 6 p_len p_bytes d_place d_token d_start) (fun u_7 : Int32 => if u_7 = 0 then (lt (sX4_nameIs 7 p_len p_bytes d_place d_token d_start) (fun u_9 : Int32 => if u_9 = 0 then (lt (sX4_nameIs 8 p_len p_bytes d_place d_token d_start) (fun u_11 : Int32 => if u_11 = 0 then ((0)) else ((6)))) else ((5)))) else ((4)))) else ((3)))) else ((2)))) else ((1)))
set_option maxHeartbeats 4000000 in
set_option maxRecDepth 100000 in
theorem mtX4_wayNamed (l : Launch) (D : va_G) (cI cB cK cS : ClassId) (t ks kb : Nat → Nat) (U Q : Nat → Nat) (R : va_W) (p_len : Int32) (p_bytes : Nat → Int32) (d_place : Int32) (d_token : Int32) (d_value : Int32) (d_start : Int32) (d_fault : Int32) (d_num : Nat → Int32) : MX l yX4_wayNamed wsX4_wayNamed (rmX 6) D (tyX cI cB cK cS) (pFs t ks kb) (tpW U cB p_len p_bytes ++ (rdW Q U cI d_place d_token d_value d_start d_fault d_num ++ R)) [.ref (Q 0)] (sX4_wayNamed p_len p_bytes d_place d_token d_start) (fun u => some (.int u)) (fun _ => tpW U cB p_len p_bytes ++ (rdW Q U cI d_place d_token d_value d_start d_fault d_num ++ R)) := by
  refine mx_intro (cc := cX4_wayNamed) (maxL := 1) (ret := (some .int)) (by decide) rfl (Nat.le_of_ble_eq_true rfl) ?_
  intro p e s m below meth c A ls H locs Qm hQm hx hb hr hml hts hown hlocks hA hS hP hK hD hF hl
  have hown : s.vm.findClass RX4 = some m.cls := hown
  have hl : lv_has ls 1 [(0, .ref (Q 0))] := hl
  refine lv_aload_n hx hb dX4_wayNamed_0 rfl (lv_at hl 0 rfl) ?_
  refine va_ldcS hx hb hown (hF.2.2.2.2 3 (by decide)) dX4_wayNamed_1 ?_
  refine mx_callV (As := [.ref (ks 3)]) (rest := []) ⟨hx, hb, hml, hown, hts⟩ (mtX4_nameIs l D cI cB cK cS t ks kb U Q R 3 p_len p_bytes d_place d_token d_value d_start d_fault d_num (by decide)) (cwV 1 hts gX4_wayNamed_X4_nameIs rfl rfl rfl (by decide +kernel) ⟨Nat.le_of_ble_eq_true rfl, Nat.le_of_ble_eq_true rfl⟩) pFs_ok hF hK hP hD hS hA 2 rfl rfl rfl rfl hl.1 rfl (Nat.le_of_ble_eq_true rfl) dX4_wayNamed_3 ⟨Nat.le_refl _, Nat.le_refl _⟩ (fun u_1 H locs eu_1 hP hD hS => ?_)
  refine W.eq (g2 := F0 m 6 ls [.int u_1]) rfl ?_
  have hP : va_P D vwCl (tpW U cB p_len p_bytes ++ (rdW Q U cI d_place d_token d_value d_start d_fault d_num ++ R)) H := hP
  have hD : va_D A (tpW U cB p_len p_bytes ++ (rdW Q U cI d_place d_token d_value d_start d_fault d_num ++ R)) := hD
  refine lv_if_eq (tgt := 11) hx hb dX4_wayNamed_6 (by decide) (fun c_2 => ?_) (fun c_2 => ?_)
  · refine lv_aload_n hx hb dX4_wayNamed_11 rfl (lv_at hl 0 rfl) ?_
    refine va_ldcS hx hb hown (hF.2.2.2.2 4 (by decide)) dX4_wayNamed_12 ?_
    refine mx_callV (As := [.ref (ks 4)]) (rest := []) ⟨hx, hb, hml, hown, hts⟩ (mtX4_nameIs l D cI cB cK cS t ks kb U Q R 4 p_len p_bytes d_place d_token d_value d_start d_fault d_num (by decide)) (cwV 1 hts gX4_wayNamed_X4_nameIs rfl rfl rfl (by decide +kernel) ⟨Nat.le_of_ble_eq_true rfl, Nat.le_of_ble_eq_true rfl⟩) pFs_ok hF hK hP hD hS hA 2 rfl rfl rfl rfl hl.1 rfl (Nat.le_of_ble_eq_true rfl) dX4_wayNamed_14 ⟨Nat.le_refl _, Nat.le_refl _⟩ (fun u_3 H locs eu_3 hP hD hS => ?_)
    refine W.eq (g2 := F0 m 17 ls [.int u_3]) rfl ?_
    have hP : va_P D vwCl (tpW U cB p_len p_bytes ++ (rdW Q U cI d_place d_token d_value d_start d_fault d_num ++ R)) H := hP
    have hD : va_D A (tpW U cB p_len p_bytes ++ (rdW Q U cI d_place d_token d_value d_start d_fault d_num ++ R)) := hD
    refine lv_if_eq (tgt := 22) hx hb dX4_wayNamed_17 (by decide) (fun c_4 => ?_) (fun c_4 => ?_)
    · refine lv_aload_n hx hb dX4_wayNamed_22 rfl (lv_at hl 0 rfl) ?_
      refine va_ldcS hx hb hown (hF.2.2.2.2 5 (by decide)) dX4_wayNamed_23 ?_
      refine mx_callV (As := [.ref (ks 5)]) (rest := []) ⟨hx, hb, hml, hown, hts⟩ (mtX4_nameIs l D cI cB cK cS t ks kb U Q R 5 p_len p_bytes d_place d_token d_value d_start d_fault d_num (by decide)) (cwV 1 hts gX4_wayNamed_X4_nameIs rfl rfl rfl (by decide +kernel) ⟨Nat.le_of_ble_eq_true rfl, Nat.le_of_ble_eq_true rfl⟩) pFs_ok hF hK hP hD hS hA 2 rfl rfl rfl rfl hl.1 rfl (Nat.le_of_ble_eq_true rfl) dX4_wayNamed_25 ⟨Nat.le_refl _, Nat.le_refl _⟩ (fun u_5 H locs eu_5 hP hD hS => ?_)
      refine W.eq (g2 := F0 m 28 ls [.int u_5]) rfl ?_
      have hP : va_P D vwCl (tpW U cB p_len p_bytes ++ (rdW Q U cI d_place d_token d_value d_start d_fault d_num ++ R)) H := hP
      have hD : va_D A (tpW U cB p_len p_bytes ++ (rdW Q U cI d_place d_token d_value d_start d_fault d_num ++ R)) := hD
      refine lv_if_eq (tgt := 33) hx hb dX4_wayNamed_28 (by decide) (fun c_6 => ?_) (fun c_6 => ?_)
      · refine lv_aload_n hx hb dX4_wayNamed_33 rfl (lv_at hl 0 rfl) ?_
        refine va_ldcS hx hb hown (hF.2.2.2.2 6 (by decide)) dX4_wayNamed_34 ?_
        refine mx_callV (As := [.ref (ks 6)]) (rest := []) ⟨hx, hb, hml, hown, hts⟩ (mtX4_nameIs l D cI cB cK cS t ks kb U Q R 6 p_len p_bytes d_place d_token d_value d_start d_fault d_num (by decide)) (cwV 1 hts gX4_wayNamed_X4_nameIs rfl rfl rfl (by decide +kernel) ⟨Nat.le_of_ble_eq_true rfl, Nat.le_of_ble_eq_true rfl⟩) pFs_ok hF hK hP hD hS hA 2 rfl rfl rfl rfl hl.1 rfl (Nat.le_of_ble_eq_true rfl) dX4_wayNamed_36 ⟨Nat.le_refl _, Nat.le_refl _⟩ (fun u_7 H locs eu_7 hP hD hS => ?_)
        refine W.eq (g2 := F0 m 39 ls [.int u_7]) rfl ?_
        have hP : va_P D vwCl (tpW U cB p_len p_bytes ++ (rdW Q U cI d_place d_token d_value d_start d_fault d_num ++ R)) H := hP
        have hD : va_D A (tpW U cB p_len p_bytes ++ (rdW Q U cI d_place d_token d_value d_start d_fault d_num ++ R)) := hD
        refine lv_if_eq (tgt := 44) hx hb dX4_wayNamed_39 (by decide) (fun c_8 => ?_) (fun c_8 => ?_)
        · refine lv_aload_n hx hb dX4_wayNamed_44 rfl (lv_at hl 0 rfl) ?_
          refine va_ldcS hx hb hown (hF.2.2.2.2 7 (by decide)) dX4_wayNamed_45 ?_
          refine mx_callV (As := [.ref (ks 7)]) (rest := []) ⟨hx, hb, hml, hown, hts⟩ (mtX4_nameIs l D cI cB cK cS t ks kb U Q R 7 p_len p_bytes d_place d_token d_value d_start d_fault d_num (by decide)) (cwV 1 hts gX4_wayNamed_X4_nameIs rfl rfl rfl (by decide +kernel) ⟨Nat.le_of_ble_eq_true rfl, Nat.le_of_ble_eq_true rfl⟩) pFs_ok hF hK hP hD hS hA 2 rfl rfl rfl rfl hl.1 rfl (Nat.le_of_ble_eq_true rfl) dX4_wayNamed_47 ⟨Nat.le_refl _, Nat.le_refl _⟩ (fun u_9 H locs eu_9 hP hD hS => ?_)
          refine W.eq (g2 := F0 m 50 ls [.int u_9]) rfl ?_
          have hP : va_P D vwCl (tpW U cB p_len p_bytes ++ (rdW Q U cI d_place d_token d_value d_start d_fault d_num ++ R)) H := hP
          have hD : va_D A (tpW U cB p_len p_bytes ++ (rdW Q U cI d_place d_token d_value d_start d_fault d_num ++ R)) := hD
          refine lv_if_eq (tgt := 55) hx hb dX4_wayNamed_50 (by decide) (fun c_10 => ?_) (fun c_10 => ?_)
          · refine lv_aload_n hx hb dX4_wayNamed_55 rfl (lv_at hl 0 rfl) ?_
            refine va_ldcS hx hb hown (hF.2.2.2.2 8 (by decide)) dX4_wayNamed_56 ?_
            refine mx_callV (As := [.ref (ks 8)]) (rest := []) ⟨hx, hb, hml, hown, hts⟩ (mtX4_nameIs l D cI cB cK cS t ks kb U Q R 8 p_len p_bytes d_place d_token d_value d_start d_fault d_num (by decide)) (cwV 1 hts gX4_wayNamed_X4_nameIs rfl rfl rfl (by decide +kernel) ⟨Nat.le_of_ble_eq_true rfl, Nat.le_of_ble_eq_true rfl⟩) pFs_ok hF hK hP hD hS hA 2 rfl rfl rfl rfl hl.1 rfl (Nat.le_of_ble_eq_true rfl) dX4_wayNamed_58 ⟨Nat.le_refl _, Nat.le_refl _⟩ (fun u_11 H locs eu_11 hP hD hS => ?_)
            refine W.eq (g2 := F0 m 61 ls [.int u_11]) rfl ?_
            have hP : va_P D vwCl (tpW U cB p_len p_bytes ++ (rdW Q U cI d_place d_token d_value d_start d_fault d_num ++ R)) H := hP
            have hD : va_D A (tpW U cB p_len p_bytes ++ (rdW Q U cI d_place d_token d_value d_start d_fault d_num ++ R)) := hD
            refine lv_if_eq (tgt := 69) hx hb dX4_wayNamed_61 (by decide) (fun c_12 => ?_) (fun c_12 => ?_)
            · refine lv_iconst (v := 0) hx hb dX4_wayNamed_69 (by decide) ?_
              rw [hQm]
              exact mx_iret (u0 := sX4_wayNamed p_len p_bytes d_place d_token d_start) (rv := (fun u => some (.int u))) (w1 := (fun _ => tpW U cB p_len p_bytes ++ (rdW Q U cI d_place d_token d_value d_start d_fault d_num ++ R))) (u := (0)) hx hb hr hlocks hK hS (lt_eq eu_1 ((if_pos c_2).trans (lt_eq eu_3 ((if_pos c_4).trans (lt_eq eu_5 ((if_pos c_6).trans (lt_eq eu_7 ((if_pos c_8).trans (lt_eq eu_9 ((if_pos c_10).trans (lt_eq eu_11 ((if_pos c_12).trans rfl)))))))))))) hP hD rfl dX4_wayNamed_70
            · refine lv_bipush (v := 6) hx hb dX4_wayNamed_64 (by decide) ?_
              refine lv_goto (tgt := 70) hx hb dX4_wayNamed_66 (by decide) ?_
              rw [hQm]
              exact mx_iret (u0 := sX4_wayNamed p_len p_bytes d_place d_token d_start) (rv := (fun u => some (.int u))) (w1 := (fun _ => tpW U cB p_len p_bytes ++ (rdW Q U cI d_place d_token d_value d_start d_fault d_num ++ R))) (u := (6)) hx hb hr hlocks hK hS (lt_eq eu_1 ((if_pos c_2).trans (lt_eq eu_3 ((if_pos c_4).trans (lt_eq eu_5 ((if_pos c_6).trans (lt_eq eu_7 ((if_pos c_8).trans (lt_eq eu_9 ((if_pos c_10).trans (lt_eq eu_11 ((if_neg c_12).trans rfl)))))))))))) hP hD rfl dX4_wayNamed_70
          · refine lv_iconst (v := 5) hx hb dX4_wayNamed_53 (by decide) ?_
            rw [hQm]
            exact mx_iret (u0 := sX4_wayNamed p_len p_bytes d_place d_token d_start) (rv := (fun u => some (.int u))) (w1 := (fun _ => tpW U cB p_len p_bytes ++ (rdW Q U cI d_place d_token d_value d_start d_fault d_num ++ R))) (u := (5)) hx hb hr hlocks hK hS (lt_eq eu_1 ((if_pos c_2).trans (lt_eq eu_3 ((if_pos c_4).trans (lt_eq eu_5 ((if_pos c_6).trans (lt_eq eu_7 ((if_pos c_8).trans (lt_eq eu_9 ((if_neg c_10).trans rfl)))))))))) hP hD rfl dX4_wayNamed_54
        · refine lv_iconst (v := 4) hx hb dX4_wayNamed_42 (by decide) ?_
          rw [hQm]
          exact mx_iret (u0 := sX4_wayNamed p_len p_bytes d_place d_token d_start) (rv := (fun u => some (.int u))) (w1 := (fun _ => tpW U cB p_len p_bytes ++ (rdW Q U cI d_place d_token d_value d_start d_fault d_num ++ R))) (u := (4)) hx hb hr hlocks hK hS (lt_eq eu_1 ((if_pos c_2).trans (lt_eq eu_3 ((if_pos c_4).trans (lt_eq eu_5 ((if_pos c_6).trans (lt_eq eu_7 ((if_neg c_8).trans rfl)))))))) hP hD rfl dX4_wayNamed_43
      · refine lv_iconst (v := 3) hx hb dX4_wayNamed_31 (by decide) ?_
        rw [hQm]
        exact mx_iret (u0 := sX4_wayNamed p_len p_bytes d_place d_token d_start) (rv := (fun u => some (.int u))) (w1 := (fun _ => tpW U cB p_len p_bytes ++ (rdW Q U cI d_place d_token d_value d_start d_fault d_num ++ R))) (u := (3)) hx hb hr hlocks hK hS (lt_eq eu_1 ((if_pos c_2).trans (lt_eq eu_3 ((if_pos c_4).trans (lt_eq eu_5 ((if_neg c_6).trans rfl)))))) hP hD rfl dX4_wayNamed_32
    · refine lv_iconst (v := 2) hx hb dX4_wayNamed_20 (by decide) ?_
      rw [hQm]
      exact mx_iret (u0 := sX4_wayNamed p_len p_bytes d_place d_token d_start) (rv := (fun u => some (.int u))) (w1 := (fun _ => tpW U cB p_len p_bytes ++ (rdW Q U cI d_place d_token d_value d_start d_fault d_num ++ R))) (u := (2)) hx hb hr hlocks hK hS (lt_eq eu_1 ((if_pos c_2).trans (lt_eq eu_3 ((if_neg c_4).trans rfl)))) hP hD rfl dX4_wayNamed_21
  · refine lv_iconst (v := 1) hx hb dX4_wayNamed_9 (by decide) ?_
    rw [hQm]
    exact mx_iret (u0 := sX4_wayNamed p_len p_bytes d_place d_token d_start) (rv := (fun u => some (.int u))) (w1 := (fun _ => tpW U cB p_len p_bytes ++ (rdW Q U cI d_place d_token d_value d_start d_fault d_num ++ R))) (u := (1)) hx hb hr hlocks hK hS (lt_eq eu_1 ((if_neg c_2).trans rfl)) hP hD rfl dX4_wayNamed_10

def sX4_readWay (j : Nat) (kv : Nat → Nat → Int32) (p_len : Int32) (p_bytes : Nat → Int32) (d_place : Int32) (d_fault : Int32) : Int32 × (Nat → Nat → Int32) × (Int32) × (Int32) × (Int32) × (Int32) × (Int32) := lt (sX4_scan p_len p_bytes d_place) (fun u_1 : (Int32) × (Int32) × (Int32) × (Int32) => lt (sX4_wayNamed p_len p_bytes u_1.1 u_1.2.1 u_1.2.2.2) (fun u_2 : Int32 => lt (va_up kv j (upd (kv j) 0 u_2)) (fun kv_3 : Nat → Nat → Int32 => lt (va_up kv_3 j (upd (kv_3 j) 1 0)) (fun kv_4 : Nat → Nat → Int32 => if ((kv_4 j) 0) = 0 then (lt (sX4_failed 1) (fun u_6 : Int32 × (Int32) => (u_6.1, kv_4, u_1.1, u_1.2.1, u_1.2.2.1, u_1.2.2.2, u_6.2))) else (if ((kv_4 j) 0) = 1 then ((1, kv_4, u_1.1, u_1.2.1, u_1.2.2.1, u_1.2.2.2, d_fault)) else (if ((kv_4 j) 0) = 2 then (lt (sX4_takeNumber 1 3 p_len p_bytes u_1.1 d_fault) (fun u_9 : Int32 × (Int32) × (Int32) × (Int32) × (Int32) × (Int32) => if u_9.1 = 0 then ((0, kv_4, u_9.2.1, u_9.2.2.1, u_9.2.2.2.1, u_9.2.2.2.2.1, u_9.2.2.2.2.2)) else (lt (va_up kv_4 j (upd (kv_4 j) 1 u_9.2.2.2.1)) (fun kv_11 : Nat → Nat → Int32 => (1, kv_11, u_9.2.1, u_9.2.2.1, u_9.2.2.2.1, u_9.2.2.2.2.1, u_9.2.2.2.2.2))))) else (if ((kv_4 j) 0) = 3 then (lt (sX4_takeNumber 0 9 p_len p_bytes u_1.1 d_fault) (fun u_13 : Int32 × (Int32) × (Int32) × (Int32) × (Int32) × (Int32) => if u_13.1 = 0 then ((0, kv_4, u_13.2.1, u_13.2.2.1, u_13.2.2.2.1, u_13.2.2.2.2.1, u_13.2.2.2.2.2)) else (lt (va_up kv_4 j (upd (kv_4 j) 1 u_13.2.2.2.1)) (fun kv_15 : Nat → Nat → Int32 => (1, kv_15, u_13.2.1, u_13.2.2.1, u_13.2.2.2.1, u_13.2.2.2.2.1, u_13.2.2.2.2.2))))) else ((1, kv_4, u_1.1, u_1.2.1, u_1.2.2.1, u_1.2.2.2, d_fault)))))))))
set_option maxHeartbeats 4000000 in
set_option maxRecDepth 100000 in
theorem mtX4_readWay (l : Launch) (D : va_G) (cI cB cK cS : ClassId) (t ks kb : Nat → Nat) (Z U Q : Nat → Nat) (R : va_W) (j : Nat) (f : Nat → Int32) (kv : Nat → Nat → Int32) (mv : Nat → Int32) (p_len : Int32) (p_bytes : Nat → Int32) (d_place : Int32) (d_token : Int32) (d_value : Int32) (d_start : Int32) (d_fault : Int32) (d_num : Nat → Int32) (hpl : pl_ok d_place) (hl1 : p_len.toInt ≤ 400) (hj : j < 5) : MX l yX4_readWay wsX4_readWay (rmX 7) D (tyX cI cB cK cS) (pFs t ks kb) (landW Z cK f kv mv ++ (tpW U cB p_len p_bytes ++ (rdW Q U cI d_place d_token d_value d_start d_fault d_num ++ R))) [.ref (Q 0), .ref (Z (3 + j))] (sX4_readWay j kv p_len p_bytes d_place d_fault) (fun u => some (.int u.1)) (fun u => landW Z cK f u.2.1 mv ++ (tpW U cB p_len p_bytes ++ (rdW Q U cI u.2.2.1 u.2.2.2.1 u.2.2.2.2.1 u.2.2.2.2.2.1 u.2.2.2.2.2.2 d_num ++ R))) := by
  refine mx_intro (cc := cX4_readWay) (maxL := 2) (ret := (some .boolean)) (by decide) rfl (Nat.le_of_ble_eq_true rfl) ?_
  intro p e s m below meth c A ls H locs Qm hQm hx hb hr hml hts hown hlocks hA hS hP hK hD hF hl
  have hown : s.vm.findClass RX4 = some m.cls := hown
  have hl : lv_has ls 2 [(0, .ref (Q 0)), (1, .ref (Z (3 + j)))] := hl
  have k141 := hts (.fieldLink RX4 141 "PigRounds$Kind" "way" "I") (by decide +kernel)
  have k144 := hts (.fieldLink RX4 144 "PigRounds$Kind" "number" "I") (by decide +kernel)
  have k22 := hts (.fieldLink RX4 22 "PigRounds$Reader" "value" "I") (by decide +kernel)
  have iX1 : ∀ w ∈ u_ws RX1 TX1 9, w ∈ wsX4_readWay := by decide +kernel
  have iX4 : ∀ w ∈ u_ws RX4 TX4 7, w ∈ wsX4_readWay := by decide +kernel
  refine lv_aload_n hx hb dX4_readWay_0 rfl (lv_at hl 0 rfl) ?_
  have hpm : List.Perm (landW Z cK f kv mv ++ (tpW U cB p_len p_bytes ++ (rdW Q U cI d_place d_token d_value d_start d_fault d_num ++ R))) (tpW U cB p_len p_bytes ++ (rdW Q U cI d_place d_token d_value d_start d_fault d_num ++ (landW Z cK f kv mv ++ R))) := (((List.Perm.append_left _ gp_swap).trans gp_swap).trans ((List.Perm.append_left _ gp_swap).trans gp_swap))
  have hP := gp_P hpm hP
  have hD := gp_D hpm hD
  refine mx_callV (As := []) (rest := []) ⟨hx, hb, hml, hown, hts⟩ (mtX4_scan l D cI cB cK cS U Q (landW Z cK f kv mv ++ R) p_len p_bytes d_place d_token d_value d_start d_fault d_num (by first | assumption | omega) (by first | assumption | omega)) (cwV 0 hts gX4_readWay_X4_scan rfl rfl rfl (by decide +kernel) ⟨Nat.le_of_ble_eq_true rfl, Nat.le_of_ble_eq_true rfl⟩) pF0_ok trivial hK hP hD hS hA 2 rfl rfl rfl rfl hl.1 rfl (Nat.le_of_ble_eq_true rfl) dX4_readWay_1 ⟨Nat.le_refl _, Nat.le_refl _⟩ (fun u_1 H locs eu_1 hP hD hS => ?_)
  refine W.eq (g2 := F0 m 4 ls []) rfl ?_
  have hP : va_P D vwCl (tpW U cB p_len p_bytes ++ (rdW Q U cI u_1.1 u_1.2.1 u_1.2.2.1 u_1.2.2.2 d_fault d_num ++ (landW Z cK f kv mv ++ R))) H := hP
  have hD : va_D A (tpW U cB p_len p_bytes ++ (rdW Q U cI u_1.1 u_1.2.1 u_1.2.2.1 u_1.2.2.2 d_fault d_num ++ (landW Z cK f kv mv ++ R))) := hD
  have hpm : List.Perm (tpW U cB p_len p_bytes ++ (rdW Q U cI u_1.1 u_1.2.1 u_1.2.2.1 u_1.2.2.2 d_fault d_num ++ (landW Z cK f kv mv ++ R))) (landW Z cK f kv mv ++ (tpW U cB p_len p_bytes ++ (rdW Q U cI u_1.1 u_1.2.1 u_1.2.2.1 u_1.2.2.2 d_fault d_num ++ R))) := ((gp_swap.trans gp_swap).trans ((List.Perm.append_left _ gp_swap).trans gp_swap))
  have hP := gp_P hpm hP
  have hD := gp_D hpm hD
  have hpl_u_1 := sX4_scan_ok (by assumption) (by assumption) eu_1
  refine lv_aload_n hx hb dX4_readWay_4 rfl (lv_at hl 1 rfl) ?_
  refine lv_aload_n hx hb dX4_readWay_5 rfl (lv_at hl 0 rfl) ?_
  have hpm : List.Perm (landW Z cK f kv mv ++ (tpW U cB p_len p_bytes ++ (rdW Q U cI u_1.1 u_1.2.1 u_1.2.2.1 u_1.2.2.2 d_fault d_num ++ R))) (tpW U cB p_len p_bytes ++ (rdW Q U cI u_1.1 u_1.2.1 u_1.2.2.1 u_1.2.2.2 d_fault d_num ++ (landW Z cK f kv mv ++ R))) := (((List.Perm.append_left _ gp_swap).trans gp_swap).trans ((List.Perm.append_left _ gp_swap).trans gp_swap))
  have hP := gp_P hpm hP
  have hD := gp_D hpm hD
  refine mx_callV (As := []) (rest := [.ref (Z (3 + j))]) ⟨hx, hb, hml, hown, hts⟩ (mtX4_wayNamed l D cI cB cK cS t ks kb U Q (landW Z cK f kv mv ++ R) p_len p_bytes u_1.1 u_1.2.1 u_1.2.2.1 u_1.2.2.2 d_fault d_num) (cwV 0 hts gX4_readWay_X4_wayNamed rfl rfl rfl (by decide +kernel) ⟨Nat.le_of_ble_eq_true rfl, Nat.le_of_ble_eq_true rfl⟩) pFs_ok hF hK hP hD hS hA 2 rfl rfl rfl rfl hl.1 rfl (Nat.le_of_ble_eq_true rfl) dX4_readWay_6 ⟨Nat.le_refl _, Nat.le_refl _⟩ (fun u_2 H locs eu_2 hP hD hS => ?_)
  refine W.eq (g2 := F0 m 9 ls [.int u_2, .ref (Z (3 + j))]) rfl ?_
  have hP : va_P D vwCl (tpW U cB p_len p_bytes ++ (rdW Q U cI u_1.1 u_1.2.1 u_1.2.2.1 u_1.2.2.2 d_fault d_num ++ (landW Z cK f kv mv ++ R))) H := hP
  have hD : va_D A (tpW U cB p_len p_bytes ++ (rdW Q U cI u_1.1 u_1.2.1 u_1.2.2.1 u_1.2.2.2 d_fault d_num ++ (landW Z cK f kv mv ++ R))) := hD
  have hpm : List.Perm (tpW U cB p_len p_bytes ++ (rdW Q U cI u_1.1 u_1.2.1 u_1.2.2.1 u_1.2.2.2 d_fault d_num ++ (landW Z cK f kv mv ++ R))) (landW Z cK f kv mv ++ (tpW U cB p_len p_bytes ++ (rdW Q U cI u_1.1 u_1.2.1 u_1.2.2.1 u_1.2.2.2 d_fault d_num ++ R))) := ((gp_swap.trans gp_swap).trans ((List.Perm.append_left _ gp_swap).trans gp_swap))
  have hP := gp_P hpm hP
  have hD := gp_D hpm hD
  refine va_put (D := D) (ci := 1) (v := .int u_2) (ty := .int) (C := RX1) (T := TX1) (N := 9) hx hb hts iX1 tyX1 tyX1_ok nmX1 hown hK hP hD hS j (kk_get hj) rfl 0 (by decide) k141 (fun _ h9 => h9) rfl (by decide +kernel) rfl rfl (Nat.le_of_ble_eq_true rfl) dX4_readWay_9 (fun H locs hP hD hS => ?_)
  have hP : va_P D vwCl ((landW Z cK f kv mv ++ (tpW U cB p_len p_bytes ++ (rdW Q U cI u_1.1 u_1.2.1 u_1.2.2.1 u_1.2.2.2 d_fault d_num ++ R))).set j (Z (3 + j), .inr (1, kf (upd (kv j) 0 u_2)))) H := hP
  rw [kk_set hj] at hP
  have hD : va_D A ((landW Z cK f kv mv ++ (tpW U cB p_len p_bytes ++ (rdW Q U cI u_1.1 u_1.2.1 u_1.2.2.1 u_1.2.2.2 d_fault d_num ++ R))).set j (Z (3 + j), .inr (1, kf (upd (kv j) 0 u_2)))) := hD
  rw [kk_set hj] at hD
  obtain ⟨kv_3, ekv_3⟩ : ∃ z : Nat → Nat → Int32, z = va_up kv j (upd (kv j) 0 u_2) := ⟨_, rfl⟩
  rw [← ekv_3] at hP hD
  have hP : va_P D vwCl (landW Z cK f kv_3 mv ++ (tpW U cB p_len p_bytes ++ (rdW Q U cI u_1.1 u_1.2.1 u_1.2.2.1 u_1.2.2.2 d_fault d_num ++ R))) H := hP
  have hD : va_D A (landW Z cK f kv_3 mv ++ (tpW U cB p_len p_bytes ++ (rdW Q U cI u_1.1 u_1.2.1 u_1.2.2.1 u_1.2.2.2 d_fault d_num ++ R))) := hD
  refine lv_aload_n hx hb dX4_readWay_12 rfl (lv_at hl 1 rfl) ?_
  refine lv_iconst (v := 0) hx hb dX4_readWay_13 (by decide) ?_
  refine va_put (D := D) (ci := 1) (v := .int 0) (ty := .int) (C := RX1) (T := TX1) (N := 9) hx hb hts iX1 tyX1 tyX1_ok nmX1 hown hK hP hD hS j (kk_get hj) rfl 1 (by decide) k144 (fun _ h9 => h9) rfl (by decide +kernel) rfl rfl (Nat.le_of_ble_eq_true rfl) dX4_readWay_14 (fun H locs hP hD hS => ?_)
  have hP : va_P D vwCl ((landW Z cK f kv_3 mv ++ (tpW U cB p_len p_bytes ++ (rdW Q U cI u_1.1 u_1.2.1 u_1.2.2.1 u_1.2.2.2 d_fault d_num ++ R))).set j (Z (3 + j), .inr (1, kf (upd (kv_3 j) 1 0)))) H := hP
  rw [kk_set hj] at hP
  have hD : va_D A ((landW Z cK f kv_3 mv ++ (tpW U cB p_len p_bytes ++ (rdW Q U cI u_1.1 u_1.2.1 u_1.2.2.1 u_1.2.2.2 d_fault d_num ++ R))).set j (Z (3 + j), .inr (1, kf (upd (kv_3 j) 1 0)))) := hD
  rw [kk_set hj] at hD
  obtain ⟨kv_4, ekv_4⟩ : ∃ z : Nat → Nat → Int32, z = va_up kv_3 j (upd (kv_3 j) 1 0) := ⟨_, rfl⟩
  rw [← ekv_4] at hP hD
  have hP : va_P D vwCl (landW Z cK f kv_4 mv ++ (tpW U cB p_len p_bytes ++ (rdW Q U cI u_1.1 u_1.2.1 u_1.2.2.1 u_1.2.2.2 d_fault d_num ++ R))) H := hP
  have hD : va_D A (landW Z cK f kv_4 mv ++ (tpW U cB p_len p_bytes ++ (rdW Q U cI u_1.1 u_1.2.1 u_1.2.2.1 u_1.2.2.2 d_fault d_num ++ R))) := hD
  refine lv_aload_n hx hb dX4_readWay_17 rfl (lv_at hl 1 rfl) ?_
  refine va_get (D := D) (ci := 1) (v := .int ((kv_4 j) 0)) (C := RX1) (T := TX1) (N := 9) hx hb hts iX1 hown hK hP j (kk_get hj) rfl 0 (by decide) k141 (fun _ h9 => h9) rfl dX4_readWay_18 ?_
  rcases Classical.em (((kv_4 j) 0) = 0) with c_5 | c_5
  · refine lv_tableIn (tgt := 52) hx hb dX4_readWay_21 (by rw [c_5]; decide) (by rw [c_5]; decide) (by rw [c_5]; rfl) (by decide) ?_
    refine lv_aload_n hx hb dX4_readWay_52 rfl (lv_at hl 0 rfl) ?_
    refine lv_iconst (v := 1) hx hb dX4_readWay_53 (by decide) ?_
    have hpm : List.Perm (landW Z cK f kv_4 mv ++ (tpW U cB p_len p_bytes ++ (rdW Q U cI u_1.1 u_1.2.1 u_1.2.2.1 u_1.2.2.2 d_fault d_num ++ R))) (tpW U cB p_len p_bytes ++ (rdW Q U cI u_1.1 u_1.2.1 u_1.2.2.1 u_1.2.2.2 d_fault d_num ++ (landW Z cK f kv_4 mv ++ R))) := (((List.Perm.append_left _ gp_swap).trans gp_swap).trans ((List.Perm.append_left _ gp_swap).trans gp_swap))
    have hP := gp_P hpm hP
    have hD := gp_D hpm hD
    refine mx_callV (As := [.int 1]) (rest := []) ⟨hx, hb, hml, hown, hts⟩ (mtX4_failed l D cI cB cK cS U Q (landW Z cK f kv_4 mv ++ R) p_len p_bytes u_1.1 u_1.2.1 u_1.2.2.1 u_1.2.2.2 d_fault d_num 1) (cwV 1 hts gX4_readWay_X4_failed rfl rfl rfl (by decide +kernel) ⟨Nat.le_of_ble_eq_true rfl, Nat.le_of_ble_eq_true rfl⟩) pF0_ok trivial hK hP hD hS hA 2 rfl rfl rfl rfl hl.1 rfl (Nat.le_of_ble_eq_true rfl) dX4_readWay_54 ⟨Nat.le_refl _, Nat.le_refl _⟩ (fun u_6 H locs eu_6 hP hD hS => ?_)
    refine W.eq (g2 := F0 m 57 ls [.int u_6.1]) rfl ?_
    have hP : va_P D vwCl (tpW U cB p_len p_bytes ++ (rdW Q U cI u_1.1 u_1.2.1 u_1.2.2.1 u_1.2.2.2 u_6.2 d_num ++ (landW Z cK f kv_4 mv ++ R))) H := hP
    have hD : va_D A (tpW U cB p_len p_bytes ++ (rdW Q U cI u_1.1 u_1.2.1 u_1.2.2.1 u_1.2.2.2 u_6.2 d_num ++ (landW Z cK f kv_4 mv ++ R))) := hD
    have hpm : List.Perm (tpW U cB p_len p_bytes ++ (rdW Q U cI u_1.1 u_1.2.1 u_1.2.2.1 u_1.2.2.2 u_6.2 d_num ++ (landW Z cK f kv_4 mv ++ R))) (landW Z cK f kv_4 mv ++ (tpW U cB p_len p_bytes ++ (rdW Q U cI u_1.1 u_1.2.1 u_1.2.2.1 u_1.2.2.2 u_6.2 d_num ++ R))) := ((gp_swap.trans gp_swap).trans ((List.Perm.append_left _ gp_swap).trans gp_swap))
    have hP := gp_P hpm hP
    have hD := gp_D hpm hD
    rw [hQm]
    exact mx_zret (u0 := sX4_readWay j kv p_len p_bytes d_place d_fault) (rv := (fun u => some (.int u.1))) (w1 := (fun u => landW Z cK f u.2.1 mv ++ (tpW U cB p_len p_bytes ++ (rdW Q U cI u.2.2.1 u.2.2.2.1 u.2.2.2.2.1 u.2.2.2.2.2.1 u.2.2.2.2.2.2 d_num ++ R)))) (u := (u_6.1, kv_4, u_1.1, u_1.2.1, u_1.2.2.1, u_1.2.2.2, u_6.2)) hx hb hr hlocks hK hS (lt_eq eu_1 (lt_eq eu_2 (lt_eq ekv_3 (lt_eq ekv_4 ((if_pos c_5).trans (lt_eq eu_6 rfl)))))) hP hD rfl (z_narrow (sX4_failed_z eu_6)) dX4_readWay_57
  · rcases Classical.em (((kv_4 j) 0) = 1) with c_7 | c_7
    · refine lv_tableIn (tgt := 101) hx hb dX4_readWay_21 (by rw [c_7]; decide) (by rw [c_7]; decide) (by rw [c_7]; rfl) (by decide) ?_
      refine lv_iconst (v := 1) hx hb dX4_readWay_101 (by decide) ?_
      rw [hQm]
      exact mx_zret (u0 := sX4_readWay j kv p_len p_bytes d_place d_fault) (rv := (fun u => some (.int u.1))) (w1 := (fun u => landW Z cK f u.2.1 mv ++ (tpW U cB p_len p_bytes ++ (rdW Q U cI u.2.2.1 u.2.2.2.1 u.2.2.2.2.1 u.2.2.2.2.2.1 u.2.2.2.2.2.2 d_num ++ R)))) (u := (1, kv_4, u_1.1, u_1.2.1, u_1.2.2.1, u_1.2.2.2, d_fault)) hx hb hr hlocks hK hS (lt_eq eu_1 (lt_eq eu_2 (lt_eq ekv_3 (lt_eq ekv_4 ((if_neg c_5).trans ((if_pos c_7).trans rfl)))))) hP hD rfl rfl dX4_readWay_102
    · rcases Classical.em (((kv_4 j) 0) = 2) with c_8 | c_8
      · refine lv_tableIn (tgt := 58) hx hb dX4_readWay_21 (by rw [c_8]; decide) (by rw [c_8]; decide) (by rw [c_8]; rfl) (by decide) ?_
        refine lv_aload_n hx hb dX4_readWay_58 rfl (lv_at hl 0 rfl) ?_
        refine lv_iconst (v := 1) hx hb dX4_readWay_59 (by decide) ?_
        refine lv_iconst (v := 3) hx hb dX4_readWay_60 (by decide) ?_
        have hpm : List.Perm (landW Z cK f kv_4 mv ++ (tpW U cB p_len p_bytes ++ (rdW Q U cI u_1.1 u_1.2.1 u_1.2.2.1 u_1.2.2.2 d_fault d_num ++ R))) (tpW U cB p_len p_bytes ++ (rdW Q U cI u_1.1 u_1.2.1 u_1.2.2.1 u_1.2.2.2 d_fault d_num ++ (landW Z cK f kv_4 mv ++ R))) := (((List.Perm.append_left _ gp_swap).trans gp_swap).trans ((List.Perm.append_left _ gp_swap).trans gp_swap))
        have hP := gp_P hpm hP
        have hD := gp_D hpm hD
        refine mx_callV (As := [.int 1, .int 3]) (rest := []) ⟨hx, hb, hml, hown, hts⟩ (mtX4_takeNumber l D cI cB cK cS U Q (landW Z cK f kv_4 mv ++ R) p_len p_bytes u_1.1 u_1.2.1 u_1.2.2.1 u_1.2.2.2 d_fault d_num 1 3 (by first | assumption | omega) (by first | assumption | omega)) (cwV 2 hts gX4_readWay_X4_takeNumber rfl rfl rfl (by decide +kernel) ⟨Nat.le_of_ble_eq_true rfl, Nat.le_of_ble_eq_true rfl⟩) pF0_ok trivial hK hP hD hS hA 2 rfl rfl rfl rfl hl.1 rfl (Nat.le_of_ble_eq_true rfl) dX4_readWay_61 ⟨Nat.le_refl _, Nat.le_refl _⟩ (fun u_9 H locs eu_9 hP hD hS => ?_)
        refine W.eq (g2 := F0 m 64 ls [.int u_9.1]) rfl ?_
        have hP : va_P D vwCl (tpW U cB p_len p_bytes ++ (rdW Q U cI u_9.2.1 u_9.2.2.1 u_9.2.2.2.1 u_9.2.2.2.2.1 u_9.2.2.2.2.2 d_num ++ (landW Z cK f kv_4 mv ++ R))) H := hP
        have hD : va_D A (tpW U cB p_len p_bytes ++ (rdW Q U cI u_9.2.1 u_9.2.2.1 u_9.2.2.2.1 u_9.2.2.2.2.1 u_9.2.2.2.2.2 d_num ++ (landW Z cK f kv_4 mv ++ R))) := hD
        have hpm : List.Perm (tpW U cB p_len p_bytes ++ (rdW Q U cI u_9.2.1 u_9.2.2.1 u_9.2.2.2.1 u_9.2.2.2.2.1 u_9.2.2.2.2.2 d_num ++ (landW Z cK f kv_4 mv ++ R))) (landW Z cK f kv_4 mv ++ (tpW U cB p_len p_bytes ++ (rdW Q U cI u_9.2.1 u_9.2.2.1 u_9.2.2.2.1 u_9.2.2.2.2.1 u_9.2.2.2.2.2 d_num ++ R))) := ((gp_swap.trans gp_swap).trans ((List.Perm.append_left _ gp_swap).trans gp_swap))
        have hP := gp_P hpm hP
        have hD := gp_D hpm hD
        have hpl_u_9 := sX4_takeNumber_ok (by assumption) (by assumption) eu_9
        refine lv_if_ne (tgt := 69) hx hb dX4_readWay_64 (by decide) (fun c_10 => ?_) (fun c_10 => ?_)
        · refine lv_aload_n hx hb dX4_readWay_69 rfl (lv_at hl 1 rfl) ?_
          refine lv_aload_n hx hb dX4_readWay_70 rfl (lv_at hl 0 rfl) ?_
          refine va_get (D := D) (ci := 4) (v := .int u_9.2.2.2.1) (C := RX4) (T := TX4) (N := 7) hx hb hts iX4 hown hK hP 10 rfl rfl 4 (by decide) k22 (fun _ h9 => h9) rfl dX4_readWay_71 ?_
          refine va_put (D := D) (ci := 1) (v := .int u_9.2.2.2.1) (ty := .int) (C := RX1) (T := TX1) (N := 9) hx hb hts iX1 tyX1 tyX1_ok nmX1 hown hK hP hD hS j (kk_get hj) rfl 1 (by decide) k144 (fun _ h9 => h9) rfl (by decide +kernel) rfl rfl (Nat.le_of_ble_eq_true rfl) dX4_readWay_74 (fun H locs hP hD hS => ?_)
          have hP : va_P D vwCl ((landW Z cK f kv_4 mv ++ (tpW U cB p_len p_bytes ++ (rdW Q U cI u_9.2.1 u_9.2.2.1 u_9.2.2.2.1 u_9.2.2.2.2.1 u_9.2.2.2.2.2 d_num ++ R))).set j (Z (3 + j), .inr (1, kf (upd (kv_4 j) 1 u_9.2.2.2.1)))) H := hP
          rw [kk_set hj] at hP
          have hD : va_D A ((landW Z cK f kv_4 mv ++ (tpW U cB p_len p_bytes ++ (rdW Q U cI u_9.2.1 u_9.2.2.1 u_9.2.2.2.1 u_9.2.2.2.2.1 u_9.2.2.2.2.2 d_num ++ R))).set j (Z (3 + j), .inr (1, kf (upd (kv_4 j) 1 u_9.2.2.2.1)))) := hD
          rw [kk_set hj] at hD
          obtain ⟨kv_11, ekv_11⟩ : ∃ z : Nat → Nat → Int32, z = va_up kv_4 j (upd (kv_4 j) 1 u_9.2.2.2.1) := ⟨_, rfl⟩
          rw [← ekv_11] at hP hD
          have hP : va_P D vwCl (landW Z cK f kv_11 mv ++ (tpW U cB p_len p_bytes ++ (rdW Q U cI u_9.2.1 u_9.2.2.1 u_9.2.2.2.1 u_9.2.2.2.2.1 u_9.2.2.2.2.2 d_num ++ R))) H := hP
          have hD : va_D A (landW Z cK f kv_11 mv ++ (tpW U cB p_len p_bytes ++ (rdW Q U cI u_9.2.1 u_9.2.2.1 u_9.2.2.2.1 u_9.2.2.2.2.1 u_9.2.2.2.2.2 d_num ++ R))) := hD
          refine lv_iconst (v := 1) hx hb dX4_readWay_77 (by decide) ?_
          rw [hQm]
          exact mx_zret (u0 := sX4_readWay j kv p_len p_bytes d_place d_fault) (rv := (fun u => some (.int u.1))) (w1 := (fun u => landW Z cK f u.2.1 mv ++ (tpW U cB p_len p_bytes ++ (rdW Q U cI u.2.2.1 u.2.2.2.1 u.2.2.2.2.1 u.2.2.2.2.2.1 u.2.2.2.2.2.2 d_num ++ R)))) (u := (1, kv_11, u_9.2.1, u_9.2.2.1, u_9.2.2.2.1, u_9.2.2.2.2.1, u_9.2.2.2.2.2)) hx hb hr hlocks hK hS (lt_eq eu_1 (lt_eq eu_2 (lt_eq ekv_3 (lt_eq ekv_4 ((if_neg c_5).trans ((if_neg c_7).trans ((if_pos c_8).trans (lt_eq eu_9 ((if_neg c_10).trans (lt_eq ekv_11 rfl)))))))))) hP hD rfl rfl dX4_readWay_78
        · refine lv_iconst (v := 0) hx hb dX4_readWay_67 (by decide) ?_
          rw [hQm]
          exact mx_zret (u0 := sX4_readWay j kv p_len p_bytes d_place d_fault) (rv := (fun u => some (.int u.1))) (w1 := (fun u => landW Z cK f u.2.1 mv ++ (tpW U cB p_len p_bytes ++ (rdW Q U cI u.2.2.1 u.2.2.2.1 u.2.2.2.2.1 u.2.2.2.2.2.1 u.2.2.2.2.2.2 d_num ++ R)))) (u := (0, kv_4, u_9.2.1, u_9.2.2.1, u_9.2.2.2.1, u_9.2.2.2.2.1, u_9.2.2.2.2.2)) hx hb hr hlocks hK hS (lt_eq eu_1 (lt_eq eu_2 (lt_eq ekv_3 (lt_eq ekv_4 ((if_neg c_5).trans ((if_neg c_7).trans ((if_pos c_8).trans (lt_eq eu_9 ((if_pos c_10).trans rfl))))))))) hP hD rfl rfl dX4_readWay_68
      · rcases Classical.em (((kv_4 j) 0) = 3) with c_12 | c_12
        · refine lv_tableIn (tgt := 79) hx hb dX4_readWay_21 (by rw [c_12]; decide) (by rw [c_12]; decide) (by rw [c_12]; rfl) (by decide) ?_
          refine lv_aload_n hx hb dX4_readWay_79 rfl (lv_at hl 0 rfl) ?_
          refine lv_iconst (v := 0) hx hb dX4_readWay_80 (by decide) ?_
          refine lv_bipush (v := 9) hx hb dX4_readWay_81 (by decide) ?_
          have hpm : List.Perm (landW Z cK f kv_4 mv ++ (tpW U cB p_len p_bytes ++ (rdW Q U cI u_1.1 u_1.2.1 u_1.2.2.1 u_1.2.2.2 d_fault d_num ++ R))) (tpW U cB p_len p_bytes ++ (rdW Q U cI u_1.1 u_1.2.1 u_1.2.2.1 u_1.2.2.2 d_fault d_num ++ (landW Z cK f kv_4 mv ++ R))) := (((List.Perm.append_left _ gp_swap).trans gp_swap).trans ((List.Perm.append_left _ gp_swap).trans gp_swap))
          have hP := gp_P hpm hP
          have hD := gp_D hpm hD
          refine mx_callV (As := [.int 0, .int 9]) (rest := []) ⟨hx, hb, hml, hown, hts⟩ (mtX4_takeNumber l D cI cB cK cS U Q (landW Z cK f kv_4 mv ++ R) p_len p_bytes u_1.1 u_1.2.1 u_1.2.2.1 u_1.2.2.2 d_fault d_num 0 9 (by first | assumption | omega) (by first | assumption | omega)) (cwV 2 hts gX4_readWay_X4_takeNumber rfl rfl rfl (by decide +kernel) ⟨Nat.le_of_ble_eq_true rfl, Nat.le_of_ble_eq_true rfl⟩) pF0_ok trivial hK hP hD hS hA 2 rfl rfl rfl rfl hl.1 rfl (Nat.le_of_ble_eq_true rfl) dX4_readWay_83 ⟨Nat.le_refl _, Nat.le_refl _⟩ (fun u_13 H locs eu_13 hP hD hS => ?_)
          refine W.eq (g2 := F0 m 86 ls [.int u_13.1]) rfl ?_
          have hP : va_P D vwCl (tpW U cB p_len p_bytes ++ (rdW Q U cI u_13.2.1 u_13.2.2.1 u_13.2.2.2.1 u_13.2.2.2.2.1 u_13.2.2.2.2.2 d_num ++ (landW Z cK f kv_4 mv ++ R))) H := hP
          have hD : va_D A (tpW U cB p_len p_bytes ++ (rdW Q U cI u_13.2.1 u_13.2.2.1 u_13.2.2.2.1 u_13.2.2.2.2.1 u_13.2.2.2.2.2 d_num ++ (landW Z cK f kv_4 mv ++ R))) := hD
          have hpm : List.Perm (tpW U cB p_len p_bytes ++ (rdW Q U cI u_13.2.1 u_13.2.2.1 u_13.2.2.2.1 u_13.2.2.2.2.1 u_13.2.2.2.2.2 d_num ++ (landW Z cK f kv_4 mv ++ R))) (landW Z cK f kv_4 mv ++ (tpW U cB p_len p_bytes ++ (rdW Q U cI u_13.2.1 u_13.2.2.1 u_13.2.2.2.1 u_13.2.2.2.2.1 u_13.2.2.2.2.2 d_num ++ R))) := ((gp_swap.trans gp_swap).trans ((List.Perm.append_left _ gp_swap).trans gp_swap))
          have hP := gp_P hpm hP
          have hD := gp_D hpm hD
          have hpl_u_13 := sX4_takeNumber_ok (by assumption) (by assumption) eu_13
          refine lv_if_ne (tgt := 91) hx hb dX4_readWay_86 (by decide) (fun c_14 => ?_) (fun c_14 => ?_)
          · refine lv_aload_n hx hb dX4_readWay_91 rfl (lv_at hl 1 rfl) ?_
            refine lv_aload_n hx hb dX4_readWay_92 rfl (lv_at hl 0 rfl) ?_
            refine va_get (D := D) (ci := 4) (v := .int u_13.2.2.2.1) (C := RX4) (T := TX4) (N := 7) hx hb hts iX4 hown hK hP 10 rfl rfl 4 (by decide) k22 (fun _ h9 => h9) rfl dX4_readWay_93 ?_
            refine va_put (D := D) (ci := 1) (v := .int u_13.2.2.2.1) (ty := .int) (C := RX1) (T := TX1) (N := 9) hx hb hts iX1 tyX1 tyX1_ok nmX1 hown hK hP hD hS j (kk_get hj) rfl 1 (by decide) k144 (fun _ h9 => h9) rfl (by decide +kernel) rfl rfl (Nat.le_of_ble_eq_true rfl) dX4_readWay_96 (fun H locs hP hD hS => ?_)
            have hP : va_P D vwCl ((landW Z cK f kv_4 mv ++ (tpW U cB p_len p_bytes ++ (rdW Q U cI u_13.2.1 u_13.2.2.1 u_13.2.2.2.1 u_13.2.2.2.2.1 u_13.2.2.2.2.2 d_num ++ R))).set j (Z (3 + j), .inr (1, kf (upd (kv_4 j) 1 u_13.2.2.2.1)))) H := hP
            rw [kk_set hj] at hP
            have hD : va_D A ((landW Z cK f kv_4 mv ++ (tpW U cB p_len p_bytes ++ (rdW Q U cI u_13.2.1 u_13.2.2.1 u_13.2.2.2.1 u_13.2.2.2.2.1 u_13.2.2.2.2.2 d_num ++ R))).set j (Z (3 + j), .inr (1, kf (upd (kv_4 j) 1 u_13.2.2.2.1)))) := hD
            rw [kk_set hj] at hD
            obtain ⟨kv_15, ekv_15⟩ : ∃ z : Nat → Nat → Int32, z = va_up kv_4 j (upd (kv_4 j) 1 u_13.2.2.2.1) := ⟨_, rfl⟩
            rw [← ekv_15] at hP hD
            have hP : va_P D vwCl (landW Z cK f kv_15 mv ++ (tpW U cB p_len p_bytes ++ (rdW Q U cI u_13.2.1 u_13.2.2.1 u_13.2.2.2.1 u_13.2.2.2.2.1 u_13.2.2.2.2.2 d_num ++ R))) H := hP
            have hD : va_D A (landW Z cK f kv_15 mv ++ (tpW U cB p_len p_bytes ++ (rdW Q U cI u_13.2.1 u_13.2.2.1 u_13.2.2.2.1 u_13.2.2.2.2.1 u_13.2.2.2.2.2 d_num ++ R))) := hD
            refine lv_iconst (v := 1) hx hb dX4_readWay_99 (by decide) ?_
            rw [hQm]
            exact mx_zret (u0 := sX4_readWay j kv p_len p_bytes d_place d_fault) (rv := (fun u => some (.int u.1))) (w1 := (fun u => landW Z cK f u.2.1 mv ++ (tpW U cB p_len p_bytes ++ (rdW Q U cI u.2.2.1 u.2.2.2.1 u.2.2.2.2.1 u.2.2.2.2.2.1 u.2.2.2.2.2.2 d_num ++ R)))) (u := (1, kv_15, u_13.2.1, u_13.2.2.1, u_13.2.2.2.1, u_13.2.2.2.2.1, u_13.2.2.2.2.2)) hx hb hr hlocks hK hS (lt_eq eu_1 (lt_eq eu_2 (lt_eq ekv_3 (lt_eq ekv_4 ((if_neg c_5).trans ((if_neg c_7).trans ((if_neg c_8).trans ((if_pos c_12).trans (lt_eq eu_13 ((if_neg c_14).trans (lt_eq ekv_15 rfl))))))))))) hP hD rfl rfl dX4_readWay_100
          · refine lv_iconst (v := 0) hx hb dX4_readWay_89 (by decide) ?_
            rw [hQm]
            exact mx_zret (u0 := sX4_readWay j kv p_len p_bytes d_place d_fault) (rv := (fun u => some (.int u.1))) (w1 := (fun u => landW Z cK f u.2.1 mv ++ (tpW U cB p_len p_bytes ++ (rdW Q U cI u.2.2.1 u.2.2.2.1 u.2.2.2.2.1 u.2.2.2.2.2.1 u.2.2.2.2.2.2 d_num ++ R)))) (u := (0, kv_4, u_13.2.1, u_13.2.2.1, u_13.2.2.2.1, u_13.2.2.2.2.1, u_13.2.2.2.2.2)) hx hb hr hlocks hK hS (lt_eq eu_1 (lt_eq eu_2 (lt_eq ekv_3 (lt_eq ekv_4 ((if_neg c_5).trans ((if_neg c_7).trans ((if_neg c_8).trans ((if_pos c_12).trans (lt_eq eu_13 ((if_pos c_14).trans rfl)))))))))) hP hD rfl rfl dX4_readWay_90
        · refine lv_tableOut (tgt := 101) hx hb dX4_readWay_21 (by have := lv_neT c_5 (show (0 : Int32).toInt = 0 from by decide); have := lv_neT c_7 (show (1 : Int32).toInt = 1 from by decide); have := lv_neT c_8 (show (2 : Int32).toInt = 2 from by decide); have := lv_neT c_12 (show (3 : Int32).toInt = 3 from by decide); omega) (by decide) ?_
          refine lv_iconst (v := 1) hx hb dX4_readWay_101 (by decide) ?_
          rw [hQm]
          exact mx_zret (u0 := sX4_readWay j kv p_len p_bytes d_place d_fault) (rv := (fun u => some (.int u.1))) (w1 := (fun u => landW Z cK f u.2.1 mv ++ (tpW U cB p_len p_bytes ++ (rdW Q U cI u.2.2.1 u.2.2.2.1 u.2.2.2.2.1 u.2.2.2.2.2.1 u.2.2.2.2.2.2 d_num ++ R)))) (u := (1, kv_4, u_1.1, u_1.2.1, u_1.2.2.1, u_1.2.2.2, d_fault)) hx hb hr hlocks hK hS (lt_eq eu_1 (lt_eq eu_2 (lt_eq ekv_3 (lt_eq ekv_4 ((if_neg c_5).trans ((if_neg c_7).trans ((if_neg c_8).trans ((if_neg c_12).trans rfl)))))))) hP hD rfl rfl dX4_readWay_102
theorem sX4_readWay_ok {j : Nat} {kv : Nat → Nat → Int32} {p_bytes : Nat → Int32} {p_len x d_fault : Int32} {u : Int32 × (Nat → Nat → Int32) × (Int32) × (Int32) × (Int32) × (Int32) × (Int32)} (h : pl_ok x) (hl : p_len.toInt ≤ 400) (e : u = sX4_readWay j kv p_len p_bytes x d_fault) : pl_ok u.2.2.1 := by
  rw [e]
  unfold sX4_readWay
  show (fun r : Int32 × (Nat → Nat → Int32) × (Int32) × (Int32) × (Int32) × (Int32) × (Int32) => pl_ok r.2.2.1) _
  repeat' first | with_reducible refine if_P (fun r : Int32 × (Nat → Nat → Int32) × (Int32) × (Int32) × (Int32) × (Int32) × (Int32) => pl_ok r.2.2.1) (fun _ => ?_) (fun _ => ?_) | with_reducible refine lt_P (fun r : (Int32) × (Int32) × (Int32) × (Int32) => pl_ok r.1) (fun r : Int32 × (Nat → Nat → Int32) × (Int32) × (Int32) × (Int32) × (Int32) × (Int32) => pl_ok r.2.2.1) (sX4_scan_ok (by assumption) (by assumption) rfl) (fun _ _ => ?_) | with_reducible refine lt_P (fun r : Int32 × (Int32) × (Int32) × (Int32) × (Int32) × (Int32) => pl_ok r.2.1) (fun r : Int32 × (Nat → Nat → Int32) × (Int32) × (Int32) × (Int32) × (Int32) × (Int32) => pl_ok r.2.2.1) (sX4_takeNumber_ok (by assumption) (by assumption) rfl) (fun _ _ => ?_) | with_reducible refine lt_P (fun _ => True) (fun r : Int32 × (Nat → Nat → Int32) × (Int32) × (Int32) × (Int32) × (Int32) × (Int32) => pl_ok r.2.2.1) trivial (fun _ _ => ?_) | assumption
def sX4_readKind (f : Nat → Int32) (kv : Nat → Nat → Int32) (p_len : Int32) (p_bytes : Nat → Int32) (d_place : Int32) (d_token : Int32) (d_value : Int32) (d_start : Int32) (d_fault : Int32) (d_num : Nat → Int32) : Int32 × (Nat → Int32) × (Nat → Nat → Int32) × (Int32) × (Int32) × (Int32) × (Int32) × (Int32) × (Nat → Int32) := lt (sX4_nameIs 2 p_len p_bytes d_place d_token d_start) (fun u_1 : Int32 => if u_1 = 0 then (lt (sX4_failed 1) (fun u_20 : Int32 × (Int32) => (u_20.1, f, kv, d_place, d_token, d_value, d_start, u_20.2, d_num))) else (lt (sX2_nextKind f kv) (fun u_3 : Option Nat × (Nat → Int32) × (Nat → Nat → Int32) => if u_3.1 = none then (lt (sX4_failed 3) (fun u_5 : Int32 × (Int32) => (u_5.1, u_3.2.1, u_3.2.2, d_place, d_token, d_value, d_start, u_5.2, d_num))) else (lt (sX4_readWay (u_3.1.getD 0) u_3.2.2 p_len p_bytes d_place d_fault) (fun u_6 : Int32 × (Nat → Nat → Int32) × (Int32) × (Int32) × (Int32) × (Int32) × (Int32) => if u_6.1 = 0 then ((0, u_3.2.1, u_6.2.1, u_6.2.2.1, u_6.2.2.2.1, u_6.2.2.2.2.1, u_6.2.2.2.2.2.1, u_6.2.2.2.2.2.2, d_num)) else (lt (sX4_takeNumbers 7 8 p_len p_bytes u_6.2.2.1 u_6.2.2.2.1 u_6.2.2.2.2.1 u_6.2.2.2.2.2.1 u_6.2.2.2.2.2.2 d_num) (fun u_8 : Int32 × (Int32) × (Int32) × (Int32) × (Int32) × (Int32) × (Nat → Int32) => if u_8.1 = 0 then ((0, u_3.2.1, u_6.2.1, u_8.2.1, u_8.2.2.1, u_8.2.2.2.1, u_8.2.2.2.2.1, u_8.2.2.2.2.2.1, u_8.2.2.2.2.2.2)) else (lt (va_up u_6.2.1 (u_3.1.getD 0) (upd (u_6.2.1 (u_3.1.getD 0)) 2 (u_8.2.2.2.2.2.2 0))) (fun kv_11 : Nat → Nat → Int32 => lt (va_up kv_11 (u_3.1.getD 0) (upd (kv_11 (u_3.1.getD 0)) 3 (u_8.2.2.2.2.2.2 1))) (fun kv_13 : Nat → Nat → Int32 => lt (va_up kv_13 (u_3.1.getD 0) (upd (kv_13 (u_3.1.getD 0)) 4 (u_8.2.2.2.2.2.2 2))) (fun kv_15 : Nat → Nat → Int32 => lt (va_up kv_15 (u_3.1.getD 0) (upd (kv_15 (u_3.1.getD 0)) 5 (u_8.2.2.2.2.2.2 3))) (fun kv_17 : Nat → Nat → Int32 => lt (va_up kv_17 (u_3.1.getD 0) (upd (kv_17 (u_3.1.getD 0)) 6 (u_8.2.2.2.2.2.2 4))) (fun kv_19 : Nat → Nat → Int32 => (1, u_3.2.1, kv_19, u_8.2.1, u_8.2.2.1, u_8.2.2.2.1, u_8.2.2.2.2.1, u_8.2.2.2.2.2.1, u_8.2.2.2.2.2.2))))))))))))))
set_option maxHeartbeats 4000000 in
set_option maxRecDepth 100000 in
theorem mtX4_readKind (l : Launch) (D : va_G) (cI cB cK cS : ClassId) (t ks kb : Nat → Nat) (Z U Q : Nat → Nat) (R : va_W) (f : Nat → Int32) (kv : Nat → Nat → Int32) (mv : Nat → Int32) (p_len : Int32) (p_bytes : Nat → Int32) (d_place : Int32) (d_token : Int32) (d_value : Int32) (d_start : Int32) (d_fault : Int32) (d_num : Nat → Int32) (hpl : pl_ok d_place) (hl1 : p_len.toInt ≤ 400) (hk0 : 0 ≤ (f 2).toInt) : MX l yX4_readKind wsX4_readKind (rmX 8) D (tyX cI cB cK cS) (pFs t ks kb) (landW Z cK f kv mv ++ (tpW U cB p_len p_bytes ++ (rdW Q U cI d_place d_token d_value d_start d_fault d_num ++ R))) [.ref (Q 0), .ref (Z 0)] (sX4_readKind f kv p_len p_bytes d_place d_token d_value d_start d_fault d_num) (fun u => some (.int u.1)) (fun u => landW Z cK u.2.1 u.2.2.1 mv ++ (tpW U cB p_len p_bytes ++ (rdW Q U cI u.2.2.2.1 u.2.2.2.2.1 u.2.2.2.2.2.1 u.2.2.2.2.2.2.1 u.2.2.2.2.2.2.2.1 u.2.2.2.2.2.2.2.2 ++ R))) := by
  refine mx_intro (cc := cX4_readKind) (maxL := 3) (ret := (some .boolean)) (by decide) rfl (Nat.le_of_ble_eq_true rfl) ?_
  intro p e s m below meth c A ls H locs Qm hQm hx hb hr hml hts hown hlocks hA hS hP hK hD hF hl
  have hown : s.vm.findClass RX4 = some m.cls := hown
  have hl : lv_has ls 3 [(0, .ref (Q 0)), (1, .ref (Z 0))] := hl
  have k114 := hts (.fieldLink RX4 114 "PigRounds$Reader" "LEAST_OF_KIND" "[I") (by decide +kernel)
  have k117 := hts (.fieldLink RX4 117 "PigRounds$Reader" "MOST_OF_KIND" "[I") (by decide +kernel)
  have k9 := hts (.fieldLink RX4 9 "PigRounds$Reader" "numbers" "[I") (by decide +kernel)
  have k120 := hts (.fieldLink RX4 120 "PigRounds$Kind" "many" "I") (by decide +kernel)
  have k125 := hts (.fieldLink RX4 125 "PigRounds$Kind" "base" "I") (by decide +kernel)
  have k128 := hts (.fieldLink RX4 128 "PigRounds$Kind" "slope" "I") (by decide +kernel)
  have k131 := hts (.fieldLink RX4 131 "PigRounds$Kind" "rent" "I") (by decide +kernel)
  have k134 := hts (.fieldLink RX4 134 "PigRounds$Kind" "coin" "I") (by decide +kernel)
  have iX1 : ∀ w ∈ u_ws RX1 TX1 9, w ∈ wsX4_readKind := by decide +kernel
  have iX4 : ∀ w ∈ u_ws RX4 TX4 7, w ∈ wsX4_readKind := by decide +kernel
  refine lv_aload_n hx hb dX4_readKind_0 rfl (lv_at hl 0 rfl) ?_
  refine va_ldcS hx hb hown (hF.2.2.2.2 2 (by decide)) dX4_readKind_1 ?_
  have hpm : List.Perm (landW Z cK f kv mv ++ (tpW U cB p_len p_bytes ++ (rdW Q U cI d_place d_token d_value d_start d_fault d_num ++ R))) (tpW U cB p_len p_bytes ++ (rdW Q U cI d_place d_token d_value d_start d_fault d_num ++ (landW Z cK f kv mv ++ R))) := (((List.Perm.append_left _ gp_swap).trans gp_swap).trans ((List.Perm.append_left _ gp_swap).trans gp_swap))
  have hP := gp_P hpm hP
  have hD := gp_D hpm hD
  refine mx_callV (As := [.ref (ks 2)]) (rest := []) ⟨hx, hb, hml, hown, hts⟩ (mtX4_nameIs l D cI cB cK cS t ks kb U Q (landW Z cK f kv mv ++ R) 2 p_len p_bytes d_place d_token d_value d_start d_fault d_num (by decide)) (cwV 1 hts gX4_readKind_X4_nameIs rfl rfl rfl (by decide +kernel) ⟨Nat.le_of_ble_eq_true rfl, Nat.le_of_ble_eq_true rfl⟩) pFs_ok hF hK hP hD hS hA 2 rfl rfl rfl rfl hl.1 rfl (Nat.le_of_ble_eq_true rfl) dX4_readKind_3 ⟨Nat.le_refl _, Nat.le_refl _⟩ (fun u_1 H locs eu_1 hP hD hS => ?_)
  refine W.eq (g2 := F0 m 6 ls [.int u_1]) rfl ?_
  have hP : va_P D vwCl (tpW U cB p_len p_bytes ++ (rdW Q U cI d_place d_token d_value d_start d_fault d_num ++ (landW Z cK f kv mv ++ R))) H := hP
  have hD : va_D A (tpW U cB p_len p_bytes ++ (rdW Q U cI d_place d_token d_value d_start d_fault d_num ++ (landW Z cK f kv mv ++ R))) := hD
  have hpm : List.Perm (tpW U cB p_len p_bytes ++ (rdW Q U cI d_place d_token d_value d_start d_fault d_num ++ (landW Z cK f kv mv ++ R))) (landW Z cK f kv mv ++ (tpW U cB p_len p_bytes ++ (rdW Q U cI d_place d_token d_value d_start d_fault d_num ++ R))) := ((gp_swap.trans gp_swap).trans ((List.Perm.append_left _ gp_swap).trans gp_swap))
  have hP := gp_P hpm hP
  have hD := gp_D hpm hD
  refine lv_if_ne (tgt := 15) hx hb dX4_readKind_6 (by decide) (fun c_2 => ?_) (fun c_2 => ?_)
  · refine lv_aload_n hx hb dX4_readKind_15 rfl (lv_at hl 1 rfl) ?_
    refine mx_callV (As := []) (rest := []) ⟨hx, hb, hml, hown, hts⟩ (mtX2_nextKind l D cI cB cK cS Z (tpW U cB p_len p_bytes ++ (rdW Q U cI d_place d_token d_value d_start d_fault d_num ++ R)) f kv mv (by first | assumption | omega)) (cwV 0 hts gX4_readKind_X2_nextKind rfl rfl rfl (by decide +kernel) ⟨Nat.le_of_ble_eq_true rfl, Nat.le_of_ble_eq_true rfl⟩) pF0_ok trivial hK hP hD hS hA 5 rfl rfl rfl rfl hl.1 rfl (Nat.le_of_ble_eq_true rfl) dX4_readKind_16 ⟨Nat.le_refl _, Nat.le_refl _⟩ (fun u_3 H locs eu_3 hP hD hS => ?_)
    have hP : va_P D vwCl (landW Z cK u_3.2.1 u_3.2.2 mv ++ (tpW U cB p_len p_bytes ++ (rdW Q U cI d_place d_token d_value d_start d_fault d_num ++ R))) H := hP
    have hD : va_D A (landW Z cK u_3.2.1 u_3.2.2 mv ++ (tpW U cB p_len p_bytes ++ (rdW Q U cI d_place d_token d_value d_start d_fault d_num ++ R))) := hD
    rcases Classical.em (u_3.1 = none) with c_4 | c_4
    · refine W.eq (g2 := F0 m 19 ls [.null]) (by rw [c_4]; rfl) ?_
      refine lv_astore_nN (lv' := [(2, .null), (0, .ref (Q 0)), (1, .ref (Z 0))]) hx hb dX4_readKind_19 rfl hl (by decide) rfl (fun ls hl => ?_)
      refine lv_aload_nN hx hb dX4_readKind_20 rfl (lv_at hl 0 rfl) ?_
      refine lv_ifnonnullN hx hb dX4_readKind_21 ?_
      refine lv_aload_n hx hb dX4_readKind_24 rfl (lv_at hl 1 rfl) ?_
      refine lv_iconst (v := 3) hx hb dX4_readKind_25 (by decide) ?_
      have hpm : List.Perm (landW Z cK u_3.2.1 u_3.2.2 mv ++ (tpW U cB p_len p_bytes ++ (rdW Q U cI d_place d_token d_value d_start d_fault d_num ++ R))) (tpW U cB p_len p_bytes ++ (rdW Q U cI d_place d_token d_value d_start d_fault d_num ++ (landW Z cK u_3.2.1 u_3.2.2 mv ++ R))) := (((List.Perm.append_left _ gp_swap).trans gp_swap).trans ((List.Perm.append_left _ gp_swap).trans gp_swap))
      have hP := gp_P hpm hP
      have hD := gp_D hpm hD
      refine mx_callV (As := [.int 3]) (rest := []) ⟨hx, hb, hml, hown, hts⟩ (mtX4_failed l D cI cB cK cS U Q (landW Z cK u_3.2.1 u_3.2.2 mv ++ R) p_len p_bytes d_place d_token d_value d_start d_fault d_num 3) (cwV 1 hts gX4_readKind_X4_failed rfl rfl rfl (by decide +kernel) ⟨Nat.le_of_ble_eq_true rfl, Nat.le_of_ble_eq_true rfl⟩) pF0_ok trivial hK hP hD hS hA 2 rfl rfl rfl rfl hl.1 rfl (Nat.le_of_ble_eq_true rfl) dX4_readKind_26 ⟨Nat.le_refl _, Nat.le_refl _⟩ (fun u_5 H locs eu_5 hP hD hS => ?_)
      refine W.eq (g2 := F0 m 29 ls [.int u_5.1]) rfl ?_
      have hP : va_P D vwCl (tpW U cB p_len p_bytes ++ (rdW Q U cI d_place d_token d_value d_start u_5.2 d_num ++ (landW Z cK u_3.2.1 u_3.2.2 mv ++ R))) H := hP
      have hD : va_D A (tpW U cB p_len p_bytes ++ (rdW Q U cI d_place d_token d_value d_start u_5.2 d_num ++ (landW Z cK u_3.2.1 u_3.2.2 mv ++ R))) := hD
      have hpm : List.Perm (tpW U cB p_len p_bytes ++ (rdW Q U cI d_place d_token d_value d_start u_5.2 d_num ++ (landW Z cK u_3.2.1 u_3.2.2 mv ++ R))) (landW Z cK u_3.2.1 u_3.2.2 mv ++ (tpW U cB p_len p_bytes ++ (rdW Q U cI d_place d_token d_value d_start u_5.2 d_num ++ R))) := ((gp_swap.trans gp_swap).trans ((List.Perm.append_left _ gp_swap).trans gp_swap))
      have hP := gp_P hpm hP
      have hD := gp_D hpm hD
      rw [hQm]
      exact mx_zret (u0 := sX4_readKind f kv p_len p_bytes d_place d_token d_value d_start d_fault d_num) (rv := (fun u => some (.int u.1))) (w1 := (fun u => landW Z cK u.2.1 u.2.2.1 mv ++ (tpW U cB p_len p_bytes ++ (rdW Q U cI u.2.2.2.1 u.2.2.2.2.1 u.2.2.2.2.2.1 u.2.2.2.2.2.2.1 u.2.2.2.2.2.2.2.1 u.2.2.2.2.2.2.2.2 ++ R)))) (u := (u_5.1, u_3.2.1, u_3.2.2, d_place, d_token, d_value, d_start, u_5.2, d_num)) hx hb hr hlocks hK hS (lt_eq eu_1 ((if_neg c_2).trans (lt_eq eu_3 ((if_pos c_4).trans (lt_eq eu_5 rfl))))) hP hD rfl (z_narrow (sX4_failed_z eu_5)) dX4_readKind_29
    · have hj_4 : u_3.1.getD 0 < 5 := sX2_nextKind_lt (by assumption) eu_3 c_4
      refine W.eq (g2 := F0 m 19 ls [.ref (Z (3 + (u_3.1.getD 0)))]) (by rw [show u_3.1 = some (u_3.1.getD 0) from o_some c_4]; rfl) ?_
      refine lv_astore_n (lv' := [(2, .ref (Z (3 + (u_3.1.getD 0)))), (0, .ref (Q 0)), (1, .ref (Z 0))]) hx hb dX4_readKind_19 rfl hl (by decide) rfl (fun ls hl => ?_)
      refine lv_aload_n hx hb dX4_readKind_20 rfl (lv_at hl 0 rfl) ?_
      refine lv_ifnonnull (tgt := 30) hx hb dX4_readKind_21 (by decide) ?_
      refine lv_aload_n hx hb dX4_readKind_30 rfl (lv_at hl 1 rfl) ?_
      refine lv_aload_n hx hb dX4_readKind_31 rfl (lv_at hl 0 rfl) ?_
      refine mx_callV (As := [.ref (Z (3 + (u_3.1.getD 0)))]) (rest := []) ⟨hx, hb, hml, hown, hts⟩ (mtX4_readWay l D cI cB cK cS t ks kb Z U Q R (u_3.1.getD 0) u_3.2.1 u_3.2.2 mv p_len p_bytes d_place d_token d_value d_start d_fault d_num (by assumption) (by assumption) (by assumption)) (cwV 1 hts gX4_readKind_X4_readWay rfl rfl rfl (by decide +kernel) ⟨Nat.le_of_ble_eq_true rfl, Nat.le_of_ble_eq_true rfl⟩) pFs_ok hF hK hP hD hS hA 10 rfl rfl rfl rfl hl.1 rfl (Nat.le_of_ble_eq_true rfl) dX4_readKind_32 ⟨Nat.le_refl _, Nat.le_refl _⟩ (fun u_6 H locs eu_6 hP hD hS => ?_)
      refine W.eq (g2 := F0 m 35 ls [.int u_6.1]) rfl ?_
      have hP : va_P D vwCl (landW Z cK u_3.2.1 u_6.2.1 mv ++ (tpW U cB p_len p_bytes ++ (rdW Q U cI u_6.2.2.1 u_6.2.2.2.1 u_6.2.2.2.2.1 u_6.2.2.2.2.2.1 u_6.2.2.2.2.2.2 d_num ++ R))) H := hP
      have hD : va_D A (landW Z cK u_3.2.1 u_6.2.1 mv ++ (tpW U cB p_len p_bytes ++ (rdW Q U cI u_6.2.2.1 u_6.2.2.2.1 u_6.2.2.2.2.1 u_6.2.2.2.2.2.1 u_6.2.2.2.2.2.2 d_num ++ R))) := hD
      have hpl_u_6 := sX4_readWay_ok (by assumption) (by assumption) eu_6
      refine lv_if_eq (tgt := 51) hx hb dX4_readKind_35 (by decide) (fun c_7 => ?_) (fun c_7 => ?_)
      · refine lv_iconst (v := 0) hx hb dX4_readKind_51 (by decide) ?_
        rw [hQm]
        exact mx_zret (u0 := sX4_readKind f kv p_len p_bytes d_place d_token d_value d_start d_fault d_num) (rv := (fun u => some (.int u.1))) (w1 := (fun u => landW Z cK u.2.1 u.2.2.1 mv ++ (tpW U cB p_len p_bytes ++ (rdW Q U cI u.2.2.2.1 u.2.2.2.2.1 u.2.2.2.2.2.1 u.2.2.2.2.2.2.1 u.2.2.2.2.2.2.2.1 u.2.2.2.2.2.2.2.2 ++ R)))) (u := (0, u_3.2.1, u_6.2.1, u_6.2.2.1, u_6.2.2.2.1, u_6.2.2.2.2.1, u_6.2.2.2.2.2.1, u_6.2.2.2.2.2.2, d_num)) hx hb hr hlocks hK hS (lt_eq eu_1 ((if_neg c_2).trans (lt_eq eu_3 ((if_neg c_4).trans (lt_eq eu_6 ((if_pos c_7).trans rfl)))))) hP hD rfl rfl dX4_readKind_52
      · refine lv_aload_n hx hb dX4_readKind_38 rfl (lv_at hl 1 rfl) ?_
        refine va_gets (v := .ref (t 7)) hx hb (hF.1 7 (by decide)).1 hS hown k114 (fun _ h9 => h9) dX4_readKind_39 ?_
        refine va_gets (v := .ref (t 8)) hx hb (hF.1 8 (by decide)).1 hS hown k117 (fun _ h9 => h9) dX4_readKind_42 ?_
        have hpm : List.Perm (landW Z cK u_3.2.1 u_6.2.1 mv ++ (tpW U cB p_len p_bytes ++ (rdW Q U cI u_6.2.2.1 u_6.2.2.2.1 u_6.2.2.2.2.1 u_6.2.2.2.2.2.1 u_6.2.2.2.2.2.2 d_num ++ R))) (tpW U cB p_len p_bytes ++ (rdW Q U cI u_6.2.2.1 u_6.2.2.2.1 u_6.2.2.2.2.1 u_6.2.2.2.2.2.1 u_6.2.2.2.2.2.2 d_num ++ (landW Z cK u_3.2.1 u_6.2.1 mv ++ R))) := (((List.Perm.append_left _ gp_swap).trans gp_swap).trans ((List.Perm.append_left _ gp_swap).trans gp_swap))
        have hP := gp_P hpm hP
        have hD := gp_D hpm hD
        refine mx_callV (As := [.ref (t 7), .ref (t 8)]) (rest := []) ⟨hx, hb, hml, hown, hts⟩ (mtX4_takeNumbers l D cI cB cK cS t ks kb U Q (landW Z cK u_3.2.1 u_6.2.1 mv ++ R) 7 8 p_len p_bytes u_6.2.2.1 u_6.2.2.2.1 u_6.2.2.2.2.1 u_6.2.2.2.2.2.1 u_6.2.2.2.2.2.2 d_num (by assumption) (by assumption) (by decide) (by decide)) (cwV 2 hts gX4_readKind_X4_takeNumbers rfl rfl rfl (by decide +kernel) ⟨Nat.le_of_ble_eq_true rfl, Nat.le_of_ble_eq_true rfl⟩) pFs_ok hF hK hP hD hS hA 2 rfl rfl rfl rfl hl.1 rfl (Nat.le_of_ble_eq_true rfl) dX4_readKind_45 ⟨Nat.le_refl _, Nat.le_refl _⟩ (fun u_8 H locs eu_8 hP hD hS => ?_)
        refine W.eq (g2 := F0 m 48 ls [.int u_8.1]) rfl ?_
        have hP : va_P D vwCl (tpW U cB p_len p_bytes ++ (rdW Q U cI u_8.2.1 u_8.2.2.1 u_8.2.2.2.1 u_8.2.2.2.2.1 u_8.2.2.2.2.2.1 u_8.2.2.2.2.2.2 ++ (landW Z cK u_3.2.1 u_6.2.1 mv ++ R))) H := hP
        have hD : va_D A (tpW U cB p_len p_bytes ++ (rdW Q U cI u_8.2.1 u_8.2.2.1 u_8.2.2.2.1 u_8.2.2.2.2.1 u_8.2.2.2.2.2.1 u_8.2.2.2.2.2.2 ++ (landW Z cK u_3.2.1 u_6.2.1 mv ++ R))) := hD
        have hpm : List.Perm (tpW U cB p_len p_bytes ++ (rdW Q U cI u_8.2.1 u_8.2.2.1 u_8.2.2.2.1 u_8.2.2.2.2.1 u_8.2.2.2.2.2.1 u_8.2.2.2.2.2.2 ++ (landW Z cK u_3.2.1 u_6.2.1 mv ++ R))) (landW Z cK u_3.2.1 u_6.2.1 mv ++ (tpW U cB p_len p_bytes ++ (rdW Q U cI u_8.2.1 u_8.2.2.1 u_8.2.2.2.1 u_8.2.2.2.2.1 u_8.2.2.2.2.2.1 u_8.2.2.2.2.2.2 ++ R))) := ((gp_swap.trans gp_swap).trans ((List.Perm.append_left _ gp_swap).trans gp_swap))
        have hP := gp_P hpm hP
        have hD := gp_D hpm hD
        have hpl_u_8 := sX4_takeNumbers_ok (by assumption) (by assumption) eu_8
        refine lv_if_ne (tgt := 53) hx hb dX4_readKind_48 (by decide) (fun c_9 => ?_) (fun c_9 => ?_)
        · refine lv_aload_n hx hb dX4_readKind_53 rfl (lv_at hl 0 rfl) ?_
          refine lv_aload_n hx hb dX4_readKind_54 rfl (lv_at hl 1 rfl) ?_
          refine va_get (D := D) (ci := 4) (v := .ref (Q 1)) (C := RX4) (T := TX4) (N := 7) hx hb hts iX4 hown hK hP 10 rfl rfl 1 (by decide) k9 (fun _ h9 => h9) rfl dX4_readKind_55 ?_
          refine lv_iconst (v := 0) hx hb dX4_readKind_58 (by decide) ?_
          have q_10 : vp_in (0 : Int32) 5 := vp_in_iff.mpr (by decide)
          refine va_iald hx hb hK hP 11 0 rfl rfl q_10 dX4_readKind_59 ?_
          refine W.eq (g2 := F0 m 60 ls [.int (u_8.2.2.2.2.2.2 0), .ref (Z (3 + (u_3.1.getD 0)))]) rfl ?_
          refine va_put (D := D) (ci := 1) (v := .int (u_8.2.2.2.2.2.2 0)) (ty := .int) (C := RX1) (T := TX1) (N := 9) hx hb hts iX1 tyX1 tyX1_ok nmX1 hown hK hP hD hS (u_3.1.getD 0) (kk_get hj_4) rfl 2 (by decide) k120 (fun _ h9 => h9) rfl (by decide +kernel) rfl rfl (Nat.le_of_ble_eq_true rfl) dX4_readKind_60 (fun H locs hP hD hS => ?_)
          have hP : va_P D vwCl ((landW Z cK u_3.2.1 u_6.2.1 mv ++ (tpW U cB p_len p_bytes ++ (rdW Q U cI u_8.2.1 u_8.2.2.1 u_8.2.2.2.1 u_8.2.2.2.2.1 u_8.2.2.2.2.2.1 u_8.2.2.2.2.2.2 ++ R))).set (u_3.1.getD 0) (Z (3 + (u_3.1.getD 0)), .inr (1, kf (upd (u_6.2.1 (u_3.1.getD 0)) 2 (u_8.2.2.2.2.2.2 0))))) H := hP
          rw [kk_set hj_4] at hP
          have hD : va_D A ((landW Z cK u_3.2.1 u_6.2.1 mv ++ (tpW U cB p_len p_bytes ++ (rdW Q U cI u_8.2.1 u_8.2.2.1 u_8.2.2.2.1 u_8.2.2.2.2.1 u_8.2.2.2.2.2.1 u_8.2.2.2.2.2.2 ++ R))).set (u_3.1.getD 0) (Z (3 + (u_3.1.getD 0)), .inr (1, kf (upd (u_6.2.1 (u_3.1.getD 0)) 2 (u_8.2.2.2.2.2.2 0))))) := hD
          rw [kk_set hj_4] at hD
          obtain ⟨kv_11, ekv_11⟩ : ∃ z : Nat → Nat → Int32, z = va_up u_6.2.1 (u_3.1.getD 0) (upd (u_6.2.1 (u_3.1.getD 0)) 2 (u_8.2.2.2.2.2.2 0)) := ⟨_, rfl⟩
          rw [← ekv_11] at hP hD
          have hP : va_P D vwCl (landW Z cK u_3.2.1 kv_11 mv ++ (tpW U cB p_len p_bytes ++ (rdW Q U cI u_8.2.1 u_8.2.2.1 u_8.2.2.2.1 u_8.2.2.2.2.1 u_8.2.2.2.2.2.1 u_8.2.2.2.2.2.2 ++ R))) H := hP
          have hD : va_D A (landW Z cK u_3.2.1 kv_11 mv ++ (tpW U cB p_len p_bytes ++ (rdW Q U cI u_8.2.1 u_8.2.2.1 u_8.2.2.2.1 u_8.2.2.2.2.1 u_8.2.2.2.2.2.1 u_8.2.2.2.2.2.2 ++ R))) := hD
          refine lv_aload_n hx hb dX4_readKind_63 rfl (lv_at hl 0 rfl) ?_
          refine lv_aload_n hx hb dX4_readKind_64 rfl (lv_at hl 1 rfl) ?_
          refine va_get (D := D) (ci := 4) (v := .ref (Q 1)) (C := RX4) (T := TX4) (N := 7) hx hb hts iX4 hown hK hP 10 rfl rfl 1 (by decide) k9 (fun _ h9 => h9) rfl dX4_readKind_65 ?_
          refine lv_iconst (v := 1) hx hb dX4_readKind_68 (by decide) ?_
          have q_12 : vp_in (1 : Int32) 5 := vp_in_iff.mpr (by decide)
          refine va_iald hx hb hK hP 11 0 rfl rfl q_12 dX4_readKind_69 ?_
          refine W.eq (g2 := F0 m 70 ls [.int (u_8.2.2.2.2.2.2 1), .ref (Z (3 + (u_3.1.getD 0)))]) rfl ?_
          refine va_put (D := D) (ci := 1) (v := .int (u_8.2.2.2.2.2.2 1)) (ty := .int) (C := RX1) (T := TX1) (N := 9) hx hb hts iX1 tyX1 tyX1_ok nmX1 hown hK hP hD hS (u_3.1.getD 0) (kk_get hj_4) rfl 3 (by decide) k125 (fun _ h9 => h9) rfl (by decide +kernel) rfl rfl (Nat.le_of_ble_eq_true rfl) dX4_readKind_70 (fun H locs hP hD hS => ?_)
          have hP : va_P D vwCl ((landW Z cK u_3.2.1 kv_11 mv ++ (tpW U cB p_len p_bytes ++ (rdW Q U cI u_8.2.1 u_8.2.2.1 u_8.2.2.2.1 u_8.2.2.2.2.1 u_8.2.2.2.2.2.1 u_8.2.2.2.2.2.2 ++ R))).set (u_3.1.getD 0) (Z (3 + (u_3.1.getD 0)), .inr (1, kf (upd (kv_11 (u_3.1.getD 0)) 3 (u_8.2.2.2.2.2.2 1))))) H := hP
          rw [kk_set hj_4] at hP
          have hD : va_D A ((landW Z cK u_3.2.1 kv_11 mv ++ (tpW U cB p_len p_bytes ++ (rdW Q U cI u_8.2.1 u_8.2.2.1 u_8.2.2.2.1 u_8.2.2.2.2.1 u_8.2.2.2.2.2.1 u_8.2.2.2.2.2.2 ++ R))).set (u_3.1.getD 0) (Z (3 + (u_3.1.getD 0)), .inr (1, kf (upd (kv_11 (u_3.1.getD 0)) 3 (u_8.2.2.2.2.2.2 1))))) := hD
          rw [kk_set hj_4] at hD
          obtain ⟨kv_13, ekv_13⟩ : ∃ z : Nat → Nat → Int32, z = va_up kv_11 (u_3.1.getD 0) (upd (kv_11 (u_3.1.getD 0)) 3 (u_8.2.2.2.2.2.2 1)) := ⟨_, rfl⟩
          rw [← ekv_13] at hP hD
          have hP : va_P D vwCl (landW Z cK u_3.2.1 kv_13 mv ++ (tpW U cB p_len p_bytes ++ (rdW Q U cI u_8.2.1 u_8.2.2.1 u_8.2.2.2.1 u_8.2.2.2.2.1 u_8.2.2.2.2.2.1 u_8.2.2.2.2.2.2 ++ R))) H := hP
          have hD : va_D A (landW Z cK u_3.2.1 kv_13 mv ++ (tpW U cB p_len p_bytes ++ (rdW Q U cI u_8.2.1 u_8.2.2.1 u_8.2.2.2.1 u_8.2.2.2.2.1 u_8.2.2.2.2.2.1 u_8.2.2.2.2.2.2 ++ R))) := hD
          refine lv_aload_n hx hb dX4_readKind_73 rfl (lv_at hl 0 rfl) ?_
          refine lv_aload_n hx hb dX4_readKind_74 rfl (lv_at hl 1 rfl) ?_
          refine va_get (D := D) (ci := 4) (v := .ref (Q 1)) (C := RX4) (T := TX4) (N := 7) hx hb hts iX4 hown hK hP 10 rfl rfl 1 (by decide) k9 (fun _ h9 => h9) rfl dX4_readKind_75 ?_
          refine lv_iconst (v := 2) hx hb dX4_readKind_78 (by decide) ?_
          have q_14 : vp_in (2 : Int32) 5 := vp_in_iff.mpr (by decide)
          refine va_iald hx hb hK hP 11 0 rfl rfl q_14 dX4_readKind_79 ?_
          refine W.eq (g2 := F0 m 80 ls [.int (u_8.2.2.2.2.2.2 2), .ref (Z (3 + (u_3.1.getD 0)))]) rfl ?_
          refine va_put (D := D) (ci := 1) (v := .int (u_8.2.2.2.2.2.2 2)) (ty := .int) (C := RX1) (T := TX1) (N := 9) hx hb hts iX1 tyX1 tyX1_ok nmX1 hown hK hP hD hS (u_3.1.getD 0) (kk_get hj_4) rfl 4 (by decide) k128 (fun _ h9 => h9) rfl (by decide +kernel) rfl rfl (Nat.le_of_ble_eq_true rfl) dX4_readKind_80 (fun H locs hP hD hS => ?_)
          have hP : va_P D vwCl ((landW Z cK u_3.2.1 kv_13 mv ++ (tpW U cB p_len p_bytes ++ (rdW Q U cI u_8.2.1 u_8.2.2.1 u_8.2.2.2.1 u_8.2.2.2.2.1 u_8.2.2.2.2.2.1 u_8.2.2.2.2.2.2 ++ R))).set (u_3.1.getD 0) (Z (3 + (u_3.1.getD 0)), .inr (1, kf (upd (kv_13 (u_3.1.getD 0)) 4 (u_8.2.2.2.2.2.2 2))))) H := hP
          rw [kk_set hj_4] at hP
          have hD : va_D A ((landW Z cK u_3.2.1 kv_13 mv ++ (tpW U cB p_len p_bytes ++ (rdW Q U cI u_8.2.1 u_8.2.2.1 u_8.2.2.2.1 u_8.2.2.2.2.1 u_8.2.2.2.2.2.1 u_8.2.2.2.2.2.2 ++ R))).set (u_3.1.getD 0) (Z (3 + (u_3.1.getD 0)), .inr (1, kf (upd (kv_13 (u_3.1.getD 0)) 4 (u_8.2.2.2.2.2.2 2))))) := hD
          rw [kk_set hj_4] at hD
          obtain ⟨kv_15, ekv_15⟩ : ∃ z : Nat → Nat → Int32, z = va_up kv_13 (u_3.1.getD 0) (upd (kv_13 (u_3.1.getD 0)) 4 (u_8.2.2.2.2.2.2 2)) := ⟨_, rfl⟩
          rw [← ekv_15] at hP hD
          have hP : va_P D vwCl (landW Z cK u_3.2.1 kv_15 mv ++ (tpW U cB p_len p_bytes ++ (rdW Q U cI u_8.2.1 u_8.2.2.1 u_8.2.2.2.1 u_8.2.2.2.2.1 u_8.2.2.2.2.2.1 u_8.2.2.2.2.2.2 ++ R))) H := hP
          have hD : va_D A (landW Z cK u_3.2.1 kv_15 mv ++ (tpW U cB p_len p_bytes ++ (rdW Q U cI u_8.2.1 u_8.2.2.1 u_8.2.2.2.1 u_8.2.2.2.2.1 u_8.2.2.2.2.2.1 u_8.2.2.2.2.2.2 ++ R))) := hD
          refine lv_aload_n hx hb dX4_readKind_83 rfl (lv_at hl 0 rfl) ?_
          refine lv_aload_n hx hb dX4_readKind_84 rfl (lv_at hl 1 rfl) ?_
          refine va_get (D := D) (ci := 4) (v := .ref (Q 1)) (C := RX4) (T := TX4) (N := 7) hx hb hts iX4 hown hK hP 10 rfl rfl 1 (by decide) k9 (fun _ h9 => h9) rfl dX4_readKind_85 ?_
          refine lv_iconst (v := 3) hx hb dX4_readKind_88 (by decide) ?_
          have q_16 : vp_in (3 : Int32) 5 := vp_in_iff.mpr (by decide)
          refine va_iald hx hb hK hP 11 0 rfl rfl q_16 dX4_readKind_89 ?_
          refine W.eq (g2 := F0 m 90 ls [.int (u_8.2.2.2.2.2.2 3), .ref (Z (3 + (u_3.1.getD 0)))]) rfl ?_
          refine va_put (D := D) (ci := 1) (v := .int (u_8.2.2.2.2.2.2 3)) (ty := .int) (C := RX1) (T := TX1) (N := 9) hx hb hts iX1 tyX1 tyX1_ok nmX1 hown hK hP hD hS (u_3.1.getD 0) (kk_get hj_4) rfl 5 (by decide) k131 (fun _ h9 => h9) rfl (by decide +kernel) rfl rfl (Nat.le_of_ble_eq_true rfl) dX4_readKind_90 (fun H locs hP hD hS => ?_)
          have hP : va_P D vwCl ((landW Z cK u_3.2.1 kv_15 mv ++ (tpW U cB p_len p_bytes ++ (rdW Q U cI u_8.2.1 u_8.2.2.1 u_8.2.2.2.1 u_8.2.2.2.2.1 u_8.2.2.2.2.2.1 u_8.2.2.2.2.2.2 ++ R))).set (u_3.1.getD 0) (Z (3 + (u_3.1.getD 0)), .inr (1, kf (upd (kv_15 (u_3.1.getD 0)) 5 (u_8.2.2.2.2.2.2 3))))) H := hP
          rw [kk_set hj_4] at hP
          have hD : va_D A ((landW Z cK u_3.2.1 kv_15 mv ++ (tpW U cB p_len p_bytes ++ (rdW Q U cI u_8.2.1 u_8.2.2.1 u_8.2.2.2.1 u_8.2.2.2.2.1 u_8.2.2.2.2.2.1 u_8.2.2.2.2.2.2 ++ R))).set (u_3.1.getD 0) (Z (3 + (u_3.1.getD 0)), .inr (1, kf (upd (kv_15 (u_3.1.getD 0)) 5 (u_8.2.2.2.2.2.2 3))))) := hD
          rw [kk_set hj_4] at hD
          obtain ⟨kv_17, ekv_17⟩ : ∃ z : Nat → Nat → Int32, z = va_up kv_15 (u_3.1.getD 0) (upd (kv_15 (u_3.1.getD 0)) 5 (u_8.2.2.2.2.2.2 3)) := ⟨_, rfl⟩
          rw [← ekv_17] at hP hD
          have hP : va_P D vwCl (landW Z cK u_3.2.1 kv_17 mv ++ (tpW U cB p_len p_bytes ++ (rdW Q U cI u_8.2.1 u_8.2.2.1 u_8.2.2.2.1 u_8.2.2.2.2.1 u_8.2.2.2.2.2.1 u_8.2.2.2.2.2.2 ++ R))) H := hP
          have hD : va_D A (landW Z cK u_3.2.1 kv_17 mv ++ (tpW U cB p_len p_bytes ++ (rdW Q U cI u_8.2.1 u_8.2.2.1 u_8.2.2.2.1 u_8.2.2.2.2.1 u_8.2.2.2.2.2.1 u_8.2.2.2.2.2.2 ++ R))) := hD
          refine lv_aload_n hx hb dX4_readKind_93 rfl (lv_at hl 0 rfl) ?_
          refine lv_aload_n hx hb dX4_readKind_94 rfl (lv_at hl 1 rfl) ?_
          refine va_get (D := D) (ci := 4) (v := .ref (Q 1)) (C := RX4) (T := TX4) (N := 7) hx hb hts iX4 hown hK hP 10 rfl rfl 1 (by decide) k9 (fun _ h9 => h9) rfl dX4_readKind_95 ?_
          refine lv_iconst (v := 4) hx hb dX4_readKind_98 (by decide) ?_
          have q_18 : vp_in (4 : Int32) 5 := vp_in_iff.mpr (by decide)
          refine va_iald hx hb hK hP 11 0 rfl rfl q_18 dX4_readKind_99 ?_
          refine W.eq (g2 := F0 m 100 ls [.int (u_8.2.2.2.2.2.2 4), .ref (Z (3 + (u_3.1.getD 0)))]) rfl ?_
          refine va_put (D := D) (ci := 1) (v := .int (u_8.2.2.2.2.2.2 4)) (ty := .int) (C := RX1) (T := TX1) (N := 9) hx hb hts iX1 tyX1 tyX1_ok nmX1 hown hK hP hD hS (u_3.1.getD 0) (kk_get hj_4) rfl 6 (by decide) k134 (fun _ h9 => h9) rfl (by decide +kernel) rfl rfl (Nat.le_of_ble_eq_true rfl) dX4_readKind_100 (fun H locs hP hD hS => ?_)
          have hP : va_P D vwCl ((landW Z cK u_3.2.1 kv_17 mv ++ (tpW U cB p_len p_bytes ++ (rdW Q U cI u_8.2.1 u_8.2.2.1 u_8.2.2.2.1 u_8.2.2.2.2.1 u_8.2.2.2.2.2.1 u_8.2.2.2.2.2.2 ++ R))).set (u_3.1.getD 0) (Z (3 + (u_3.1.getD 0)), .inr (1, kf (upd (kv_17 (u_3.1.getD 0)) 6 (u_8.2.2.2.2.2.2 4))))) H := hP
          rw [kk_set hj_4] at hP
          have hD : va_D A ((landW Z cK u_3.2.1 kv_17 mv ++ (tpW U cB p_len p_bytes ++ (rdW Q U cI u_8.2.1 u_8.2.2.1 u_8.2.2.2.1 u_8.2.2.2.2.1 u_8.2.2.2.2.2.1 u_8.2.2.2.2.2.2 ++ R))).set (u_3.1.getD 0) (Z (3 + (u_3.1.getD 0)), .inr (1, kf (upd (kv_17 (u_3.1.getD 0)) 6 (u_8.2.2.2.2.2.2 4))))) := hD
          rw [kk_set hj_4] at hD
          obtain ⟨kv_19, ekv_19⟩ : ∃ z : Nat → Nat → Int32, z = va_up kv_17 (u_3.1.getD 0) (upd (kv_17 (u_3.1.getD 0)) 6 (u_8.2.2.2.2.2.2 4)) := ⟨_, rfl⟩
          rw [← ekv_19] at hP hD
          have hP : va_P D vwCl (landW Z cK u_3.2.1 kv_19 mv ++ (tpW U cB p_len p_bytes ++ (rdW Q U cI u_8.2.1 u_8.2.2.1 u_8.2.2.2.1 u_8.2.2.2.2.1 u_8.2.2.2.2.2.1 u_8.2.2.2.2.2.2 ++ R))) H := hP
          have hD : va_D A (landW Z cK u_3.2.1 kv_19 mv ++ (tpW U cB p_len p_bytes ++ (rdW Q U cI u_8.2.1 u_8.2.2.1 u_8.2.2.2.1 u_8.2.2.2.2.1 u_8.2.2.2.2.2.1 u_8.2.2.2.2.2.2 ++ R))) := hD
          refine lv_iconst (v := 1) hx hb dX4_readKind_103 (by decide) ?_
          rw [hQm]
          exact mx_zret (u0 := sX4_readKind f kv p_len p_bytes d_place d_token d_value d_start d_fault d_num) (rv := (fun u => some (.int u.1))) (w1 := (fun u => landW Z cK u.2.1 u.2.2.1 mv ++ (tpW U cB p_len p_bytes ++ (rdW Q U cI u.2.2.2.1 u.2.2.2.2.1 u.2.2.2.2.2.1 u.2.2.2.2.2.2.1 u.2.2.2.2.2.2.2.1 u.2.2.2.2.2.2.2.2 ++ R)))) (u := (1, u_3.2.1, kv_19, u_8.2.1, u_8.2.2.1, u_8.2.2.2.1, u_8.2.2.2.2.1, u_8.2.2.2.2.2.1, u_8.2.2.2.2.2.2)) hx hb hr hlocks hK hS (lt_eq eu_1 ((if_neg c_2).trans (lt_eq eu_3 ((if_neg c_4).trans (lt_eq eu_6 ((if_neg c_7).trans (lt_eq eu_8 ((if_neg c_9).trans (lt_eq ekv_11 (lt_eq ekv_13 (lt_eq ekv_15 (lt_eq ekv_17 (lt_eq ekv_19 rfl))))))))))))) hP hD rfl rfl dX4_readKind_104
        · refine lv_iconst (v := 0) hx hb dX4_readKind_51 (by decide) ?_
          rw [hQm]
          exact mx_zret (u0 := sX4_readKind f kv p_len p_bytes d_place d_token d_value d_start d_fault d_num) (rv := (fun u => some (.int u.1))) (w1 := (fun u => landW Z cK u.2.1 u.2.2.1 mv ++ (tpW U cB p_len p_bytes ++ (rdW Q U cI u.2.2.2.1 u.2.2.2.2.1 u.2.2.2.2.2.1 u.2.2.2.2.2.2.1 u.2.2.2.2.2.2.2.1 u.2.2.2.2.2.2.2.2 ++ R)))) (u := (0, u_3.2.1, u_6.2.1, u_8.2.1, u_8.2.2.1, u_8.2.2.2.1, u_8.2.2.2.2.1, u_8.2.2.2.2.2.1, u_8.2.2.2.2.2.2)) hx hb hr hlocks hK hS (lt_eq eu_1 ((if_neg c_2).trans (lt_eq eu_3 ((if_neg c_4).trans (lt_eq eu_6 ((if_neg c_7).trans (lt_eq eu_8 ((if_pos c_9).trans rfl)))))))) hP hD rfl rfl dX4_readKind_52
  · refine lv_aload_n hx hb dX4_readKind_9 rfl (lv_at hl 0 rfl) ?_
    refine lv_iconst (v := 1) hx hb dX4_readKind_10 (by decide) ?_
    have hpm : List.Perm (landW Z cK f kv mv ++ (tpW U cB p_len p_bytes ++ (rdW Q U cI d_place d_token d_value d_start d_fault d_num ++ R))) (tpW U cB p_len p_bytes ++ (rdW Q U cI d_place d_token d_value d_start d_fault d_num ++ (landW Z cK f kv mv ++ R))) := (((List.Perm.append_left _ gp_swap).trans gp_swap).trans ((List.Perm.append_left _ gp_swap).trans gp_swap))
    have hP := gp_P hpm hP
    have hD := gp_D hpm hD
    refine mx_callV (As := [.int 1]) (rest := []) ⟨hx, hb, hml, hown, hts⟩ (mtX4_failed l D cI cB cK cS U Q (landW Z cK f kv mv ++ R) p_len p_bytes d_place d_token d_value d_start d_fault d_num 1) (cwV 1 hts gX4_readKind_X4_failed rfl rfl rfl (by decide +kernel) ⟨Nat.le_of_ble_eq_true rfl, Nat.le_of_ble_eq_true rfl⟩) pF0_ok trivial hK hP hD hS hA 2 rfl rfl rfl rfl hl.1 rfl (Nat.le_of_ble_eq_true rfl) dX4_readKind_11 ⟨Nat.le_refl _, Nat.le_refl _⟩ (fun u_20 H locs eu_20 hP hD hS => ?_)
    refine W.eq (g2 := F0 m 14 ls [.int u_20.1]) rfl ?_
    have hP : va_P D vwCl (tpW U cB p_len p_bytes ++ (rdW Q U cI d_place d_token d_value d_start u_20.2 d_num ++ (landW Z cK f kv mv ++ R))) H := hP
    have hD : va_D A (tpW U cB p_len p_bytes ++ (rdW Q U cI d_place d_token d_value d_start u_20.2 d_num ++ (landW Z cK f kv mv ++ R))) := hD
    have hpm : List.Perm (tpW U cB p_len p_bytes ++ (rdW Q U cI d_place d_token d_value d_start u_20.2 d_num ++ (landW Z cK f kv mv ++ R))) (landW Z cK f kv mv ++ (tpW U cB p_len p_bytes ++ (rdW Q U cI d_place d_token d_value d_start u_20.2 d_num ++ R))) := ((gp_swap.trans gp_swap).trans ((List.Perm.append_left _ gp_swap).trans gp_swap))
    have hP := gp_P hpm hP
    have hD := gp_D hpm hD
    rw [hQm]
    exact mx_zret (u0 := sX4_readKind f kv p_len p_bytes d_place d_token d_value d_start d_fault d_num) (rv := (fun u => some (.int u.1))) (w1 := (fun u => landW Z cK u.2.1 u.2.2.1 mv ++ (tpW U cB p_len p_bytes ++ (rdW Q U cI u.2.2.2.1 u.2.2.2.2.1 u.2.2.2.2.2.1 u.2.2.2.2.2.2.1 u.2.2.2.2.2.2.2.1 u.2.2.2.2.2.2.2.2 ++ R)))) (u := (u_20.1, f, kv, d_place, d_token, d_value, d_start, u_20.2, d_num)) hx hb hr hlocks hK hS (lt_eq eu_1 ((if_pos c_2).trans (lt_eq eu_20 rfl))) hP hD rfl (z_narrow (sX4_failed_z eu_20)) dX4_readKind_14
theorem sX4_readKind_ok {f p_bytes d_num : Nat → Int32} {kv : Nat → Nat → Int32} {p_len x y z w d_fault : Int32} {u : Int32 × (Nat → Int32) × (Nat → Nat → Int32) × (Int32) × (Int32) × (Int32) × (Int32) × (Int32) × (Nat → Int32)} (h : pl_ok x) (hl : p_len.toInt ≤ 400) (hk : 0 ≤ (f 2).toInt) (e : u = sX4_readKind f kv p_len p_bytes x y z w d_fault d_num) : pl_ok u.2.2.2.1 ∧ 0 ≤ (u.2.1 2).toInt := by
  rw [e]
  unfold sX4_readKind
  show (fun r : Int32 × (Nat → Int32) × (Nat → Nat → Int32) × (Int32) × (Int32) × (Int32) × (Int32) × (Int32) × (Nat → Int32) => pl_ok r.2.2.2.1 ∧ 0 ≤ (r.2.1 2).toInt) _
  repeat' first | with_reducible refine if_P (fun r : Int32 × (Nat → Int32) × (Nat → Nat → Int32) × (Int32) × (Int32) × (Int32) × (Int32) × (Int32) × (Nat → Int32) => pl_ok r.2.2.2.1 ∧ 0 ≤ (r.2.1 2).toInt) (fun _ => ?_) (fun _ => ?_) | with_reducible refine lt_P (fun r : Option Nat × (Nat → Int32) × (Nat → Nat → Int32) => 0 ≤ (r.2.1 2).toInt) (fun r : Int32 × (Nat → Int32) × (Nat → Nat → Int32) × (Int32) × (Int32) × (Int32) × (Int32) × (Int32) × (Nat → Int32) => pl_ok r.2.2.2.1 ∧ 0 ≤ (r.2.1 2).toInt) (sX2_nextKind_kc (by assumption) rfl) (fun _ _ => ?_) | with_reducible refine lt_P (fun r : Int32 × (Nat → Nat → Int32) × (Int32) × (Int32) × (Int32) × (Int32) × (Int32) => pl_ok r.2.2.1) (fun r : Int32 × (Nat → Int32) × (Nat → Nat → Int32) × (Int32) × (Int32) × (Int32) × (Int32) × (Int32) × (Nat → Int32) => pl_ok r.2.2.2.1 ∧ 0 ≤ (r.2.1 2).toInt) (sX4_readWay_ok (by assumption) (by assumption) rfl) (fun _ _ => ?_) | with_reducible refine lt_P (fun r : Int32 × (Int32) × (Int32) × (Int32) × (Int32) × (Int32) × (Nat → Int32) => pl_ok r.2.1) (fun r : Int32 × (Nat → Int32) × (Nat → Nat → Int32) × (Int32) × (Int32) × (Int32) × (Int32) × (Int32) × (Nat → Int32) => pl_ok r.2.2.2.1 ∧ 0 ≤ (r.2.1 2).toInt) (sX4_takeNumbers_ok (by assumption) (by assumption) rfl) (fun _ _ => ?_) | with_reducible refine lt_P (fun _ => True) (fun r : Int32 × (Nat → Int32) × (Nat → Nat → Int32) × (Int32) × (Int32) × (Int32) × (Int32) × (Int32) × (Nat → Int32) => pl_ok r.2.2.2.1 ∧ 0 ≤ (r.2.1 2).toInt) trivial (fun _ _ => ?_) | exact ⟨by assumption, by assumption⟩
