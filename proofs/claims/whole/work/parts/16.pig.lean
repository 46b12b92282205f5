def sX10_round (w : Int32) (f : Nat → Int32) (kv : Nat → Nat → Int32) (mv : Nat → Int32) (f2 : Nat → Int32) (kv2 : Nat → Nat → Int32) (mv2 : Nat → Int32) (t_len : Int32) (t_end : Int32) (t_met : Nat → Int32) (g_landed : Int32) : Int32 × (Nat → Int32) × (Nat → Nat → Int32) × (Nat → Int32) × (Int32) × (Int32) × (Nat → Int32) := if w < 0 then (((-1000001), f, kv, mv, t_len, t_end, t_met)) else (if w ≤ 1 then (if g_landed = 0 then (((-1000002), f, kv, mv, t_len, t_end, t_met)) else (lt (sX8_seekRound f kv mv f2 kv2 mv2 t_met) (fun u_4 : (Nat → Int32) × (Nat → Nat → Int32) × (Nat → Int32) × (Int32) × (Int32) × (Nat → Int32) => if w = 0 then ((u_4.2.2.2.1, u_4.1, u_4.2.1, u_4.2.2.1, u_4.2.2.2.1, u_4.2.2.2.2.1, u_4.2.2.2.2.2)) else ((u_4.2.2.2.2.1, u_4.1, u_4.2.1, u_4.2.2.1, u_4.2.2.2.1, u_4.2.2.2.2.1, u_4.2.2.2.2.2))))) else (((-1000001), f, kv, mv, t_len, t_end, t_met)))
set_option maxHeartbeats 4000000 in
set_option maxRecDepth 100000 in
theorem mtX10_round (l : Launch) (D : va_G) (cI cB cK cS : ClassId) (Z B S U Q V K Z2 Z3 : Nat → Nat) (R : va_W) (f : Nat → Int32) (kv : Nat → Nat → Int32) (mv : Nat → Int32) (f2 : Nat → Int32) (kv2 : Nat → Nat → Int32) (mv2 : Nat → Int32) (t_len : Int32) (t_end : Int32) (t_met : Nat → Int32) (g_landed : Int32) (g_fault : Int32) (g_find : Int32) (w : Int32) (hz : ∀ j, j < 5 → kv2 j 7 = 0 ∨ kv2 j 7 = 1) : MX l yX10_round wsX10_round (rmX 6) D (tyX cI cB cK cS) pF0 (landW Z cK f kv mv ++ (landW Z2 cK f2 kv2 mv2 ++ (trW V Z cI t_len t_end t_met ++ (pigW B S U Q V K Z2 Z3 g_landed g_fault g_find ++ R)))) [.ref (B 0), .int w] (sX10_round w f kv mv f2 kv2 mv2 t_len t_end t_met g_landed) (fun u => some (.int u.1)) (fun u => landW Z cK u.2.1 u.2.2.1 u.2.2.2.1 ++ (landW Z2 cK f2 kv2 mv2 ++ (trW V Z cI u.2.2.2.2.1 u.2.2.2.2.2.1 u.2.2.2.2.2.2 ++ (pigW B S U Q V K Z2 Z3 g_landed g_fault g_find ++ R)))) := by
  refine mx_intro (cc := cX10_round) (maxL := 2) (ret := (some .int)) (by decide) rfl (Nat.le_of_ble_eq_true rfl) ?_
  intro p e s m below meth c A ls H locs Qm hQm hx hb hr hml hts hown hlocks hA hS hP hK hD hF hl
  have hown : s.vm.findClass RX10 = some m.cls := hown
  have hl : lv_has ls 2 [(0, .ref (B 0)), (1, .int w)] := hl
  have k71 := hts (.constant RX10 71 (-1000001)) (by decide +kernel)
  have k55 := hts (.fieldLink RX10 55 "PigRounds" "landed" "Z") (by decide +kernel)
  have k34 := hts (.fieldLink RX10 34 "PigRounds" "trials" "LPigRounds$Trials;") (by decide +kernel)
  have k48 := hts (.fieldLink RX10 48 "PigRounds" "land" "LPigRounds$Land;") (by decide +kernel)
  have k217 := hts (.fieldLink RX10 217 "PigRounds$Trials" "roundEnd" "I") (by decide +kernel)
  have k214 := hts (.fieldLink RX10 214 "PigRounds$Trials" "roundLength" "I") (by decide +kernel)
  have k165 := hts (.constant RX10 165 (-1000002)) (by decide +kernel)
  have iX10 : ∀ w ∈ u_ws RX10 TX10 10, w ∈ wsX10_round := by decide +kernel
  have iX8 : ∀ w ∈ u_ws RX8 TX8 4, w ∈ wsX10_round := by decide +kernel
  refine lv_iload_n hx hb dX10_round_0 rfl (lv_at hl 1 rfl) ?_
  refine lv_if_lt (tgt := 9) hx hb dX10_round_1 (by decide) (fun c_1 => ?_) (fun c_1 => ?_)
  · have d_1 := i_lt rfl (show (0 : Int32).toInt = 0 from by decide) c_1
    refine lv_ldc (v := (-1000001)) hx hb hown k71 dX10_round_9 ?_
    rw [hQm]
    exact mx_iret (u0 := sX10_round w f kv mv f2 kv2 mv2 t_len t_end t_met g_landed) (rv := (fun u => some (.int u.1))) (w1 := (fun u => landW Z cK u.2.1 u.2.2.1 u.2.2.2.1 ++ (landW Z2 cK f2 kv2 mv2 ++ (trW V Z cI u.2.2.2.2.1 u.2.2.2.2.2.1 u.2.2.2.2.2.2 ++ (pigW B S U Q V K Z2 Z3 g_landed g_fault g_find ++ R))))) (u := ((-1000001), f, kv, mv, t_len, t_end, t_met)) hx hb hr hlocks hK hS ((if_pos c_1).trans rfl) hP hD rfl dX10_round_11
  · have d_1 := i_ltn rfl (show (0 : Int32).toInt = 0 from by decide) c_1
    refine lv_iload_n hx hb dX10_round_4 rfl (lv_at hl 1 rfl) ?_
    refine lv_iconst (v := 1) hx hb dX10_round_5 (by decide) ?_
    refine lv_icmp_le (tgt := 12) hx hb dX10_round_6 (by decide) (fun c_2 => ?_) (fun c_2 => ?_)
    · have d_2 := i_le rfl (show (1 : Int32).toInt = 1 from by decide) c_2
      refine lv_aload_n hx hb dX10_round_12 rfl (lv_at hl 0 rfl) ?_
      refine va_get (D := D) (ci := 8) (v := .int g_landed) (C := RX10) (T := TX10) (N := 10) hx hb hts iX10 hown hK hP 18 rfl rfl 7 (by decide) k55 (fun _ h9 => h9) rfl dX10_round_13 ?_
      refine lv_if_ne (tgt := 22) hx hb dX10_round_16 (by decide) (fun c_3 => ?_) (fun c_3 => ?_)
      · have d_3 := i_eqn rfl (show (0 : Int32).toInt = 0 from by decide) c_3
        refine lv_aload_n hx hb dX10_round_22 rfl (lv_at hl 0 rfl) ?_
        refine va_get (D := D) (ci := 8) (v := .ref (V 0)) (C := RX10) (T := TX10) (N := 10) hx hb hts iX10 hown hK hP 18 rfl rfl 3 (by decide) k34 (fun _ h9 => h9) rfl dX10_round_23 ?_
        refine lv_aload_n hx hb dX10_round_26 rfl (lv_at hl 0 rfl) ?_
        refine va_get (D := D) (ci := 8) (v := .ref (Z2 0)) (C := RX10) (T := TX10) (N := 10) hx hb hts iX10 hown hK hP 18 rfl rfl 5 (by decide) k48 (fun _ h9 => h9) rfl dX10_round_27 ?_
        refine mx_callV (As := [.ref (Z2 0)]) (rest := []) ⟨hx, hb, hml, hown, hts⟩ (mtX8_seekRound l D cI cB cK cS Z Z2 V (pigW B S U Q V K Z2 Z3 g_landed g_fault g_find ++ R) f kv mv f2 kv2 mv2 t_len t_end t_met (by first | assumption | omega)) (cwV 1 hts gX10_round_X8_seekRound rfl rfl rfl (by decide +kernel) ⟨Nat.le_of_ble_eq_true rfl, Nat.le_of_ble_eq_true rfl⟩) pF0_ok trivial hK hP hD hS hA 16 rfl rfl rfl rfl hl.1 rfl (Nat.le_of_ble_eq_true rfl) dX10_round_30 ⟨Nat.le_refl _, Nat.le_refl _⟩ (fun u_4 H locs eu_4 hP hD hS => ?_)
        refine W.eq (g2 := F0 m 33 ls []) rfl ?_
        have hP : va_P D vwCl (landW Z cK u_4.1 u_4.2.1 u_4.2.2.1 ++ (landW Z2 cK f2 kv2 mv2 ++ (trW V Z cI u_4.2.2.2.1 u_4.2.2.2.2.1 u_4.2.2.2.2.2 ++ (pigW B S U Q V K Z2 Z3 g_landed g_fault g_find ++ R)))) H := hP
        have hD : va_D A (landW Z cK u_4.1 u_4.2.1 u_4.2.2.1 ++ (landW Z2 cK f2 kv2 mv2 ++ (trW V Z cI u_4.2.2.2.1 u_4.2.2.2.2.1 u_4.2.2.2.2.2 ++ (pigW B S U Q V K Z2 Z3 g_landed g_fault g_find ++ R)))) := hD
        refine lv_iload_n hx hb dX10_round_33 rfl (lv_at hl 1 rfl) ?_
        refine lv_if_ne (tgt := 47) hx hb dX10_round_34 (by decide) (fun c_5 => ?_) (fun c_5 => ?_)
        · have d_5 := i_eqn rfl (show (0 : Int32).toInt = 0 from by decide) c_5
          refine lv_aload_n hx hb dX10_round_47 rfl (lv_at hl 0 rfl) ?_
          refine va_get (D := D) (ci := 8) (v := .ref (V 0)) (C := RX10) (T := TX10) (N := 10) hx hb hts iX10 hown hK hP 18 rfl rfl 3 (by decide) k34 (fun _ h9 => h9) rfl dX10_round_48 ?_
          refine va_get (D := D) (ci := 7) (v := .int u_4.2.2.2.2.1) (C := RX8) (T := TX8) (N := 4) hx hb hts iX8 hown hK hP 16 rfl rfl 3 (by decide) k217 (fun _ h9 => h9) rfl dX10_round_51 ?_
          rw [hQm]
          exact mx_iret (u0 := sX10_round w f kv mv f2 kv2 mv2 t_len t_end t_met g_landed) (rv := (fun u => some (.int u.1))) (w1 := (fun u => landW Z cK u.2.1 u.2.2.1 u.2.2.2.1 ++ (landW Z2 cK f2 kv2 mv2 ++ (trW V Z cI u.2.2.2.2.1 u.2.2.2.2.2.1 u.2.2.2.2.2.2 ++ (pigW B S U Q V K Z2 Z3 g_landed g_fault g_find ++ R))))) (u := (u_4.2.2.2.2.1, u_4.1, u_4.2.1, u_4.2.2.1, u_4.2.2.2.1, u_4.2.2.2.2.1, u_4.2.2.2.2.2)) hx hb hr hlocks hK hS ((if_neg c_1).trans ((if_pos c_2).trans ((if_neg c_3).trans (lt_eq eu_4 ((if_neg c_5).trans rfl))))) hP hD rfl dX10_round_54
        · have d_5 := i_eq rfl (show (0 : Int32).toInt = 0 from by decide) c_5
          refine lv_aload_n hx hb dX10_round_37 rfl (lv_at hl 0 rfl) ?_
          refine va_get (D := D) (ci := 8) (v := .ref (V 0)) (C := RX10) (T := TX10) (N := 10) hx hb hts iX10 hown hK hP 18 rfl rfl 3 (by decide) k34 (fun _ h9 => h9) rfl dX10_round_38 ?_
          refine va_get (D := D) (ci := 7) (v := .int u_4.2.2.2.1) (C := RX8) (T := TX8) (N := 4) hx hb hts iX8 hown hK hP 16 rfl rfl 2 (by decide) k214 (fun _ h9 => h9) rfl dX10_round_41 ?_
          refine lv_goto (tgt := 54) hx hb dX10_round_44 (by decide) ?_
          rw [hQm]
          exact mx_iret (u0 := sX10_round w f kv mv f2 kv2 mv2 t_len t_end t_met g_landed) (rv := (fun u => some (.int u.1))) (w1 := (fun u => landW Z cK u.2.1 u.2.2.1 u.2.2.2.1 ++ (landW Z2 cK f2 kv2 mv2 ++ (trW V Z cI u.2.2.2.2.1 u.2.2.2.2.2.1 u.2.2.2.2.2.2 ++ (pigW B S U Q V K Z2 Z3 g_landed g_fault g_find ++ R))))) (u := (u_4.2.2.2.1, u_4.1, u_4.2.1, u_4.2.2.1, u_4.2.2.2.1, u_4.2.2.2.2.1, u_4.2.2.2.2.2)) hx hb hr hlocks hK hS ((if_neg c_1).trans ((if_pos c_2).trans ((if_neg c_3).trans (lt_eq eu_4 ((if_pos c_5).trans rfl))))) hP hD rfl dX10_round_54
      · have d_3 := i_eq rfl (show (0 : Int32).toInt = 0 from by decide) c_3
        refine lv_ldc (v := (-1000002)) hx hb hown k165 dX10_round_19 ?_
        rw [hQm]
        exact mx_iret (u0 := sX10_round w f kv mv f2 kv2 mv2 t_len t_end t_met g_landed) (rv := (fun u => some (.int u.1))) (w1 := (fun u => landW Z cK u.2.1 u.2.2.1 u.2.2.2.1 ++ (landW Z2 cK f2 kv2 mv2 ++ (trW V Z cI u.2.2.2.2.1 u.2.2.2.2.2.1 u.2.2.2.2.2.2 ++ (pigW B S U Q V K Z2 Z3 g_landed g_fault g_find ++ R))))) (u := ((-1000002), f, kv, mv, t_len, t_end, t_met)) hx hb hr hlocks hK hS ((if_neg c_1).trans ((if_pos c_2).trans ((if_pos c_3).trans rfl))) hP hD rfl dX10_round_21
    · have d_2 := i_len rfl (show (1 : Int32).toInt = 1 from by decide) c_2
      refine lv_ldc (v := (-1000001)) hx hb hown k71 dX10_round_9 ?_
      rw [hQm]
      exact mx_iret (u0 := sX10_round w f kv mv f2 kv2 mv2 t_len t_end t_met g_landed) (rv := (fun u => some (.int u.1))) (w1 := (fun u => landW Z cK u.2.1 u.2.2.1 u.2.2.2.1 ++ (landW Z2 cK f2 kv2 mv2 ++ (trW V Z cI u.2.2.2.2.1 u.2.2.2.2.2.1 u.2.2.2.2.2.2 ++ (pigW B S U Q V K Z2 Z3 g_landed g_fault g_find ++ R))))) (u := ((-1000001), f, kv, mv, t_len, t_end, t_met)) hx hb hr hlocks hK hS ((if_neg c_1).trans ((if_neg c_2).trans rfl)) hP hD rfl dX10_round_11

def sX10_bears (k : Int32) (nn : Int32) (f : Nat → Int32) (kv : Nat → Nat → Int32) (mv : Nat → Int32) (f2 : Nat → Int32) (kv2 : Nat → Nat → Int32) (mv2 : Nat → Int32) : Int32 × (Nat → Int32) × (Nat → Nat → Int32) × (Nat → Int32) := if k < 1 then (((-1000001), f, kv, mv)) else (lt (sX10_kindOf k f2) (fun u_2 : Option Nat => if u_2 = none then (((-1000001), f, kv, mv)) else (if nn < 1 then (((-1000001), f, kv, mv)) else (if nn ≤ 30 then (lt (sX8_mostBorne k nn f kv mv f2 kv2 mv2) (fun u_6 : Int32 × (Nat → Int32) × (Nat → Nat → Int32) × (Nat → Int32) => (u_6.1, u_6.2.1, u_6.2.2.1, u_6.2.2.2))) else (((-1000001), f, kv, mv))))))
set_option maxHeartbeats 4000000 in
set_option maxRecDepth 100000 in
theorem mtX10_bears (l : Launch) (D : va_G) (cI cB cK cS : ClassId) (Z B S U Q V K Z2 Z3 : Nat → Nat) (R : va_W) (f : Nat → Int32) (kv : Nat → Nat → Int32) (mv : Nat → Int32) (f2 : Nat → Int32) (kv2 : Nat → Nat → Int32) (mv2 : Nat → Int32) (t_len : Int32) (t_end : Int32) (t_met : Nat → Int32) (g_landed : Int32) (g_fault : Int32) (g_find : Int32) (k : Int32) (nn : Int32) (hz : ∀ j, j < 5 → kv2 j 7 = 0 ∨ kv2 j 7 = 1) : MX l yX10_bears wsX10_bears (rmX 7) D (tyX cI cB cK cS) pF0 (landW Z cK f kv mv ++ (landW Z2 cK f2 kv2 mv2 ++ (trW V Z cI t_len t_end t_met ++ (pigW B S U Q V K Z2 Z3 g_landed g_fault g_find ++ R)))) [.ref (B 0), .int k, .int nn] (sX10_bears k nn f kv mv f2 kv2 mv2) (fun u => some (.int u.1)) (fun u => landW Z cK u.2.1 u.2.2.1 u.2.2.2 ++ (landW Z2 cK f2 kv2 mv2 ++ (trW V Z cI t_len t_end t_met ++ (pigW B S U Q V K Z2 Z3 g_landed g_fault g_find ++ R)))) := by
  refine mx_intro (cc := cX10_bears) (maxL := 3) (ret := (some .int)) (by decide) rfl (Nat.le_of_ble_eq_true rfl) ?_
  intro p e s m below meth c A ls H locs Qm hQm hx hb hr hml hts hown hlocks hA hS hP hK hD hF hl
  have hown : s.vm.findClass RX10 = some m.cls := hown
  have hl : lv_has ls 3 [(0, .ref (B 0)), (1, .int k), (2, .int nn)] := hl
  have k71 := hts (.constant RX10 71 (-1000001)) (by decide +kernel)
  have k34 := hts (.fieldLink RX10 34 "PigRounds" "trials" "LPigRounds$Trials;") (by decide +kernel)
  have k48 := hts (.fieldLink RX10 48 "PigRounds" "land" "LPigRounds$Land;") (by decide +kernel)
  have iX10 : ∀ w ∈ u_ws RX10 TX10 10, w ∈ wsX10_bears := by decide +kernel
  refine lv_iload_n hx hb dX10_bears_0 rfl (lv_at hl 1 rfl) ?_
  refine lv_iconst (v := 1) hx hb dX10_bears_1 (by decide) ?_
  refine lv_icmp_lt (tgt := 24) hx hb dX10_bears_2 (by decide) (fun c_1 => ?_) (fun c_1 => ?_)
  · have d_1 := i_lt rfl (show (1 : Int32).toInt = 1 from by decide) c_1
    refine lv_ldc (v := (-1000001)) hx hb hown k71 dX10_bears_24 ?_
    rw [hQm]
    exact mx_iret (u0 := sX10_bears k nn f kv mv f2 kv2 mv2) (rv := (fun u => some (.int u.1))) (w1 := (fun u => landW Z cK u.2.1 u.2.2.1 u.2.2.2 ++ (landW Z2 cK f2 kv2 mv2 ++ (trW V Z cI t_len t_end t_met ++ (pigW B S U Q V K Z2 Z3 g_landed g_fault g_find ++ R))))) (u := ((-1000001), f, kv, mv)) hx hb hr hlocks hK hS ((if_pos c_1).trans rfl) hP hD rfl dX10_bears_26
  · have d_1 := i_ltn rfl (show (1 : Int32).toInt = 1 from by decide) c_1
    refine lv_aload_n hx hb dX10_bears_5 rfl (lv_at hl 0 rfl) ?_
    refine lv_iload_n hx hb dX10_bears_6 rfl (lv_at hl 1 rfl) ?_
    have hpm : List.Perm (landW Z cK f kv mv ++ (landW Z2 cK f2 kv2 mv2 ++ (trW V Z cI t_len t_end t_met ++ (pigW B S U Q V K Z2 Z3 g_landed g_fault g_find ++ R)))) (landW Z2 cK f2 kv2 mv2 ++ (pigW B S U Q V K Z2 Z3 g_landed g_fault g_find ++ (landW Z cK f kv mv ++ (trW V Z cI t_len t_end t_met ++ R)))) := (((((List.Perm.append_left _ gp_swap).trans gp_swap).trans gp_swap).trans ((List.Perm.append_left _ ((List.Perm.append_left _ gp_swap).trans gp_swap)).trans gp_swap)).trans ((List.Perm.append_left _ ((List.Perm.append_left _ gp_swap).trans gp_swap)).trans gp_swap))
    have hP := gp_P hpm hP
    have hD := gp_D hpm hD
    refine mx_callV (As := [.int k]) (rest := []) ⟨hx, hb, hml, hown, hts⟩ (mtX10_kindOf l D cI cB cK cS B S U Q V K Z2 Z3 (landW Z cK f kv mv ++ (trW V Z cI t_len t_end t_met ++ R)) f2 kv2 mv2 g_landed g_fault g_find k) (cwV 1 hts gX10_bears_X10_kindOf rfl rfl rfl (by decide +kernel) ⟨Nat.le_of_ble_eq_true rfl, Nat.le_of_ble_eq_true rfl⟩) pF0_ok trivial hK hP hD hS hA 8 rfl rfl rfl rfl hl.1 rfl (Nat.le_of_ble_eq_true rfl) dX10_bears_7 ⟨Nat.le_refl _, Nat.le_refl _⟩ (fun u_2 H locs eu_2 hP hD hS => ?_)
    have hP : va_P D vwCl (landW Z2 cK f2 kv2 mv2 ++ (pigW B S U Q V K Z2 Z3 g_landed g_fault g_find ++ (landW Z cK f kv mv ++ (trW V Z cI t_len t_end t_met ++ R)))) H := hP
    have hD : va_D A (landW Z2 cK f2 kv2 mv2 ++ (pigW B S U Q V K Z2 Z3 g_landed g_fault g_find ++ (landW Z cK f kv mv ++ (trW V Z cI t_len t_end t_met ++ R)))) := hD
    have hpm : List.Perm (landW Z2 cK f2 kv2 mv2 ++ (pigW B S U Q V K Z2 Z3 g_landed g_fault g_find ++ (landW Z cK f kv mv ++ (trW V Z cI t_len t_end t_met ++ R)))) (landW Z cK f kv mv ++ (landW Z2 cK f2 kv2 mv2 ++ (trW V Z cI t_len t_end t_met ++ (pigW B S U Q V K Z2 Z3 g_landed g_fault g_find ++ R)))) := (((gp_swap.trans ((List.Perm.append_left _ ((List.Perm.append_left _ gp_swap).trans gp_swap)).trans gp_swap)).trans ((List.Perm.append_left _ gp_swap).trans gp_swap)).trans ((List.Perm.append_left _ ((List.Perm.append_left _ gp_swap).trans gp_swap)).trans gp_swap))
    have hP := gp_P hpm hP
    have hD := gp_D hpm hD
    rcases Classical.em (u_2 = none) with c_3 | c_3
    · refine W.eq (g2 := F0 m 10 ls [.null]) (by rw [c_3]; rfl) ?_
      refine lv_ifnullN (tgt := 24) hx hb dX10_bears_10 (by decide) ?_
      refine lv_ldc (v := (-1000001)) hx hb hown k71 dX10_bears_24 ?_
      rw [hQm]
      exact mx_iret (u0 := sX10_bears k nn f kv mv f2 kv2 mv2) (rv := (fun u => some (.int u.1))) (w1 := (fun u => landW Z cK u.2.1 u.2.2.1 u.2.2.2 ++ (landW Z2 cK f2 kv2 mv2 ++ (trW V Z cI t_len t_end t_met ++ (pigW B S U Q V K Z2 Z3 g_landed g_fault g_find ++ R))))) (u := ((-1000001), f, kv, mv)) hx hb hr hlocks hK hS ((if_neg c_1).trans (lt_eq eu_2 ((if_pos c_3).trans rfl))) hP hD rfl dX10_bears_26
    · have hj_3 : u_2.getD 0 < 5 := sX10_kindOf_lt eu_2 c_3
      refine W.eq (g2 := F0 m 10 ls [.ref (Z2 (3 + (u_2.getD 0)))]) (by rw [show u_2 = some (u_2.getD 0) from o_some c_3]; rfl) ?_
      refine lv_ifnull hx hb dX10_bears_10 ?_
      refine lv_iload_n hx hb dX10_bears_13 rfl (lv_at hl 2 rfl) ?_
      refine lv_iconst (v := 1) hx hb dX10_bears_14 (by decide) ?_
      refine lv_icmp_lt (tgt := 24) hx hb dX10_bears_15 (by decide) (fun c_4 => ?_) (fun c_4 => ?_)
      · have d_4 := i_lt rfl (show (1 : Int32).toInt = 1 from by decide) c_4
        refine lv_ldc (v := (-1000001)) hx hb hown k71 dX10_bears_24 ?_
        rw [hQm]
        exact mx_iret (u0 := sX10_bears k nn f kv mv f2 kv2 mv2) (rv := (fun u => some (.int u.1))) (w1 := (fun u => landW Z cK u.2.1 u.2.2.1 u.2.2.2 ++ (landW Z2 cK f2 kv2 mv2 ++ (trW V Z cI t_len t_end t_met ++ (pigW B S U Q V K Z2 Z3 g_landed g_fault g_find ++ R))))) (u := ((-1000001), f, kv, mv)) hx hb hr hlocks hK hS ((if_neg c_1).trans (lt_eq eu_2 ((if_neg c_3).trans ((if_pos c_4).trans rfl)))) hP hD rfl dX10_bears_26
      · have d_4 := i_ltn rfl (show (1 : Int32).toInt = 1 from by decide) c_4
        refine lv_iload_n hx hb dX10_bears_18 rfl (lv_at hl 2 rfl) ?_
        refine lv_bipush (v := 30) hx hb dX10_bears_19 (by decide) ?_
        refine lv_icmp_le (tgt := 27) hx hb dX10_bears_21 (by decide) (fun c_5 => ?_) (fun c_5 => ?_)
        · have d_5 := i_le rfl (show (30 : Int32).toInt = 30 from by decide) c_5
          refine lv_aload_n hx hb dX10_bears_27 rfl (lv_at hl 0 rfl) ?_
          refine va_get (D := D) (ci := 8) (v := .ref (V 0)) (C := RX10) (T := TX10) (N := 10) hx hb hts iX10 hown hK hP 18 rfl rfl 3 (by decide) k34 (fun _ h9 => h9) rfl dX10_bears_28 ?_
          refine lv_aload_n hx hb dX10_bears_31 rfl (lv_at hl 0 rfl) ?_
          refine va_get (D := D) (ci := 8) (v := .ref (Z2 0)) (C := RX10) (T := TX10) (N := 10) hx hb hts iX10 hown hK hP 18 rfl rfl 5 (by decide) k48 (fun _ h9 => h9) rfl dX10_bears_32 ?_
          refine lv_iload_n hx hb dX10_bears_35 rfl (lv_at hl 1 rfl) ?_
          refine lv_iload_n hx hb dX10_bears_36 rfl (lv_at hl 2 rfl) ?_
          refine mx_callV (As := [.ref (Z2 0), .int k, .int nn]) (rest := []) ⟨hx, hb, hml, hown, hts⟩ (mtX8_mostBorne l D cI cB cK cS Z Z2 V (pigW B S U Q V K Z2 Z3 g_landed g_fault g_find ++ R) f kv mv f2 kv2 mv2 t_len t_end t_met k nn (by first | assumption | omega) (by first | assumption | omega)) (cwV 3 hts gX10_bears_X8_mostBorne rfl rfl rfl (by decide +kernel) ⟨Nat.le_of_ble_eq_true rfl, Nat.le_of_ble_eq_true rfl⟩) pF0_ok trivial hK hP hD hS hA 16 rfl rfl rfl rfl hl.1 rfl (Nat.le_of_ble_eq_true rfl) dX10_bears_37 ⟨Nat.le_refl _, Nat.le_refl _⟩ (fun u_6 H locs eu_6 hP hD hS => ?_)
          refine W.eq (g2 := F0 m 40 ls [.int u_6.1]) rfl ?_
          have hP : va_P D vwCl (landW Z cK u_6.2.1 u_6.2.2.1 u_6.2.2.2 ++ (landW Z2 cK f2 kv2 mv2 ++ (trW V Z cI t_len t_end t_met ++ (pigW B S U Q V K Z2 Z3 g_landed g_fault g_find ++ R)))) H := hP
          have hD : va_D A (landW Z cK u_6.2.1 u_6.2.2.1 u_6.2.2.2 ++ (landW Z2 cK f2 kv2 mv2 ++ (trW V Z cI t_len t_end t_met ++ (pigW B S U Q V K Z2 Z3 g_landed g_fault g_find ++ R)))) := hD
          rw [hQm]
          exact mx_iret (u0 := sX10_bears k nn f kv mv f2 kv2 mv2) (rv := (fun u => some (.int u.1))) (w1 := (fun u => landW Z cK u.2.1 u.2.2.1 u.2.2.2 ++ (landW Z2 cK f2 kv2 mv2 ++ (trW V Z cI t_len t_end t_met ++ (pigW B S U Q V K Z2 Z3 g_landed g_fault g_find ++ R))))) (u := (u_6.1, u_6.2.1, u_6.2.2.1, u_6.2.2.2)) hx hb hr hlocks hK hS ((if_neg c_1).trans (lt_eq eu_2 ((if_neg c_3).trans ((if_neg c_4).trans ((if_pos c_5).trans (lt_eq eu_6 rfl)))))) hP hD rfl dX10_bears_40
        · have d_5 := i_len rfl (show (30 : Int32).toInt = 30 from by decide) c_5
          refine lv_ldc (v := (-1000001)) hx hb hown k71 dX10_bears_24 ?_
          rw [hQm]
          exact mx_iret (u0 := sX10_bears k nn f kv mv f2 kv2 mv2) (rv := (fun u => some (.int u.1))) (w1 := (fun u => landW Z cK u.2.1 u.2.2.1 u.2.2.2 ++ (landW Z2 cK f2 kv2 mv2 ++ (trW V Z cI t_len t_end t_met ++ (pigW B S U Q V K Z2 Z3 g_landed g_fault g_find ++ R))))) (u := ((-1000001), f, kv, mv)) hx hb hr hlocks hK hS ((if_neg c_1).trans (lt_eq eu_2 ((if_neg c_3).trans ((if_neg c_4).trans ((if_neg c_5).trans rfl))))) hP hD rfl dX10_bears_26

def sX10_prints (k : Int32) (f : Nat → Int32) (kv : Nat → Nat → Int32) (mv : Nat → Int32) (f2 : Nat → Int32) (kv2 : Nat → Nat → Int32) (mv2 : Nat → Int32) (g_landed : Int32) : Int32 × (Nat → Int32) × (Nat → Nat → Int32) × (Nat → Int32) := if (-1) ≤ k then (if g_landed = 0 then (((-1000002), f, kv, mv)) else (lt (sX8_truePrint k f kv mv f2 kv2 mv2) (fun u_3 : Int32 × (Nat → Int32) × (Nat → Nat → Int32) × (Nat → Int32) => (u_3.1, u_3.2.1, u_3.2.2.1, u_3.2.2.2)))) else (((-1000001), f, kv, mv))
set_option maxHeartbeats 4000000 in
set_option maxRecDepth 100000 in
theorem mtX10_prints (l : Launch) (D : va_G) (cI cB cK cS : ClassId) (Z B S U Q V K Z2 Z3 : Nat → Nat) (R : va_W) (f : Nat → Int32) (kv : Nat → Nat → Int32) (mv : Nat → Int32) (f2 : Nat → Int32) (kv2 : Nat → Nat → Int32) (mv2 : Nat → Int32) (t_len : Int32) (t_end : Int32) (t_met : Nat → Int32) (g_landed : Int32) (g_fault : Int32) (g_find : Int32) (k : Int32) (hz : ∀ j, j < 5 → kv2 j 7 = 0 ∨ kv2 j 7 = 1) : MX l yX10_prints wsX10_prints (rmX 6) D (tyX cI cB cK cS) pF0 (landW Z cK f kv mv ++ (landW Z2 cK f2 kv2 mv2 ++ (trW V Z cI t_len t_end t_met ++ (pigW B S U Q V K Z2 Z3 g_landed g_fault g_find ++ R)))) [.ref (B 0), .int k] (sX10_prints k f kv mv f2 kv2 mv2 g_landed) (fun u => some (.int u.1)) (fun u => landW Z cK u.2.1 u.2.2.1 u.2.2.2 ++ (landW Z2 cK f2 kv2 mv2 ++ (trW V Z cI t_len t_end t_met ++ (pigW B S U Q V K Z2 Z3 g_landed g_fault g_find ++ R)))) := by
  refine mx_intro (cc := cX10_prints) (maxL := 2) (ret := (some .int)) (by decide) rfl (Nat.le_of_ble_eq_true rfl) ?_
  intro p e s m below meth c A ls H locs Qm hQm hx hb hr hml hts hown hlocks hA hS hP hK hD hF hl
  have hown : s.vm.findClass RX10 = some m.cls := hown
  have hl : lv_has ls 2 [(0, .ref (B 0)), (1, .int k)] := hl
  have k55 := hts (.fieldLink RX10 55 "PigRounds" "landed" "Z") (by decide +kernel)
  have k165 := hts (.constant RX10 165 (-1000002)) (by decide +kernel)
  have k34 := hts (.fieldLink RX10 34 "PigRounds" "trials" "LPigRounds$Trials;") (by decide +kernel)
  have k48 := hts (.fieldLink RX10 48 "PigRounds" "land" "LPigRounds$Land;") (by decide +kernel)
  have k71 := hts (.constant RX10 71 (-1000001)) (by decide +kernel)
  have iX10 : ∀ w ∈ u_ws RX10 TX10 10, w ∈ wsX10_prints := by decide +kernel
  refine lv_iload_n hx hb dX10_prints_0 rfl (lv_at hl 1 rfl) ?_
  refine lv_iconst (v := (-1)) hx hb dX10_prints_1 (by decide) ?_
  refine lv_icmp_ge (tgt := 8) hx hb dX10_prints_2 (by decide) (fun c_1 => ?_) (fun c_1 => ?_)
  · have d_1 := i_le (show ((-1) : Int32).toInt = (-1) from by decide) rfl c_1
    refine lv_aload_n hx hb dX10_prints_8 rfl (lv_at hl 0 rfl) ?_
    refine va_get (D := D) (ci := 8) (v := .int g_landed) (C := RX10) (T := TX10) (N := 10) hx hb hts iX10 hown hK hP 18 rfl rfl 7 (by decide) k55 (fun _ h9 => h9) rfl dX10_prints_9 ?_
    refine lv_if_eq (tgt := 30) hx hb dX10_prints_12 (by decide) (fun c_2 => ?_) (fun c_2 => ?_)
    · have d_2 := i_eq rfl (show (0 : Int32).toInt = 0 from by decide) c_2
      refine lv_ldc (v := (-1000002)) hx hb hown k165 dX10_prints_30 ?_
      rw [hQm]
      exact mx_iret (u0 := sX10_prints k f kv mv f2 kv2 mv2 g_landed) (rv := (fun u => some (.int u.1))) (w1 := (fun u => landW Z cK u.2.1 u.2.2.1 u.2.2.2 ++ (landW Z2 cK f2 kv2 mv2 ++ (trW V Z cI t_len t_end t_met ++ (pigW B S U Q V K Z2 Z3 g_landed g_fault g_find ++ R))))) (u := ((-1000002), f, kv, mv)) hx hb hr hlocks hK hS ((if_pos c_1).trans ((if_pos c_2).trans rfl)) hP hD rfl dX10_prints_32
    · have d_2 := i_eqn rfl (show (0 : Int32).toInt = 0 from by decide) c_2
      refine lv_aload_n hx hb dX10_prints_15 rfl (lv_at hl 0 rfl) ?_
      refine va_get (D := D) (ci := 8) (v := .ref (V 0)) (C := RX10) (T := TX10) (N := 10) hx hb hts iX10 hown hK hP 18 rfl rfl 3 (by decide) k34 (fun _ h9 => h9) rfl dX10_prints_16 ?_
      refine lv_aload_n hx hb dX10_prints_19 rfl (lv_at hl 0 rfl) ?_
      refine va_get (D := D) (ci := 8) (v := .ref (Z2 0)) (C := RX10) (T := TX10) (N := 10) hx hb hts iX10 hown hK hP 18 rfl rfl 5 (by decide) k48 (fun _ h9 => h9) rfl dX10_prints_20 ?_
      refine lv_iload_n hx hb dX10_prints_23 rfl (lv_at hl 1 rfl) ?_
      refine mx_callV (As := [.ref (Z2 0), .int k]) (rest := []) ⟨hx, hb, hml, hown, hts⟩ (mtX8_truePrint l D cI cB cK cS Z Z2 V (pigW B S U Q V K Z2 Z3 g_landed g_fault g_find ++ R) f kv mv f2 kv2 mv2 t_len t_end t_met k (by first | assumption | omega)) (cwV 2 hts gX10_prints_X8_truePrint rfl rfl rfl (by decide +kernel) ⟨Nat.le_of_ble_eq_true rfl, Nat.le_of_ble_eq_true rfl⟩) pF0_ok trivial hK hP hD hS hA 16 rfl rfl rfl rfl hl.1 rfl (Nat.le_of_ble_eq_true rfl) dX10_prints_24 ⟨Nat.le_refl _, Nat.le_refl _⟩ (fun u_3 H locs eu_3 hP hD hS => ?_)
      refine W.eq (g2 := F0 m 27 ls [.int u_3.1]) rfl ?_
      have hP : va_P D vwCl (landW Z cK u_3.2.1 u_3.2.2.1 u_3.2.2.2 ++ (landW Z2 cK f2 kv2 mv2 ++ (trW V Z cI t_len t_end t_met ++ (pigW B S U Q V K Z2 Z3 g_landed g_fault g_find ++ R)))) H := hP
      have hD : va_D A (landW Z cK u_3.2.1 u_3.2.2.1 u_3.2.2.2 ++ (landW Z2 cK f2 kv2 mv2 ++ (trW V Z cI t_len t_end t_met ++ (pigW B S U Q V K Z2 Z3 g_landed g_fault g_find ++ R)))) := hD
      refine lv_goto (tgt := 32) hx hb dX10_prints_27 (by decide) ?_
      rw [hQm]
      exact mx_iret (u0 := sX10_prints k f kv mv f2 kv2 mv2 g_landed) (rv := (fun u => some (.int u.1))) (w1 := (fun u => landW Z cK u.2.1 u.2.2.1 u.2.2.2 ++ (landW Z2 cK f2 kv2 mv2 ++ (trW V Z cI t_len t_end t_met ++ (pigW B S U Q V K Z2 Z3 g_landed g_fault g_find ++ R))))) (u := (u_3.1, u_3.2.1, u_3.2.2.1, u_3.2.2.2)) hx hb hr hlocks hK hS ((if_pos c_1).trans ((if_neg c_2).trans (lt_eq eu_3 rfl))) hP hD rfl dX10_prints_32
  · have d_1 := i_len (show ((-1) : Int32).toInt = (-1) from by decide) rfl c_1
    refine lv_ldc (v := (-1000001)) hx hb hown k71 dX10_prints_5 ?_
    rw [hQm]
    exact mx_iret (u0 := sX10_prints k f kv mv f2 kv2 mv2 g_landed) (rv := (fun u => some (.int u.1))) (w1 := (fun u => landW Z cK u.2.1 u.2.2.1 u.2.2.2 ++ (landW Z2 cK f2 kv2 mv2 ++ (trW V Z cI t_len t_end t_met ++ (pigW B S U Q V K Z2 Z3 g_landed g_fault g_find ++ R))))) (u := ((-1000001), f, kv, mv)) hx hb hr hlocks hK hS ((if_neg c_1).trans rfl) hP hD rfl dX10_prints_7

def sX10_calm (nn : Int32) (w : Int32) (f : Nat → Int32) (kv : Nat → Nat → Int32) (mv : Nat → Int32) (f2 : Nat → Int32) (kv2 : Nat → Nat → Int32) (mv2 : Nat → Int32) (g_landed : Int32) : Int32 × (Nat → Int32) × (Nat → Nat → Int32) × (Nat → Int32) := if nn < 1 then (((-1000001), f, kv, mv)) else (if 20 < nn then (((-1000001), f, kv, mv)) else (if w < 0 then (((-1000001), f, kv, mv)) else (if w ≤ 99 then (if g_landed = 0 then (((-1000002), f, kv, mv)) else (lt (sX8_cheapestCalm nn w f kv mv f2 kv2 mv2) (fun u_6 : Int32 × (Nat → Int32) × (Nat → Nat → Int32) × (Nat → Int32) => (u_6.1, u_6.2.1, u_6.2.2.1, u_6.2.2.2)))) else (((-1000001), f, kv, mv)))))
set_option maxHeartbeats 4000000 in
set_option maxRecDepth 100000 in
theorem mtX10_calm (l : Launch) (D : va_G) (cI cB cK cS : ClassId) (Z B S U Q V K Z2 Z3 : Nat → Nat) (R : va_W) (f : Nat → Int32) (kv : Nat → Nat → Int32) (mv : Nat → Int32) (f2 : Nat → Int32) (kv2 : Nat → Nat → Int32) (mv2 : Nat → Int32) (t_len : Int32) (t_end : Int32) (t_met : Nat → Int32) (g_landed : Int32) (g_fault : Int32) (g_find : Int32) (nn : Int32) (w : Int32) (hz : ∀ j, j < 5 → kv2 j 7 = 0 ∨ kv2 j 7 = 1) : MX l yX10_calm wsX10_calm (rmX 7) D (tyX cI cB cK cS) pF0 (landW Z cK f kv mv ++ (landW Z2 cK f2 kv2 mv2 ++ (trW V Z cI t_len t_end t_met ++ (pigW B S U Q V K Z2 Z3 g_landed g_fault g_find ++ R)))) [.ref (B 0), .int nn, .int w] (sX10_calm nn w f kv mv f2 kv2 mv2 g_landed) (fun u => some (.int u.1)) (fun u => landW Z cK u.2.1 u.2.2.1 u.2.2.2 ++ (landW Z2 cK f2 kv2 mv2 ++ (trW V Z cI t_len t_end t_met ++ (pigW B S U Q V K Z2 Z3 g_landed g_fault g_find ++ R)))) := by
  refine mx_intro (cc := cX10_calm) (maxL := 3) (ret := (some .int)) (by decide) rfl (Nat.le_of_ble_eq_true rfl) ?_
  intro p e s m below meth c A ls H locs Qm hQm hx hb hr hml hts hown hlocks hA hS hP hK hD hF hl
  have hown : s.vm.findClass RX10 = some m.cls := hown
  have hl : lv_has ls 3 [(0, .ref (B 0)), (1, .int nn), (2, .int w)] := hl
  have k71 := hts (.constant RX10 71 (-1000001)) (by decide +kernel)
  have k55 := hts (.fieldLink RX10 55 "PigRounds" "landed" "Z") (by decide +kernel)
  have k165 := hts (.constant RX10 165 (-1000002)) (by decide +kernel)
  have k34 := hts (.fieldLink RX10 34 "PigRounds" "trials" "LPigRounds$Trials;") (by decide +kernel)
  have k48 := hts (.fieldLink RX10 48 "PigRounds" "land" "LPigRounds$Land;") (by decide +kernel)
  have iX10 : ∀ w ∈ u_ws RX10 TX10 10, w ∈ wsX10_calm := by decide +kernel
  refine lv_iload_n hx hb dX10_calm_0 rfl (lv_at hl 1 rfl) ?_
  refine lv_iconst (v := 1) hx hb dX10_calm_1 (by decide) ?_
  refine lv_icmp_lt (tgt := 21) hx hb dX10_calm_2 (by decide) (fun c_1 => ?_) (fun c_1 => ?_)
  · have d_1 := i_lt rfl (show (1 : Int32).toInt = 1 from by decide) c_1
    refine lv_ldc (v := (-1000001)) hx hb hown k71 dX10_calm_21 ?_
    rw [hQm]
    exact mx_iret (u0 := sX10_calm nn w f kv mv f2 kv2 mv2 g_landed) (rv := (fun u => some (.int u.1))) (w1 := (fun u => landW Z cK u.2.1 u.2.2.1 u.2.2.2 ++ (landW Z2 cK f2 kv2 mv2 ++ (trW V Z cI t_len t_end t_met ++ (pigW B S U Q V K Z2 Z3 g_landed g_fault g_find ++ R))))) (u := ((-1000001), f, kv, mv)) hx hb hr hlocks hK hS ((if_pos c_1).trans rfl) hP hD rfl dX10_calm_23
  · have d_1 := i_ltn rfl (show (1 : Int32).toInt = 1 from by decide) c_1
    refine lv_iload_n hx hb dX10_calm_5 rfl (lv_at hl 1 rfl) ?_
    refine lv_bipush (v := 20) hx hb dX10_calm_6 (by decide) ?_
    refine lv_icmp_gt (tgt := 21) hx hb dX10_calm_8 (by decide) (fun c_2 => ?_) (fun c_2 => ?_)
    · have d_2 := i_lt (show (20 : Int32).toInt = 20 from by decide) rfl c_2
      refine lv_ldc (v := (-1000001)) hx hb hown k71 dX10_calm_21 ?_
      rw [hQm]
      exact mx_iret (u0 := sX10_calm nn w f kv mv f2 kv2 mv2 g_landed) (rv := (fun u => some (.int u.1))) (w1 := (fun u => landW Z cK u.2.1 u.2.2.1 u.2.2.2 ++ (landW Z2 cK f2 kv2 mv2 ++ (trW V Z cI t_len t_end t_met ++ (pigW B S U Q V K Z2 Z3 g_landed g_fault g_find ++ R))))) (u := ((-1000001), f, kv, mv)) hx hb hr hlocks hK hS ((if_neg c_1).trans ((if_pos c_2).trans rfl)) hP hD rfl dX10_calm_23
    · have d_2 := i_ltn (show (20 : Int32).toInt = 20 from by decide) rfl c_2
      refine lv_iload_n hx hb dX10_calm_11 rfl (lv_at hl 2 rfl) ?_
      refine lv_if_lt (tgt := 21) hx hb dX10_calm_12 (by decide) (fun c_3 => ?_) (fun c_3 => ?_)
      · have d_3 := i_lt rfl (show (0 : Int32).toInt = 0 from by decide) c_3
        refine lv_ldc (v := (-1000001)) hx hb hown k71 dX10_calm_21 ?_
        rw [hQm]
        exact mx_iret (u0 := sX10_calm nn w f kv mv f2 kv2 mv2 g_landed) (rv := (fun u => some (.int u.1))) (w1 := (fun u => landW Z cK u.2.1 u.2.2.1 u.2.2.2 ++ (landW Z2 cK f2 kv2 mv2 ++ (trW V Z cI t_len t_end t_met ++ (pigW B S U Q V K Z2 Z3 g_landed g_fault g_find ++ R))))) (u := ((-1000001), f, kv, mv)) hx hb hr hlocks hK hS ((if_neg c_1).trans ((if_neg c_2).trans ((if_pos c_3).trans rfl))) hP hD rfl dX10_calm_23
      · have d_3 := i_ltn rfl (show (0 : Int32).toInt = 0 from by decide) c_3
        refine lv_iload_n hx hb dX10_calm_15 rfl (lv_at hl 2 rfl) ?_
        refine lv_bipush (v := 99) hx hb dX10_calm_16 (by decide) ?_
        refine lv_icmp_le (tgt := 24) hx hb dX10_calm_18 (by decide) (fun c_4 => ?_) (fun c_4 => ?_)
        · have d_4 := i_le rfl (show (99 : Int32).toInt = 99 from by decide) c_4
          refine lv_aload_n hx hb dX10_calm_24 rfl (lv_at hl 0 rfl) ?_
          refine va_get (D := D) (ci := 8) (v := .int g_landed) (C := RX10) (T := TX10) (N := 10) hx hb hts iX10 hown hK hP 18 rfl rfl 7 (by decide) k55 (fun _ h9 => h9) rfl dX10_calm_25 ?_
          refine lv_if_eq (tgt := 47) hx hb dX10_calm_28 (by decide) (fun c_5 => ?_) (fun c_5 => ?_)
          · have d_5 := i_eq rfl (show (0 : Int32).toInt = 0 from by decide) c_5
            refine lv_ldc (v := (-1000002)) hx hb hown k165 dX10_calm_47 ?_
            rw [hQm]
            exact mx_iret (u0 := sX10_calm nn w f kv mv f2 kv2 mv2 g_landed) (rv := (fun u => some (.int u.1))) (w1 := (fun u => landW Z cK u.2.1 u.2.2.1 u.2.2.2 ++ (landW Z2 cK f2 kv2 mv2 ++ (trW V Z cI t_len t_end t_met ++ (pigW B S U Q V K Z2 Z3 g_landed g_fault g_find ++ R))))) (u := ((-1000002), f, kv, mv)) hx hb hr hlocks hK hS ((if_neg c_1).trans ((if_neg c_2).trans ((if_neg c_3).trans ((if_pos c_4).trans ((if_pos c_5).trans rfl))))) hP hD rfl dX10_calm_49
          · have d_5 := i_eqn rfl (show (0 : Int32).toInt = 0 from by decide) c_5
            refine lv_aload_n hx hb dX10_calm_31 rfl (lv_at hl 0 rfl) ?_
            refine va_get (D := D) (ci := 8) (v := .ref (V 0)) (C := RX10) (T := TX10) (N := 10) hx hb hts iX10 hown hK hP 18 rfl rfl 3 (by decide) k34 (fun _ h9 => h9) rfl dX10_calm_32 ?_
            refine lv_aload_n hx hb dX10_calm_35 rfl (lv_at hl 0 rfl) ?_
            refine va_get (D := D) (ci := 8) (v := .ref (Z2 0)) (C := RX10) (T := TX10) (N := 10) hx hb hts iX10 hown hK hP 18 rfl rfl 5 (by decide) k48 (fun _ h9 => h9) rfl dX10_calm_36 ?_
            refine lv_iload_n hx hb dX10_calm_39 rfl (lv_at hl 1 rfl) ?_
            refine lv_iload_n hx hb dX10_calm_40 rfl (lv_at hl 2 rfl) ?_
            refine mx_callV (As := [.ref (Z2 0), .int nn, .int w]) (rest := []) ⟨hx, hb, hml, hown, hts⟩ (mtX8_cheapestCalm l D cI cB cK cS Z Z2 V (pigW B S U Q V K Z2 Z3 g_landed g_fault g_find ++ R) f kv mv f2 kv2 mv2 t_len t_end t_met nn w (by first | assumption | omega) (by first | assumption | omega)) (cwV 3 hts gX10_calm_X8_cheapestCalm rfl rfl rfl (by decide +kernel) ⟨Nat.le_of_ble_eq_true rfl, Nat.le_of_ble_eq_true rfl⟩) pF0_ok trivial hK hP hD hS hA 16 rfl rfl rfl rfl hl.1 rfl (Nat.le_of_ble_eq_true rfl) dX10_calm_41 ⟨Nat.le_refl _, Nat.le_refl _⟩ (fun u_6 H locs eu_6 hP hD hS => ?_)
            refine W.eq (g2 := F0 m 44 ls [.int u_6.1]) rfl ?_
            have hP : va_P D vwCl (landW Z cK u_6.2.1 u_6.2.2.1 u_6.2.2.2 ++ (landW Z2 cK f2 kv2 mv2 ++ (trW V Z cI t_len t_end t_met ++ (pigW B S U Q V K Z2 Z3 g_landed g_fault g_find ++ R)))) H := hP
            have hD : va_D A (landW Z cK u_6.2.1 u_6.2.2.1 u_6.2.2.2 ++ (landW Z2 cK f2 kv2 mv2 ++ (trW V Z cI t_len t_end t_met ++ (pigW B S U Q V K Z2 Z3 g_landed g_fault g_find ++ R)))) := hD
            refine lv_goto (tgt := 49) hx hb dX10_calm_44 (by decide) ?_
            rw [hQm]
            exact mx_iret (u0 := sX10_calm nn w f kv mv f2 kv2 mv2 g_landed) (rv := (fun u => some (.int u.1))) (w1 := (fun u => landW Z cK u.2.1 u.2.2.1 u.2.2.2 ++ (landW Z2 cK f2 kv2 mv2 ++ (trW V Z cI t_len t_end t_met ++ (pigW B S U Q V K Z2 Z3 g_landed g_fault g_find ++ R))))) (u := (u_6.1, u_6.2.1, u_6.2.2.1, u_6.2.2.2)) hx hb hr hlocks hK hS ((if_neg c_1).trans ((if_neg c_2).trans ((if_neg c_3).trans ((if_pos c_4).trans ((if_neg c_5).trans (lt_eq eu_6 rfl)))))) hP hD rfl dX10_calm_49
        · have d_4 := i_len rfl (show (99 : Int32).toInt = 99 from by decide) c_4
          refine lv_ldc (v := (-1000001)) hx hb hown k71 dX10_calm_21 ?_
          rw [hQm]
          exact mx_iret (u0 := sX10_calm nn w f kv mv f2 kv2 mv2 g_landed) (rv := (fun u => some (.int u.1))) (w1 := (fun u => landW Z cK u.2.1 u.2.2.1 u.2.2.2 ++ (landW Z2 cK f2 kv2 mv2 ++ (trW V Z cI t_len t_end t_met ++ (pigW B S U Q V K Z2 Z3 g_landed g_fault g_find ++ R))))) (u := ((-1000001), f, kv, mv)) hx hb hr hlocks hK hS ((if_neg c_1).trans ((if_neg c_2).trans ((if_neg c_3).trans ((if_neg c_4).trans rfl)))) hP hD rfl dX10_calm_23
