def sX1_pigsBy (g : Int32) (v : Nat → Int32) : Int32 := ((v 3) + (((v 4) * g) / 10))
set_option maxHeartbeats 4000000 in
set_option maxRecDepth 100000 in
theorem mtX1_pigsBy (l : Launch) (D : va_G) (cI cB cK cS : ClassId) (ws : va_W) (h q : Nat) (v : Nat → Int32) (g : Int32) (he : ws[q]? = some (h, .inr (1, kf v))) : MX l yX1_pigsBy wsX1_pigsBy (rmX 1) D (tyX cI cB cK cS) pF0 (ws) [.ref h, .int g] (sX1_pigsBy g v) (fun u => some (.int u)) (fun _ => ws) := by
  refine mx_intro (cc := cX1_pigsBy) (maxL := 2) (ret := (some .int)) (by decide) rfl (Nat.le_of_ble_eq_true rfl) ?_
  intro p e s m below meth c A ls H locs Qm hQm hx hb hr hml hts hown hlocks hA hS hP hK hD hF hl
  have hown : s.vm.findClass RX1 = some m.cls := hown
  have hl : lv_has ls 2 [(0, .ref h), (1, .int g)] := hl
  have k21 := hts (.fieldLink RX1 21 "PigRounds$Kind" "base" "I") (by decide +kernel)
  have k24 := hts (.fieldLink RX1 24 "PigRounds$Kind" "slope" "I") (by decide +kernel)
  have iX1 : ∀ w ∈ u_ws RX1 TX1 9, w ∈ wsX1_pigsBy := by decide +kernel
  refine lv_aload_n hx hb dX1_pigsBy_0 rfl (lv_at hl 0 rfl) ?_
  refine va_get (D := D) (ci := 1) (v := .int (v 3)) (C := RX1) (T := TX1) (N := 9) hx hb hts iX1 hown hK hP q he rfl 3 (by decide) k21 (fun _ h9 => h9) rfl dX1_pigsBy_1 ?_
  refine lv_aload_n hx hb dX1_pigsBy_4 rfl (lv_at hl 0 rfl) ?_
  refine va_get (D := D) (ci := 1) (v := .int (v 4)) (C := RX1) (T := TX1) (N := 9) hx hb hts iX1 hown hK hP q he rfl 4 (by decide) k24 (fun _ h9 => h9) rfl dX1_pigsBy_5 ?_
  refine lv_iload_n hx hb dX1_pigsBy_8 rfl (lv_at hl 1 rfl) ?_
  refine lv_imul hx hb dX1_pigsBy_9 ?_
  refine lv_bipush (v := 10) hx hb dX1_pigsBy_10 (by decide) ?_
  refine lv_idiv hx hb dX1_pigsBy_12 (by decide) ?_
  refine lv_iadd hx hb dX1_pigsBy_13 ?_
  rw [hQm]
  exact mx_iret (u0 := sX1_pigsBy g v) (rv := (fun u => some (.int u))) (w1 := (fun _ => ws)) (u := ((v 3) + (((v 4) * g) / 10))) hx hb hr hlocks hK hS rfl hP hD rfl dX1_pigsBy_14

def sX1_pull (v : Nat → Int32) : Int32 := ((v 2) * (v 4))
set_option maxHeartbeats 4000000 in
set_option maxRecDepth 100000 in
theorem mtX1_pull (l : Launch) (D : va_G) (cI cB cK cS : ClassId) (ws : va_W) (h q : Nat) (v : Nat → Int32) (he : ws[q]? = some (h, .inr (1, kf v))) : MX l yX1_pull wsX1_pull (rmX 1) D (tyX cI cB cK cS) pF0 (ws) [.ref h] (sX1_pull v) (fun u => some (.int u)) (fun _ => ws) := by
  refine mx_intro (cc := cX1_pull) (maxL := 1) (ret := (some .int)) (by decide) rfl (Nat.le_of_ble_eq_true rfl) ?_
  intro p e s m below meth c A ls H locs Qm hQm hx hb hr hml hts hown hlocks hA hS hP hK hD hF hl
  have hown : s.vm.findClass RX1 = some m.cls := hown
  have hl : lv_has ls 1 [(0, .ref h)] := hl
  have k18 := hts (.fieldLink RX1 18 "PigRounds$Kind" "many" "I") (by decide +kernel)
  have k24 := hts (.fieldLink RX1 24 "PigRounds$Kind" "slope" "I") (by decide +kernel)
  have iX1 : ∀ w ∈ u_ws RX1 TX1 9, w ∈ wsX1_pull := by decide +kernel
  refine lv_aload_n hx hb dX1_pull_0 rfl (lv_at hl 0 rfl) ?_
  refine va_get (D := D) (ci := 1) (v := .int (v 2)) (C := RX1) (T := TX1) (N := 9) hx hb hts iX1 hown hK hP q he rfl 2 (by decide) k18 (fun _ h9 => h9) rfl dX1_pull_1 ?_
  refine lv_aload_n hx hb dX1_pull_4 rfl (lv_at hl 0 rfl) ?_
  refine va_get (D := D) (ci := 1) (v := .int (v 4)) (C := RX1) (T := TX1) (N := 9) hx hb hts iX1 hown hK hP q he rfl 4 (by decide) k24 (fun _ h9 => h9) rfl dX1_pull_5 ?_
  refine lv_imul hx hb dX1_pull_8 ?_
  rw [hQm]
  exact mx_iret (u0 := sX1_pull v) (rv := (fun u => some (.int u))) (w1 := (fun _ => ws)) (u := ((v 2) * (v 4))) hx hb hr hlocks hK hS rfl hP hD rfl dX1_pull_9

def sX1_earn (g : Int32) (v : Nat → Int32) : (Nat → Int32) := lt (if 0 ≤ ((v 6) + ((g * (v 8)) - (v 5))) then (0) else (1)) (fun y_1 : Int32 => (upd (upd v 6 ((v 6) + ((g * (v 8)) - (v 5)))) 7 y_1))
set_option maxHeartbeats 4000000 in
set_option maxRecDepth 100000 in
theorem mtX1_earn (l : Launch) (D : va_G) (cI cB cK cS : ClassId) (ws : va_W) (h q : Nat) (v : Nat → Int32) (g : Int32) (he : ws[q]? = some (h, .inr (1, kf v))) : MX l yX1_earn wsX1_earn (rmX 1) D (tyX cI cB cK cS) pF0 (ws) [.ref h, .int g] (sX1_earn g v) (fun _ => none) (fun u => ws.set q (h, .inr (1, kf u))) := by
  refine mx_intro (cc := cX1_earn) (maxL := 2) (ret := none) (by decide) rfl (Nat.le_of_ble_eq_true rfl) ?_
  intro p e s m below meth c A ls H locs Qm hQm hx hb hr hml hts hown hlocks hA hS hP hK hD hF hl
  have hown : s.vm.findClass RX1 = some m.cls := hown
  have hl : lv_has ls 2 [(0, .ref h), (1, .int g)] := hl
  have k30 := hts (.fieldLink RX1 30 "PigRounds$Kind" "coin" "I") (by decide +kernel)
  have k37 := hts (.fieldLink RX1 37 "PigRounds$Kind" "brought" "I") (by decide +kernel)
  have k27 := hts (.fieldLink RX1 27 "PigRounds$Kind" "rent" "I") (by decide +kernel)
  have k33 := hts (.fieldLink RX1 33 "PigRounds$Kind" "out" "Z") (by decide +kernel)
  have iX1 : ∀ w ∈ u_ws RX1 TX1 9, w ∈ wsX1_earn := by decide +kernel
  refine lv_aload_n hx hb dX1_earn_0 rfl (lv_at hl 0 rfl) ?_
  refine lv_dup hx hb dX1_earn_1 rfl ?_
  refine va_get (D := D) (ci := 1) (v := .int (v 6)) (C := RX1) (T := TX1) (N := 9) hx hb hts iX1 hown hK hP q he rfl 6 (by decide) k30 (fun _ h9 => h9) rfl dX1_earn_2 ?_
  refine lv_iload_n hx hb dX1_earn_5 rfl (lv_at hl 1 rfl) ?_
  refine lv_aload_n hx hb dX1_earn_6 rfl (lv_at hl 0 rfl) ?_
  refine va_get (D := D) (ci := 1) (v := .int (v 8)) (C := RX1) (T := TX1) (N := 9) hx hb hts iX1 hown hK hP q he rfl 8 (by decide) k37 (fun _ h9 => h9) rfl dX1_earn_7 ?_
  refine lv_imul hx hb dX1_earn_10 ?_
  refine lv_aload_n hx hb dX1_earn_11 rfl (lv_at hl 0 rfl) ?_
  refine va_get (D := D) (ci := 1) (v := .int (v 5)) (C := RX1) (T := TX1) (N := 9) hx hb hts iX1 hown hK hP q he rfl 5 (by decide) k27 (fun _ h9 => h9) rfl dX1_earn_12 ?_
  refine lv_isub hx hb dX1_earn_15 ?_
  refine lv_iadd hx hb dX1_earn_16 ?_
  refine va_put (D := D) (ci := 1) (v := .int ((v 6) + ((g * (v 8)) - (v 5)))) (ty := .int) (C := RX1) (T := TX1) (N := 9) hx hb hts iX1 tyX1 tyX1_ok nmX1 hown hK hP hD hS q he rfl 6 (by decide) k30 (fun _ h9 => h9) rfl (by decide +kernel) rfl rfl (Nat.le_of_ble_eq_true rfl) dX1_earn_17 (fun H locs hP hD hS => ?_)
  have hP : va_P D vwCl (ws.set q (h, .inr (1, kf (upd v 6 ((v 6) + ((g * (v 8)) - (v 5))))))) H := hP
  have hD : va_D A (ws.set q (h, .inr (1, kf (upd v 6 ((v 6) + ((g * (v 8)) - (v 5))))))) := hD
  refine lv_aload_n hx hb dX1_earn_20 rfl (lv_at hl 0 rfl) ?_
  refine lv_aload_n hx hb dX1_earn_21 rfl (lv_at hl 0 rfl) ?_
  refine va_get (D := D) (ci := 1) (v := .int ((v 6) + ((g * (v 8)) - (v 5)))) (C := RX1) (T := TX1) (N := 9) hx hb hts iX1 hown hK hP q (gs_same (he)) rfl 6 (by decide) k30 (fun _ h9 => h9) rfl dX1_earn_22 ?_
  have J_1 : ∀ (y_1 : Int32) (H : Heap) (locs : List Loc) (ls : Array Slot), y_1 = (if 0 ≤ ((v 6) + ((g * (v 8)) - (v 5))) then (0) else (1)) → va_P D vwCl (ws.set q (h, .inr (1, kf (upd v 6 ((v 6) + ((g * (v 8)) - (v 5))))))) H → va_D A (ws.set q (h, .inr (1, kf (upd v 6 ((v 6) + ((g * (v 8)) - (v 5))))))) → va_S A s.heap H locs → lv_has ls 2 [] → W p l e (rmX 1) s m ([.ref h, .int g] : List Value).toArray below meth c H locs 0 0 Qm (F0 m 33 ls [.int y_1, .ref h]) := by
    intro y_1 H locs ls ey_1 hP hD hS hl
    refine va_put (D := D) (ci := 1) (v := .int y_1) (ty := .boolean) (C := RX1) (T := TX1) (N := 9) hx hb hts iX1 tyX1 tyX1_ok nmX1 hown hK hP hD hS q (gs_same (he)) rfl 7 (by decide) k33 (fun _ h9 => h9) rfl (by decide +kernel) (z_narrow (by rw [ey_1]; (repeat' split) <;> simp)) (z_fits (by rw [ey_1]; (repeat' split) <;> simp)) (Nat.le_of_ble_eq_true rfl) dX1_earn_33 (fun H locs hP hD hS => ?_)
    rw [gs_set] at hP hD
    have hP : va_P D vwCl (ws.set q (h, .inr (1, kf (upd (upd v 6 ((v 6) + ((g * (v 8)) - (v 5)))) 7 y_1)))) H := hP
    have hD : va_D A (ws.set q (h, .inr (1, kf (upd (upd v 6 ((v 6) + ((g * (v 8)) - (v 5)))) 7 y_1)))) := hD
    rw [hQm]
    exact mx_vret (u0 := sX1_earn g v) (rv := (fun _ => none)) (w1 := (fun u => ws.set q (h, .inr (1, kf u)))) (u := (upd (upd v 6 ((v 6) + ((g * (v 8)) - (v 5)))) 7 y_1)) hx hb hr hlocks hK hS (lt_eq ey_1 rfl) hP hD rfl dX1_earn_36
  refine lv_if_ge (tgt := 32) hx hb dX1_earn_25 (by decide) (fun c_2 => ?_) (fun c_2 => ?_)
  · refine lv_iconst (v := 0) hx hb dX1_earn_32 (by decide) ?_
    exact J_1 0 H locs ls (Eq.symm ((if_pos c_2).trans rfl)) hP hD hS (lv_sub hl [] rfl)
  · refine lv_iconst (v := 1) hx hb dX1_earn_28 (by decide) ?_
    refine lv_goto (tgt := 33) hx hb dX1_earn_29 (by decide) ?_
    exact J_1 1 H locs ls (Eq.symm ((if_neg c_2).trans rfl)) hP hD hS (lv_sub hl [] rfl)

def sX1_takeAll (v : Nat → Int32) (v2 : Nat → Int32) : (Nat → Int32) := (upd (upd (upd (upd (upd (upd (upd (upd v 0 (v2 0)) 1 (v2 1)) 2 (v2 2)) 3 (v2 3)) 4 (v2 4)) 5 (v2 5)) 6 (v2 6)) 7 (v2 7))
set_option maxHeartbeats 4000000 in
set_option maxRecDepth 100000 in
theorem mtX1_takeAll (l : Launch) (D : va_G) (cI cB cK cS : ClassId) (ws : va_W) (h q h2 q2 : Nat) (v : Nat → Int32) (v2 : Nat → Int32) (he : ws[q]? = some (h, .inr (1, kf v))) (he2 : ws[q2]? = some (h2, .inr (1, kf v2))) (hne : q ≠ q2) (hz : v2 7 = 0 ∨ v2 7 = 1) : MX l yX1_takeAll wsX1_takeAll (rmX 1) D (tyX cI cB cK cS) pF0 (ws) [.ref h, .ref h2] (sX1_takeAll v v2) (fun _ => none) (fun u => ws.set q (h, .inr (1, kf u))) := by
  refine mx_intro (cc := cX1_takeAll) (maxL := 2) (ret := none) (by decide) rfl (Nat.le_of_ble_eq_true rfl) ?_
  intro p e s m below meth c A ls H locs Qm hQm hx hb hr hml hts hown hlocks hA hS hP hK hD hF hl
  have hown : s.vm.findClass RX1 = some m.cls := hown
  have hl : lv_has ls 2 [(0, .ref h), (1, .ref h2)] := hl
  have k9 := hts (.fieldLink RX1 9 "PigRounds$Kind" "way" "I") (by decide +kernel)
  have k15 := hts (.fieldLink RX1 15 "PigRounds$Kind" "number" "I") (by decide +kernel)
  have k18 := hts (.fieldLink RX1 18 "PigRounds$Kind" "many" "I") (by decide +kernel)
  have k21 := hts (.fieldLink RX1 21 "PigRounds$Kind" "base" "I") (by decide +kernel)
  have k24 := hts (.fieldLink RX1 24 "PigRounds$Kind" "slope" "I") (by decide +kernel)
  have k27 := hts (.fieldLink RX1 27 "PigRounds$Kind" "rent" "I") (by decide +kernel)
  have k30 := hts (.fieldLink RX1 30 "PigRounds$Kind" "coin" "I") (by decide +kernel)
  have k33 := hts (.fieldLink RX1 33 "PigRounds$Kind" "out" "Z") (by decide +kernel)
  have iX1 : ∀ w ∈ u_ws RX1 TX1 9, w ∈ wsX1_takeAll := by decide +kernel
  refine lv_aload_n hx hb dX1_takeAll_0 rfl (lv_at hl 0 rfl) ?_
  refine lv_aload_n hx hb dX1_takeAll_1 rfl (lv_at hl 1 rfl) ?_
  refine va_get (D := D) (ci := 1) (v := .int (v2 0)) (C := RX1) (T := TX1) (N := 9) hx hb hts iX1 hown hK hP q2 he2 rfl 0 (by decide) k9 (fun _ h9 => h9) rfl dX1_takeAll_2 ?_
  refine va_put (D := D) (ci := 1) (v := .int (v2 0)) (ty := .int) (C := RX1) (T := TX1) (N := 9) hx hb hts iX1 tyX1 tyX1_ok nmX1 hown hK hP hD hS q he rfl 0 (by decide) k9 (fun _ h9 => h9) rfl (by decide +kernel) rfl rfl (Nat.le_of_ble_eq_true rfl) dX1_takeAll_5 (fun H locs hP hD hS => ?_)
  have hP : va_P D vwCl (ws.set q (h, .inr (1, kf (upd v 0 (v2 0))))) H := hP
  have hD : va_D A (ws.set q (h, .inr (1, kf (upd v 0 (v2 0))))) := hD
  refine lv_aload_n hx hb dX1_takeAll_8 rfl (lv_at hl 0 rfl) ?_
  refine lv_aload_n hx hb dX1_takeAll_9 rfl (lv_at hl 1 rfl) ?_
  refine va_get (D := D) (ci := 1) (v := .int (v2 1)) (C := RX1) (T := TX1) (N := 9) hx hb hts iX1 hown hK hP q2 (gs_other hne (he2)) rfl 1 (by decide) k15 (fun _ h9 => h9) rfl dX1_takeAll_10 ?_
  refine va_put (D := D) (ci := 1) (v := .int (v2 1)) (ty := .int) (C := RX1) (T := TX1) (N := 9) hx hb hts iX1 tyX1 tyX1_ok nmX1 hown hK hP hD hS q (gs_same (he)) rfl 1 (by decide) k15 (fun _ h9 => h9) rfl (by decide +kernel) rfl rfl (Nat.le_of_ble_eq_true rfl) dX1_takeAll_13 (fun H locs hP hD hS => ?_)
  rw [gs_set] at hP hD
  have hP : va_P D vwCl (ws.set q (h, .inr (1, kf (upd (upd v 0 (v2 0)) 1 (v2 1))))) H := hP
  have hD : va_D A (ws.set q (h, .inr (1, kf (upd (upd v 0 (v2 0)) 1 (v2 1))))) := hD
  refine lv_aload_n hx hb dX1_takeAll_16 rfl (lv_at hl 0 rfl) ?_
  refine lv_aload_n hx hb dX1_takeAll_17 rfl (lv_at hl 1 rfl) ?_
  refine va_get (D := D) (ci := 1) (v := .int (v2 2)) (C := RX1) (T := TX1) (N := 9) hx hb hts iX1 hown hK hP q2 (gs_other hne (he2)) rfl 2 (by decide) k18 (fun _ h9 => h9) rfl dX1_takeAll_18 ?_
  refine va_put (D := D) (ci := 1) (v := .int (v2 2)) (ty := .int) (C := RX1) (T := TX1) (N := 9) hx hb hts iX1 tyX1 tyX1_ok nmX1 hown hK hP hD hS q (gs_same (he)) rfl 2 (by decide) k18 (fun _ h9 => h9) rfl (by decide +kernel) rfl rfl (Nat.le_of_ble_eq_true rfl) dX1_takeAll_21 (fun H locs hP hD hS => ?_)
  rw [gs_set] at hP hD
  have hP : va_P D vwCl (ws.set q (h, .inr (1, kf (upd (upd (upd v 0 (v2 0)) 1 (v2 1)) 2 (v2 2))))) H := hP
  have hD : va_D A (ws.set q (h, .inr (1, kf (upd (upd (upd v 0 (v2 0)) 1 (v2 1)) 2 (v2 2))))) := hD
  refine lv_aload_n hx hb dX1_takeAll_24 rfl (lv_at hl 0 rfl) ?_
  refine lv_aload_n hx hb dX1_takeAll_25 rfl (lv_at hl 1 rfl) ?_
  refine va_get (D := D) (ci := 1) (v := .int (v2 3)) (C := RX1) (T := TX1) (N := 9) hx hb hts iX1 hown hK hP q2 (gs_other hne (he2)) rfl 3 (by decide) k21 (fun _ h9 => h9) rfl dX1_takeAll_26 ?_
  refine va_put (D := D) (ci := 1) (v := .int (v2 3)) (ty := .int) (C := RX1) (T := TX1) (N := 9) hx hb hts iX1 tyX1 tyX1_ok nmX1 hown hK hP hD hS q (gs_same (he)) rfl 3 (by decide) k21 (fun _ h9 => h9) rfl (by decide +kernel) rfl rfl (Nat.le_of_ble_eq_true rfl) dX1_takeAll_29 (fun H locs hP hD hS => ?_)
  rw [gs_set] at hP hD
  have hP : va_P D vwCl (ws.set q (h, .inr (1, kf (upd (upd (upd (upd v 0 (v2 0)) 1 (v2 1)) 2 (v2 2)) 3 (v2 3))))) H := hP
  have hD : va_D A (ws.set q (h, .inr (1, kf (upd (upd (upd (upd v 0 (v2 0)) 1 (v2 1)) 2 (v2 2)) 3 (v2 3))))) := hD
  refine lv_aload_n hx hb dX1_takeAll_32 rfl (lv_at hl 0 rfl) ?_
  refine lv_aload_n hx hb dX1_takeAll_33 rfl (lv_at hl 1 rfl) ?_
  refine va_get (D := D) (ci := 1) (v := .int (v2 4)) (C := RX1) (T := TX1) (N := 9) hx hb hts iX1 hown hK hP q2 (gs_other hne (he2)) rfl 4 (by decide) k24 (fun _ h9 => h9) rfl dX1_takeAll_34 ?_
  refine va_put (D := D) (ci := 1) (v := .int (v2 4)) (ty := .int) (C := RX1) (T := TX1) (N := 9) hx hb hts iX1 tyX1 tyX1_ok nmX1 hown hK hP hD hS q (gs_same (he)) rfl 4 (by decide) k24 (fun _ h9 => h9) rfl (by decide +kernel) rfl rfl (Nat.le_of_ble_eq_true rfl) dX1_takeAll_37 (fun H locs hP hD hS => ?_)
  rw [gs_set] at hP hD
  have hP : va_P D vwCl (ws.set q (h, .inr (1, kf (upd (upd (upd (upd (upd v 0 (v2 0)) 1 (v2 1)) 2 (v2 2)) 3 (v2 3)) 4 (v2 4))))) H := hP
  have hD : va_D A (ws.set q (h, .inr (1, kf (upd (upd (upd (upd (upd v 0 (v2 0)) 1 (v2 1)) 2 (v2 2)) 3 (v2 3)) 4 (v2 4))))) := hD
  refine lv_aload_n hx hb dX1_takeAll_40 rfl (lv_at hl 0 rfl) ?_
  refine lv_aload_n hx hb dX1_takeAll_41 rfl (lv_at hl 1 rfl) ?_
  refine va_get (D := D) (ci := 1) (v := .int (v2 5)) (C := RX1) (T := TX1) (N := 9) hx hb hts iX1 hown hK hP q2 (gs_other hne (he2)) rfl 5 (by decide) k27 (fun _ h9 => h9) rfl dX1_takeAll_42 ?_
  refine va_put (D := D) (ci := 1) (v := .int (v2 5)) (ty := .int) (C := RX1) (T := TX1) (N := 9) hx hb hts iX1 tyX1 tyX1_ok nmX1 hown hK hP hD hS q (gs_same (he)) rfl 5 (by decide) k27 (fun _ h9 => h9) rfl (by decide +kernel) rfl rfl (Nat.le_of_ble_eq_true rfl) dX1_takeAll_45 (fun H locs hP hD hS => ?_)
  rw [gs_set] at hP hD
  have hP : va_P D vwCl (ws.set q (h, .inr (1, kf (upd (upd (upd (upd (upd (upd v 0 (v2 0)) 1 (v2 1)) 2 (v2 2)) 3 (v2 3)) 4 (v2 4)) 5 (v2 5))))) H := hP
  have hD : va_D A (ws.set q (h, .inr (1, kf (upd (upd (upd (upd (upd (upd v 0 (v2 0)) 1 (v2 1)) 2 (v2 2)) 3 (v2 3)) 4 (v2 4)) 5 (v2 5))))) := hD
  refine lv_aload_n hx hb dX1_takeAll_48 rfl (lv_at hl 0 rfl) ?_
  refine lv_aload_n hx hb dX1_takeAll_49 rfl (lv_at hl 1 rfl) ?_
  refine va_get (D := D) (ci := 1) (v := .int (v2 6)) (C := RX1) (T := TX1) (N := 9) hx hb hts iX1 hown hK hP q2 (gs_other hne (he2)) rfl 6 (by decide) k30 (fun _ h9 => h9) rfl dX1_takeAll_50 ?_
  refine va_put (D := D) (ci := 1) (v := .int (v2 6)) (ty := .int) (C := RX1) (T := TX1) (N := 9) hx hb hts iX1 tyX1 tyX1_ok nmX1 hown hK hP hD hS q (gs_same (he)) rfl 6 (by decide) k30 (fun _ h9 => h9) rfl (by decide +kernel) rfl rfl (Nat.le_of_ble_eq_true rfl) dX1_takeAll_53 (fun H locs hP hD hS => ?_)
  rw [gs_set] at hP hD
  have hP : va_P D vwCl (ws.set q (h, .inr (1, kf (upd (upd (upd (upd (upd (upd (upd v 0 (v2 0)) 1 (v2 1)) 2 (v2 2)) 3 (v2 3)) 4 (v2 4)) 5 (v2 5)) 6 (v2 6))))) H := hP
  have hD : va_D A (ws.set q (h, .inr (1, kf (upd (upd (upd (upd (upd (upd (upd v 0 (v2 0)) 1 (v2 1)) 2 (v2 2)) 3 (v2 3)) 4 (v2 4)) 5 (v2 5)) 6 (v2 6))))) := hD
  refine lv_aload_n hx hb dX1_takeAll_56 rfl (lv_at hl 0 rfl) ?_
  refine lv_aload_n hx hb dX1_takeAll_57 rfl (lv_at hl 1 rfl) ?_
  refine va_get (D := D) (ci := 1) (v := .int (v2 7)) (C := RX1) (T := TX1) (N := 9) hx hb hts iX1 hown hK hP q2 (gs_other hne (he2)) rfl 7 (by decide) k33 (fun _ h9 => h9) rfl dX1_takeAll_58 ?_
  refine va_put (D := D) (ci := 1) (v := .int (v2 7)) (ty := .boolean) (C := RX1) (T := TX1) (N := 9) hx hb hts iX1 tyX1 tyX1_ok nmX1 hown hK hP hD hS q (gs_same (he)) rfl 7 (by decide) k33 (fun _ h9 => h9) rfl (by decide +kernel) (z_narrow hz) (z_fits hz) (Nat.le_of_ble_eq_true rfl) dX1_takeAll_61 (fun H locs hP hD hS => ?_)
  rw [gs_set] at hP hD
  have hP : va_P D vwCl (ws.set q (h, .inr (1, kf (upd (upd (upd (upd (upd (upd (upd (upd v 0 (v2 0)) 1 (v2 1)) 2 (v2 2)) 3 (v2 3)) 4 (v2 4)) 5 (v2 5)) 6 (v2 6)) 7 (v2 7))))) H := hP
  have hD : va_D A (ws.set q (h, .inr (1, kf (upd (upd (upd (upd (upd (upd (upd (upd v 0 (v2 0)) 1 (v2 1)) 2 (v2 2)) 3 (v2 3)) 4 (v2 4)) 5 (v2 5)) 6 (v2 6)) 7 (v2 7))))) := hD
  rw [hQm]
  exact mx_vret (u0 := sX1_takeAll v v2) (rv := (fun _ => none)) (w1 := (fun u => ws.set q (h, .inr (1, kf u)))) (u := (upd (upd (upd (upd (upd (upd (upd (upd v 0 (v2 0)) 1 (v2 1)) 2 (v2 2)) 3 (v2 3)) 4 (v2 4)) 5 (v2 5)) 6 (v2 6)) 7 (v2 7))) hx hb hr hlocks hK hS rfl hP hD rfl dX1_takeAll_64

def sX3_order (a : Int32) (b : Int32) (d : Int32) (v : Nat → Int32) : (Nat → Int32) := (upd (upd (upd v 0 a) 1 b) 2 d)
set_option maxHeartbeats 4000000 in
set_option maxRecDepth 100000 in
theorem mtX3_order (l : Launch) (D : va_G) (cI cB cK cS : ClassId) (ws : va_W) (h q : Nat) (v : Nat → Int32) (a : Int32) (b : Int32) (d : Int32) (he : ws[q]? = some (h, .inr (3, mf v))) : MX l yX3_order wsX3_order (rmX 1) D (tyX cI cB cK cS) pF0 (ws) [.ref h, .int a, .int b, .int d] (sX3_order a b d v) (fun _ => none) (fun u => ws.set q (h, .inr (3, mf u))) := by
  refine mx_intro (cc := cX3_order) (maxL := 4) (ret := none) (by decide) rfl (Nat.le_of_ble_eq_true rfl) ?_
  intro p e s m below meth c A ls H locs Qm hQm hx hb hr hml hts hown hlocks hA hS hP hK hD hF hl
  have hown : s.vm.findClass RX3 = some m.cls := hown
  have hl : lv_has ls 4 [(0, .ref h), (1, .int a), (2, .int b), (3, .int d)] := hl
  have k7 := hts (.fieldLink RX3 7 "PigRounds$Ministry" "low" "I") (by decide +kernel)
  have k13 := hts (.fieldLink RX3 13 "PigRounds$Ministry" "high" "I") (by decide +kernel)
  have k16 := hts (.fieldLink RX3 16 "PigRounds$Ministry" "lot" "I") (by decide +kernel)
  have iX3 : ∀ w ∈ u_ws RX3 TX3 5, w ∈ wsX3_order := by decide +kernel
  refine lv_aload_n hx hb dX3_order_0 rfl (lv_at hl 0 rfl) ?_
  refine lv_iload_n hx hb dX3_order_1 rfl (lv_at hl 1 rfl) ?_
  refine va_put (D := D) (ci := 3) (v := .int a) (ty := .int) (C := RX3) (T := TX3) (N := 5) hx hb hts iX3 tyX3 tyX3_ok nmX3 hown hK hP hD hS q he rfl 0 (by decide) k7 (fun _ h9 => h9) rfl (by decide +kernel) rfl rfl (Nat.le_of_ble_eq_true rfl) dX3_order_2 (fun H locs hP hD hS => ?_)
  have hP : va_P D vwCl (ws.set q (h, .inr (3, mf (upd v 0 a)))) H := hP
  have hD : va_D A (ws.set q (h, .inr (3, mf (upd v 0 a)))) := hD
  refine lv_aload_n hx hb dX3_order_5 rfl (lv_at hl 0 rfl) ?_
  refine lv_iload_n hx hb dX3_order_6 rfl (lv_at hl 2 rfl) ?_
  refine va_put (D := D) (ci := 3) (v := .int b) (ty := .int) (C := RX3) (T := TX3) (N := 5) hx hb hts iX3 tyX3 tyX3_ok nmX3 hown hK hP hD hS q (gs_same (he)) rfl 1 (by decide) k13 (fun _ h9 => h9) rfl (by decide +kernel) rfl rfl (Nat.le_of_ble_eq_true rfl) dX3_order_7 (fun H locs hP hD hS => ?_)
  rw [gs_set] at hP hD
  have hP : va_P D vwCl (ws.set q (h, .inr (3, mf (upd (upd v 0 a) 1 b)))) H := hP
  have hD : va_D A (ws.set q (h, .inr (3, mf (upd (upd v 0 a) 1 b)))) := hD
  refine lv_aload_n hx hb dX3_order_10 rfl (lv_at hl 0 rfl) ?_
  refine lv_iload_n hx hb dX3_order_11 rfl (lv_at hl 3 rfl) ?_
  refine va_put (D := D) (ci := 3) (v := .int d) (ty := .int) (C := RX3) (T := TX3) (N := 5) hx hb hts iX3 tyX3 tyX3_ok nmX3 hown hK hP hD hS q (gs_same (he)) rfl 2 (by decide) k16 (fun _ h9 => h9) rfl (by decide +kernel) rfl rfl (Nat.le_of_ble_eq_true rfl) dX3_order_12 (fun H locs hP hD hS => ?_)
  rw [gs_set] at hP hD
  have hP : va_P D vwCl (ws.set q (h, .inr (3, mf (upd (upd (upd v 0 a) 1 b) 2 d)))) H := hP
  have hD : va_D A (ws.set q (h, .inr (3, mf (upd (upd (upd v 0 a) 1 b) 2 d)))) := hD
  rw [hQm]
  exact mx_vret (u0 := sX3_order a b d v) (rv := (fun _ => none)) (w1 := (fun u => ws.set q (h, .inr (3, mf u)))) (u := (upd (upd (upd v 0 a) 1 b) 2 d)) hx hb hr hlocks hK hS rfl hP hD rfl dX3_order_15

def sX3_forget (v : Nat → Int32) : (Nat → Int32) := (upd (upd v 3 0) 4 0)
set_option maxHeartbeats 4000000 in
set_option maxRecDepth 100000 in
theorem mtX3_forget (l : Launch) (D : va_G) (cI cB cK cS : ClassId) (ws : va_W) (h q : Nat) (v : Nat → Int32) (he : ws[q]? = some (h, .inr (3, mf v))) : MX l yX3_forget wsX3_forget (rmX 1) D (tyX cI cB cK cS) pF0 (ws) [.ref h] (sX3_forget v) (fun _ => none) (fun u => ws.set q (h, .inr (3, mf u))) := by
  refine mx_intro (cc := cX3_forget) (maxL := 1) (ret := none) (by decide) rfl (Nat.le_of_ble_eq_true rfl) ?_
  intro p e s m below meth c A ls H locs Qm hQm hx hb hr hml hts hown hlocks hA hS hP hK hD hF hl
  have hown : s.vm.findClass RX3 = some m.cls := hown
  have hl : lv_has ls 1 [(0, .ref h)] := hl
  have k19 := hts (.fieldLink RX3 19 "PigRounds$Ministry" "stock" "I") (by decide +kernel)
  have k22 := hts (.fieldLink RX3 22 "PigRounds$Ministry" "cost" "I") (by decide +kernel)
  have iX3 : ∀ w ∈ u_ws RX3 TX3 5, w ∈ wsX3_forget := by decide +kernel
  refine lv_aload_n hx hb dX3_forget_0 rfl (lv_at hl 0 rfl) ?_
  refine lv_iconst (v := 0) hx hb dX3_forget_1 (by decide) ?_
  refine va_put (D := D) (ci := 3) (v := .int 0) (ty := .int) (C := RX3) (T := TX3) (N := 5) hx hb hts iX3 tyX3 tyX3_ok nmX3 hown hK hP hD hS q he rfl 3 (by decide) k19 (fun _ h9 => h9) rfl (by decide +kernel) rfl rfl (Nat.le_of_ble_eq_true rfl) dX3_forget_2 (fun H locs hP hD hS => ?_)
  have hP : va_P D vwCl (ws.set q (h, .inr (3, mf (upd v 3 0)))) H := hP
  have hD : va_D A (ws.set q (h, .inr (3, mf (upd v 3 0)))) := hD
  refine lv_aload_n hx hb dX3_forget_5 rfl (lv_at hl 0 rfl) ?_
  refine lv_iconst (v := 0) hx hb dX3_forget_6 (by decide) ?_
  refine va_put (D := D) (ci := 3) (v := .int 0) (ty := .int) (C := RX3) (T := TX3) (N := 5) hx hb hts iX3 tyX3 tyX3_ok nmX3 hown hK hP hD hS q (gs_same (he)) rfl 4 (by decide) k22 (fun _ h9 => h9) rfl (by decide +kernel) rfl rfl (Nat.le_of_ble_eq_true rfl) dX3_forget_7 (fun H locs hP hD hS => ?_)
  rw [gs_set] at hP hD
  have hP : va_P D vwCl (ws.set q (h, .inr (3, mf (upd (upd v 3 0) 4 0)))) H := hP
  have hD : va_D A (ws.set q (h, .inr (3, mf (upd (upd v 3 0) 4 0)))) := hD
  rw [hQm]
  exact mx_vret (u0 := sX3_forget v) (rv := (fun _ => none)) (w1 := (fun u => ws.set q (h, .inr (3, mf u)))) (u := (upd (upd v 3 0) 4 0)) hx hb hr hlocks hK hS rfl hP hD rfl dX3_forget_10

def sX3_dealAt (a : Int32) (b : Int32) (v : Nat → Int32) : Int32 := if (v 2) ≤ 0 then (if (v 2) ≤ 0 then ((0)) else (if a ≤ (v 1) then ((0)) else (lt (if (v 3) < (v 2) then (v 3) else (v 2)) (fun x_4 : Int32 => (-x_4))))) else (if (v 0) ≤ a then (if (v 2) ≤ 0 then ((0)) else (if a ≤ (v 1) then ((0)) else (lt (if (v 3) < (v 2) then (v 3) else (v 2)) (fun x_8 : Int32 => (-x_8))))) else (lt (if b < (v 2) then b else (v 2)) (fun x_9 : Int32 => (x_9))))
set_option maxHeartbeats 4000000 in
set_option maxRecDepth 100000 in
theorem mtX3_dealAt (l : Launch) (D : va_G) (cI cB cK cS : ClassId) (ws : va_W) (h q : Nat) (v : Nat → Int32) (a : Int32) (b : Int32) (he : ws[q]? = some (h, .inr (3, mf v))) : MX l yX3_dealAt wsX3_dealAt (rmX 2) D (tyX cI cB cK cS) pF0 (ws) [.ref h, .int a, .int b] (sX3_dealAt a b v) (fun u => some (.int u)) (fun _ => ws) := by
  refine mx_intro (cc := cX3_dealAt) (maxL := 3) (ret := (some .int)) (by decide) rfl (Nat.le_of_ble_eq_true rfl) ?_
  intro p e s m below meth c A ls H locs Qm hQm hx hb hr hml hts hown hlocks hA hS hP hK hD hF hl
  have hown : s.vm.findClass RX3 = some m.cls := hown
  have hl : lv_has ls 3 [(0, .ref h), (1, .int a), (2, .int b)] := hl
  have k16 := hts (.fieldLink RX3 16 "PigRounds$Ministry" "lot" "I") (by decide +kernel)
  have k13 := hts (.fieldLink RX3 13 "PigRounds$Ministry" "high" "I") (by decide +kernel)
  have k19 := hts (.fieldLink RX3 19 "PigRounds$Ministry" "stock" "I") (by decide +kernel)
  have k29 := hts (.methodLink RX3 29 Lib.Math.min.name) (by decide +kernel)
  have kS_min := hts (.static Lib.Math.min.name) (by decide +kernel)
  have kI_math := hts (.initialized "java/lang/Math") (by decide +kernel)
  have kC_min := hts (.code Lib.Math.min.name Lib.Math.min.code 2 (some .int)) (by decide +kernel)
  have k7 := hts (.fieldLink RX3 7 "PigRounds$Ministry" "low" "I") (by decide +kernel)
  have iX3 : ∀ w ∈ u_ws RX3 TX3 5, w ∈ wsX3_dealAt := by decide +kernel
  refine lv_aload_n hx hb dX3_dealAt_0 rfl (lv_at hl 0 rfl) ?_
  refine va_get (D := D) (ci := 3) (v := .int (v 2)) (C := RX3) (T := TX3) (N := 5) hx hb hts iX3 hown hK hP q he rfl 2 (by decide) k16 (fun _ h9 => h9) rfl dX3_dealAt_1 ?_
  refine lv_if_le (tgt := 24) hx hb dX3_dealAt_4 (by decide) (fun c_1 => ?_) (fun c_1 => ?_)
  · refine lv_aload_n hx hb dX3_dealAt_24 rfl (lv_at hl 0 rfl) ?_
    refine va_get (D := D) (ci := 3) (v := .int (v 2)) (C := RX3) (T := TX3) (N := 5) hx hb hts iX3 hown hK hP q he rfl 2 (by decide) k16 (fun _ h9 => h9) rfl dX3_dealAt_25 ?_
    refine lv_if_le (tgt := 52) hx hb dX3_dealAt_28 (by decide) (fun c_2 => ?_) (fun c_2 => ?_)
    · refine lv_iconst (v := 0) hx hb dX3_dealAt_52 (by decide) ?_
      rw [hQm]
      exact mx_iret (u0 := sX3_dealAt a b v) (rv := (fun u => some (.int u))) (w1 := (fun _ => ws)) (u := (0)) hx hb hr hlocks hK hS ((if_pos c_1).trans ((if_pos c_2).trans rfl)) hP hD rfl dX3_dealAt_53
    · refine lv_iload_n hx hb dX3_dealAt_31 rfl (lv_at hl 1 rfl) ?_
      refine lv_aload_n hx hb dX3_dealAt_32 rfl (lv_at hl 0 rfl) ?_
      refine va_get (D := D) (ci := 3) (v := .int (v 1)) (C := RX3) (T := TX3) (N := 5) hx hb hts iX3 hown hK hP q he rfl 1 (by decide) k13 (fun _ h9 => h9) rfl dX3_dealAt_33 ?_
      refine lv_icmp_le (tgt := 52) hx hb dX3_dealAt_36 (by decide) (fun c_3 => ?_) (fun c_3 => ?_)
      · refine lv_iconst (v := 0) hx hb dX3_dealAt_52 (by decide) ?_
        rw [hQm]
        exact mx_iret (u0 := sX3_dealAt a b v) (rv := (fun u => some (.int u))) (w1 := (fun _ => ws)) (u := (0)) hx hb hr hlocks hK hS ((if_pos c_1).trans ((if_neg c_2).trans ((if_pos c_3).trans rfl))) hP hD rfl dX3_dealAt_53
      · refine lv_aload_n hx hb dX3_dealAt_39 rfl (lv_at hl 0 rfl) ?_
        refine va_get (D := D) (ci := 3) (v := .int (v 2)) (C := RX3) (T := TX3) (N := 5) hx hb hts iX3 hown hK hP q he rfl 2 (by decide) k16 (fun _ h9 => h9) rfl dX3_dealAt_40 ?_
        refine lv_aload_n hx hb dX3_dealAt_43 rfl (lv_at hl 0 rfl) ?_
        refine va_get (D := D) (ci := 3) (v := .int (v 3)) (C := RX3) (T := TX3) (N := 5) hx hb hts iX3 hown hK hP q he rfl 3 (by decide) k19 (fun _ h9 => h9) rfl dX3_dealAt_44 ?_
        refine va_mmin hx hb (by rw [hml]; exact hl.1.symm) hown k29 kS_min kI_math kC_min (Nat.le_of_ble_eq_true rfl) (Nat.le_of_ble_eq_true rfl) (Nat.le_refl _) (Nat.le_refl _) dX3_dealAt_47 ?_
        refine lv_topi (fun x_4 ex_4 => ?_)
        refine lv_ineg hx hb dX3_dealAt_50 ?_
        rw [hQm]
        exact mx_iret (u0 := sX3_dealAt a b v) (rv := (fun u => some (.int u))) (w1 := (fun _ => ws)) (u := (-x_4)) hx hb hr hlocks hK hS ((if_pos c_1).trans ((if_neg c_2).trans ((if_neg c_3).trans (lt_eq ex_4 rfl)))) hP hD rfl dX3_dealAt_51
  · refine lv_iload_n hx hb dX3_dealAt_7 rfl (lv_at hl 1 rfl) ?_
    refine lv_aload_n hx hb dX3_dealAt_8 rfl (lv_at hl 0 rfl) ?_
    refine va_get (D := D) (ci := 3) (v := .int (v 0)) (C := RX3) (T := TX3) (N := 5) hx hb hts iX3 hown hK hP q he rfl 0 (by decide) k7 (fun _ h9 => h9) rfl dX3_dealAt_9 ?_
    refine lv_icmp_ge (tgt := 24) hx hb dX3_dealAt_12 (by decide) (fun c_5 => ?_) (fun c_5 => ?_)
    · refine lv_aload_n hx hb dX3_dealAt_24 rfl (lv_at hl 0 rfl) ?_
      refine va_get (D := D) (ci := 3) (v := .int (v 2)) (C := RX3) (T := TX3) (N := 5) hx hb hts iX3 hown hK hP q he rfl 2 (by decide) k16 (fun _ h9 => h9) rfl dX3_dealAt_25 ?_
      refine lv_if_le (tgt := 52) hx hb dX3_dealAt_28 (by decide) (fun c_6 => ?_) (fun c_6 => ?_)
      · refine lv_iconst (v := 0) hx hb dX3_dealAt_52 (by decide) ?_
        rw [hQm]
        exact mx_iret (u0 := sX3_dealAt a b v) (rv := (fun u => some (.int u))) (w1 := (fun _ => ws)) (u := (0)) hx hb hr hlocks hK hS ((if_neg c_1).trans ((if_pos c_5).trans ((if_pos c_6).trans rfl))) hP hD rfl dX3_dealAt_53
      · refine lv_iload_n hx hb dX3_dealAt_31 rfl (lv_at hl 1 rfl) ?_
        refine lv_aload_n hx hb dX3_dealAt_32 rfl (lv_at hl 0 rfl) ?_
        refine va_get (D := D) (ci := 3) (v := .int (v 1)) (C := RX3) (T := TX3) (N := 5) hx hb hts iX3 hown hK hP q he rfl 1 (by decide) k13 (fun _ h9 => h9) rfl dX3_dealAt_33 ?_
        refine lv_icmp_le (tgt := 52) hx hb dX3_dealAt_36 (by decide) (fun c_7 => ?_) (fun c_7 => ?_)
        · refine lv_iconst (v := 0) hx hb dX3_dealAt_52 (by decide) ?_
          rw [hQm]
          exact mx_iret (u0 := sX3_dealAt a b v) (rv := (fun u => some (.int u))) (w1 := (fun _ => ws)) (u := (0)) hx hb hr hlocks hK hS ((if_neg c_1).trans ((if_pos c_5).trans ((if_neg c_6).trans ((if_pos c_7).trans rfl)))) hP hD rfl dX3_dealAt_53
        · refine lv_aload_n hx hb dX3_dealAt_39 rfl (lv_at hl 0 rfl) ?_
          refine va_get (D := D) (ci := 3) (v := .int (v 2)) (C := RX3) (T := TX3) (N := 5) hx hb hts iX3 hown hK hP q he rfl 2 (by decide) k16 (fun _ h9 => h9) rfl dX3_dealAt_40 ?_
          refine lv_aload_n hx hb dX3_dealAt_43 rfl (lv_at hl 0 rfl) ?_
          refine va_get (D := D) (ci := 3) (v := .int (v 3)) (C := RX3) (T := TX3) (N := 5) hx hb hts iX3 hown hK hP q he rfl 3 (by decide) k19 (fun _ h9 => h9) rfl dX3_dealAt_44 ?_
          refine va_mmin hx hb (by rw [hml]; exact hl.1.symm) hown k29 kS_min kI_math kC_min (Nat.le_of_ble_eq_true rfl) (Nat.le_of_ble_eq_true rfl) (Nat.le_refl _) (Nat.le_refl _) dX3_dealAt_47 ?_
          refine lv_topi (fun x_8 ex_8 => ?_)
          refine lv_ineg hx hb dX3_dealAt_50 ?_
          rw [hQm]
          exact mx_iret (u0 := sX3_dealAt a b v) (rv := (fun u => some (.int u))) (w1 := (fun _ => ws)) (u := (-x_8)) hx hb hr hlocks hK hS ((if_neg c_1).trans ((if_pos c_5).trans ((if_neg c_6).trans ((if_neg c_7).trans (lt_eq ex_8 rfl))))) hP hD rfl dX3_dealAt_51
    · refine lv_aload_n hx hb dX3_dealAt_15 rfl (lv_at hl 0 rfl) ?_
      refine va_get (D := D) (ci := 3) (v := .int (v 2)) (C := RX3) (T := TX3) (N := 5) hx hb hts iX3 hown hK hP q he rfl 2 (by decide) k16 (fun _ h9 => h9) rfl dX3_dealAt_16 ?_
      refine lv_iload_n hx hb dX3_dealAt_19 rfl (lv_at hl 2 rfl) ?_
      refine va_mmin hx hb (by rw [hml]; exact hl.1.symm) hown k29 kS_min kI_math kC_min (Nat.le_of_ble_eq_true rfl) (Nat.le_of_ble_eq_true rfl) (Nat.le_refl _) (Nat.le_refl _) dX3_dealAt_20 ?_
      refine lv_topi (fun x_9 ex_9 => ?_)
      rw [hQm]
      exact mx_iret (u0 := sX3_dealAt a b v) (rv := (fun u => some (.int u))) (w1 := (fun _ => ws)) (u := (x_9)) hx hb hr hlocks hK hS ((if_neg c_1).trans ((if_neg c_5).trans (lt_eq ex_9 rfl))) hP hD rfl dX3_dealAt_23

def sX3_settle (a : Int32) (b : Int32) (v : Nat → Int32) : (Nat → Int32) := (upd (upd v 3 ((v 3) + a)) 4 ((v 4) + (a * b)))
set_option maxHeartbeats 4000000 in
set_option maxRecDepth 100000 in
theorem mtX3_settle (l : Launch) (D : va_G) (cI cB cK cS : ClassId) (ws : va_W) (h q : Nat) (v : Nat → Int32) (a : Int32) (b : Int32) (he : ws[q]? = some (h, .inr (3, mf v))) : MX l yX3_settle wsX3_settle (rmX 1) D (tyX cI cB cK cS) pF0 (ws) [.ref h, .int a, .int b] (sX3_settle a b v) (fun _ => none) (fun u => ws.set q (h, .inr (3, mf u))) := by
  refine mx_intro (cc := cX3_settle) (maxL := 3) (ret := none) (by decide) rfl (Nat.le_of_ble_eq_true rfl) ?_
  intro p e s m below meth c A ls H locs Qm hQm hx hb hr hml hts hown hlocks hA hS hP hK hD hF hl
  have hown : s.vm.findClass RX3 = some m.cls := hown
  have hl : lv_has ls 3 [(0, .ref h), (1, .int a), (2, .int b)] := hl
  have k19 := hts (.fieldLink RX3 19 "PigRounds$Ministry" "stock" "I") (by decide +kernel)
  have k22 := hts (.fieldLink RX3 22 "PigRounds$Ministry" "cost" "I") (by decide +kernel)
  have iX3 : ∀ w ∈ u_ws RX3 TX3 5, w ∈ wsX3_settle := by decide +kernel
  refine lv_aload_n hx hb dX3_settle_0 rfl (lv_at hl 0 rfl) ?_
  refine lv_dup hx hb dX3_settle_1 rfl ?_
  refine va_get (D := D) (ci := 3) (v := .int (v 3)) (C := RX3) (T := TX3) (N := 5) hx hb hts iX3 hown hK hP q he rfl 3 (by decide) k19 (fun _ h9 => h9) rfl dX3_settle_2 ?_
  refine lv_iload_n hx hb dX3_settle_5 rfl (lv_at hl 1 rfl) ?_
  refine lv_iadd hx hb dX3_settle_6 ?_
  refine va_put (D := D) (ci := 3) (v := .int ((v 3) + a)) (ty := .int) (C := RX3) (T := TX3) (N := 5) hx hb hts iX3 tyX3 tyX3_ok nmX3 hown hK hP hD hS q he rfl 3 (by decide) k19 (fun _ h9 => h9) rfl (by decide +kernel) rfl rfl (Nat.le_of_ble_eq_true rfl) dX3_settle_7 (fun H locs hP hD hS => ?_)
  have hP : va_P D vwCl (ws.set q (h, .inr (3, mf (upd v 3 ((v 3) + a))))) H := hP
  have hD : va_D A (ws.set q (h, .inr (3, mf (upd v 3 ((v 3) + a))))) := hD
  refine lv_aload_n hx hb dX3_settle_10 rfl (lv_at hl 0 rfl) ?_
  refine lv_dup hx hb dX3_settle_11 rfl ?_
  refine va_get (D := D) (ci := 3) (v := .int (v 4)) (C := RX3) (T := TX3) (N := 5) hx hb hts iX3 hown hK hP q (gs_same (he)) rfl 4 (by decide) k22 (fun _ h9 => h9) rfl dX3_settle_12 ?_
  refine lv_iload_n hx hb dX3_settle_15 rfl (lv_at hl 1 rfl) ?_
  refine lv_iload_n hx hb dX3_settle_16 rfl (lv_at hl 2 rfl) ?_
  refine lv_imul hx hb dX3_settle_17 ?_
  refine lv_iadd hx hb dX3_settle_18 ?_
  refine va_put (D := D) (ci := 3) (v := .int ((v 4) + (a * b))) (ty := .int) (C := RX3) (T := TX3) (N := 5) hx hb hts iX3 tyX3 tyX3_ok nmX3 hown hK hP hD hS q (gs_same (he)) rfl 4 (by decide) k22 (fun _ h9 => h9) rfl (by decide +kernel) rfl rfl (Nat.le_of_ble_eq_true rfl) dX3_settle_19 (fun H locs hP hD hS => ?_)
  rw [gs_set] at hP hD
  have hP : va_P D vwCl (ws.set q (h, .inr (3, mf (upd (upd v 3 ((v 3) + a)) 4 ((v 4) + (a * b)))))) H := hP
  have hD : va_D A (ws.set q (h, .inr (3, mf (upd (upd v 3 ((v 3) + a)) 4 ((v 4) + (a * b)))))) := hD
  rw [hQm]
  exact mx_vret (u0 := sX3_settle a b v) (rv := (fun _ => none)) (w1 := (fun u => ws.set q (h, .inr (3, mf u)))) (u := (upd (upd v 3 ((v 3) + a)) 4 ((v 4) + (a * b)))) hx hb hr hlocks hK hS rfl hP hD rfl dX3_settle_22

def sX3_takeAll (v : Nat → Int32) (v2 : Nat → Int32) : (Nat → Int32) := lt (sX3_order (v2 0) (v2 1) (v2 2) v) (fun u_1 : (Nat → Int32) => (upd (upd u_1 3 (v2 3)) 4 (v2 4)))
set_option maxHeartbeats 4000000 in
set_option maxRecDepth 100000 in
theorem mtX3_takeAll (l : Launch) (D : va_G) (cI cB cK cS : ClassId) (ws : va_W) (h q h2 q2 : Nat) (v : Nat → Int32) (v2 : Nat → Int32) (he : ws[q]? = some (h, .inr (3, mf v))) (he2 : ws[q2]? = some (h2, .inr (3, mf v2))) (hne : q ≠ q2) : MX l yX3_takeAll wsX3_takeAll (rmX 2) D (tyX cI cB cK cS) pF0 (ws) [.ref h, .ref h2] (sX3_takeAll v v2) (fun _ => none) (fun u => ws.set q (h, .inr (3, mf u))) := by
  refine mx_intro (cc := cX3_takeAll) (maxL := 2) (ret := none) (by decide) rfl (Nat.le_of_ble_eq_true rfl) ?_
  intro p e s m below meth c A ls H locs Qm hQm hx hb hr hml hts hown hlocks hA hS hP hK hD hF hl
  have hown : s.vm.findClass RX3 = some m.cls := hown
  have hl : lv_has ls 2 [(0, .ref h), (1, .ref h2)] := hl
  have k7 := hts (.fieldLink RX3 7 "PigRounds$Ministry" "low" "I") (by decide +kernel)
  have k13 := hts (.fieldLink RX3 13 "PigRounds$Ministry" "high" "I") (by decide +kernel)
  have k16 := hts (.fieldLink RX3 16 "PigRounds$Ministry" "lot" "I") (by decide +kernel)
  have k19 := hts (.fieldLink RX3 19 "PigRounds$Ministry" "stock" "I") (by decide +kernel)
  have k22 := hts (.fieldLink RX3 22 "PigRounds$Ministry" "cost" "I") (by decide +kernel)
  have iX3 : ∀ w ∈ u_ws RX3 TX3 5, w ∈ wsX3_takeAll := by decide +kernel
  refine lv_aload_n hx hb dX3_takeAll_0 rfl (lv_at hl 0 rfl) ?_
  refine lv_aload_n hx hb dX3_takeAll_1 rfl (lv_at hl 1 rfl) ?_
  refine va_get (D := D) (ci := 3) (v := .int (v2 0)) (C := RX3) (T := TX3) (N := 5) hx hb hts iX3 hown hK hP q2 he2 rfl 0 (by decide) k7 (fun _ h9 => h9) rfl dX3_takeAll_2 ?_
  refine lv_aload_n hx hb dX3_takeAll_5 rfl (lv_at hl 1 rfl) ?_
  refine va_get (D := D) (ci := 3) (v := .int (v2 1)) (C := RX3) (T := TX3) (N := 5) hx hb hts iX3 hown hK hP q2 he2 rfl 1 (by decide) k13 (fun _ h9 => h9) rfl dX3_takeAll_6 ?_
  refine lv_aload_n hx hb dX3_takeAll_9 rfl (lv_at hl 1 rfl) ?_
  refine va_get (D := D) (ci := 3) (v := .int (v2 2)) (C := RX3) (T := TX3) (N := 5) hx hb hts iX3 hown hK hP q2 he2 rfl 2 (by decide) k16 (fun _ h9 => h9) rfl dX3_takeAll_10 ?_
  refine mx_callV (As := [.int (v2 0), .int (v2 1), .int (v2 2)]) (rest := []) ⟨hx, hb, hml, hown, hts⟩ (mtX3_order l D cI cB cK cS (ws) h q v (v2 0) (v2 1) (v2 2) he) (cwV 3 hts gX3_takeAll_X3_order rfl rfl rfl (by decide +kernel) ⟨Nat.le_of_ble_eq_true rfl, Nat.le_of_ble_eq_true rfl⟩) pF0_ok trivial hK hP hD hS hA q he rfl rfl rfl hl.1 rfl (Nat.le_of_ble_eq_true rfl) dX3_takeAll_13 ⟨Nat.le_refl _, Nat.le_refl _⟩ (fun u_1 H locs eu_1 hP hD hS => ?_)
  refine W.eq (g2 := F0 m 16 ls []) rfl ?_
  have hP : va_P D vwCl (ws.set q (h, .inr (3, mf u_1))) H := hP
  have hD : va_D A (ws.set q (h, .inr (3, mf u_1))) := hD
  refine lv_aload_n hx hb dX3_takeAll_16 rfl (lv_at hl 0 rfl) ?_
  refine lv_aload_n hx hb dX3_takeAll_17 rfl (lv_at hl 1 rfl) ?_
  refine va_get (D := D) (ci := 3) (v := .int (v2 3)) (C := RX3) (T := TX3) (N := 5) hx hb hts iX3 hown hK hP q2 (gs_other hne (he2)) rfl 3 (by decide) k19 (fun _ h9 => h9) rfl dX3_takeAll_18 ?_
  refine va_put (D := D) (ci := 3) (v := .int (v2 3)) (ty := .int) (C := RX3) (T := TX3) (N := 5) hx hb hts iX3 tyX3 tyX3_ok nmX3 hown hK hP hD hS q (gs_same (he)) rfl 3 (by decide) k19 (fun _ h9 => h9) rfl (by decide +kernel) rfl rfl (Nat.le_of_ble_eq_true rfl) dX3_takeAll_21 (fun H locs hP hD hS => ?_)
  rw [gs_set] at hP hD
  have hP : va_P D vwCl (ws.set q (h, .inr (3, mf (upd u_1 3 (v2 3))))) H := hP
  have hD : va_D A (ws.set q (h, .inr (3, mf (upd u_1 3 (v2 3))))) := hD
  refine lv_aload_n hx hb dX3_takeAll_24 rfl (lv_at hl 0 rfl) ?_
  refine lv_aload_n hx hb dX3_takeAll_25 rfl (lv_at hl 1 rfl) ?_
  refine va_get (D := D) (ci := 3) (v := .int (v2 4)) (C := RX3) (T := TX3) (N := 5) hx hb hts iX3 hown hK hP q2 (gs_other hne (he2)) rfl 4 (by decide) k22 (fun _ h9 => h9) rfl dX3_takeAll_26 ?_
  refine va_put (D := D) (ci := 3) (v := .int (v2 4)) (ty := .int) (C := RX3) (T := TX3) (N := 5) hx hb hts iX3 tyX3 tyX3_ok nmX3 hown hK hP hD hS q (gs_same (he)) rfl 4 (by decide) k22 (fun _ h9 => h9) rfl (by decide +kernel) rfl rfl (Nat.le_of_ble_eq_true rfl) dX3_takeAll_29 (fun H locs hP hD hS => ?_)
  rw [gs_set] at hP hD
  have hP : va_P D vwCl (ws.set q (h, .inr (3, mf (upd (upd u_1 3 (v2 3)) 4 (v2 4))))) H := hP
  have hD : va_D A (ws.set q (h, .inr (3, mf (upd (upd u_1 3 (v2 3)) 4 (v2 4))))) := hD
  rw [hQm]
  exact mx_vret (u0 := sX3_takeAll v v2) (rv := (fun _ => none)) (w1 := (fun u => ws.set q (h, .inr (3, mf u)))) (u := (upd (upd u_1 3 (v2 3)) 4 (v2 4))) hx hb hr hlocks hK hS (lt_eq eu_1 rfl) hP hD rfl dX3_takeAll_32
