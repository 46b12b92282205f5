def sX9_meanOf (k : Int32) (a : Int32) (b : Int32) (d : Int32) : Int32 := if k = 1 then ((a)) else (if k = 2 then (((a + b) / 2)) else ((((a + b) + d) / 3)))
set_option maxHeartbeats 4000000 in
set_option maxRecDepth 100000 in
theorem mtX9_meanOf (l : Launch) (D : va_G) (cI cB cK cS : ClassId) (ws : va_W)  (k : Int32) (a : Int32) (b : Int32) (d : Int32) : MX l yX9_meanOf wsX9_meanOf (rmX 1) D (tyX cI cB cK cS) pF0 (ws) [.int k, .int a, .int b, .int d] (sX9_meanOf k a b d) (fun u => some (.int u)) (fun _ => ws) := by
  refine mx_intro (cc := cX9_meanOf) (maxL := 4) (ret := (some .int)) (by decide) rfl (Nat.le_of_ble_eq_true rfl) ?_
  intro p e s m below meth c A ls H locs Qm hQm hx hb hr hml hts hown hlocks hA hS hP hK hD hF hl
  have hown : s.vm.findClass RX9 = some m.cls := hown
  have hl : lv_has ls 4 [(0, .int k), (1, .int a), (2, .int b), (3, .int d)] := hl
  refine lv_iload_n hx hb dX9_meanOf_0 rfl (lv_at hl 0 rfl) ?_
  refine lv_iconst (v := 1) hx hb dX9_meanOf_1 (by decide) ?_
  refine lv_icmp_ne (tgt := 7) hx hb dX9_meanOf_2 (by decide) (fun c_1 => ?_) (fun c_1 => ?_)
  · refine lv_iload_n hx hb dX9_meanOf_7 rfl (lv_at hl 0 rfl) ?_
    refine lv_iconst (v := 2) hx hb dX9_meanOf_8 (by decide) ?_
    refine lv_icmp_ne (tgt := 20) hx hb dX9_meanOf_9 (by decide) (fun c_2 => ?_) (fun c_2 => ?_)
    · refine lv_iload_n hx hb dX9_meanOf_20 rfl (lv_at hl 1 rfl) ?_
      refine lv_iload_n hx hb dX9_meanOf_21 rfl (lv_at hl 2 rfl) ?_
      refine lv_iadd hx hb dX9_meanOf_22 ?_
      refine lv_iload_n hx hb dX9_meanOf_23 rfl (lv_at hl 3 rfl) ?_
      refine lv_iadd hx hb dX9_meanOf_24 ?_
      refine lv_iconst (v := 3) hx hb dX9_meanOf_25 (by decide) ?_
      refine lv_idiv hx hb dX9_meanOf_26 (by decide) ?_
      rw [hQm]
      exact mx_iret (u0 := sX9_meanOf k a b d) (rv := (fun u => some (.int u))) (w1 := (fun _ => ws)) (u := (((a + b) + d) / 3)) hx hb hr hlocks hK hS ((if_neg c_1).trans ((if_neg c_2).trans rfl)) hP hD rfl dX9_meanOf_27
    · refine lv_iload_n hx hb dX9_meanOf_12 rfl (lv_at hl 1 rfl) ?_
      refine lv_iload_n hx hb dX9_meanOf_13 rfl (lv_at hl 2 rfl) ?_
      refine lv_iadd hx hb dX9_meanOf_14 ?_
      refine lv_iconst (v := 2) hx hb dX9_meanOf_15 (by decide) ?_
      refine lv_idiv hx hb dX9_meanOf_16 (by decide) ?_
      refine lv_goto (tgt := 27) hx hb dX9_meanOf_17 (by decide) ?_
      rw [hQm]
      exact mx_iret (u0 := sX9_meanOf k a b d) (rv := (fun u => some (.int u))) (w1 := (fun _ => ws)) (u := ((a + b) / 2)) hx hb hr hlocks hK hS ((if_neg c_1).trans ((if_pos c_2).trans rfl)) hP hD rfl dX9_meanOf_27
  · refine lv_iload_n hx hb dX9_meanOf_5 rfl (lv_at hl 1 rfl) ?_
    rw [hQm]
    exact mx_iret (u0 := sX9_meanOf k a b d) (rv := (fun u => some (.int u))) (w1 := (fun _ => ws)) (u := (a)) hx hb hr hlocks hK hS ((if_pos c_1).trans rfl) hP hD rfl dX9_meanOf_6

def sX9_guessBy (way : Int32) (k : Int32) (a : Int32) (b : Int32) (d : Int32) (t : Int32) : Int32 := if way = 1 then (lt (if a < 99 then a else 99) (fun x_2 : Int32 => lt (if 0 < x_2 then x_2 else 0) (fun x_3 : Int32 => (x_3)))) else (if way = 2 then (lt (sX9_meanOf k a b d) (fun u_5 : Int32 => lt (if u_5 < 99 then u_5 else 99) (fun x_6 : Int32 => lt (if 0 < x_6 then x_6 else 0) (fun x_7 : Int32 => (x_7))))) else (if way = 3 then (lt (a + (((a - b) * k) / 10)) (fun x_9 : Int32 => lt (if x_9 < 99 then x_9 else 99) (fun x_10 : Int32 => lt (if 0 < x_10 then x_10 else 0) (fun x_11 : Int32 => (x_11))))) else (if way = 4 then (lt ((2 * (((a + b) + d) / 3)) - a) (fun x_13 : Int32 => lt (if x_13 < 99 then x_13 else 99) (fun x_14 : Int32 => lt (if 0 < x_14 then x_14 else 0) (fun x_15 : Int32 => (x_15))))) else (if way = 5 then (lt (if t < 99 then t else 99) (fun x_17 : Int32 => lt (if 0 < x_17 then x_17 else 0) (fun x_18 : Int32 => (x_18)))) else (lt (if 0 < 99 then 0 else 99) (fun x_19 : Int32 => lt (if 0 < x_19 then x_19 else 0) (fun x_20 : Int32 => (x_20))))))))
set_option maxHeartbeats 4000000 in
set_option maxRecDepth 100000 in
theorem mtX9_guessBy (l : Launch) (D : va_G) (cI cB cK cS : ClassId) (ws : va_W)  (way : Int32) (k : Int32) (a : Int32) (b : Int32) (d : Int32) (t : Int32) : MX l yX9_guessBy wsX9_guessBy (rmX 2) D (tyX cI cB cK cS) pF0 (ws) [.int way, .int k, .int a, .int b, .int d, .int t] (sX9_guessBy way k a b d t) (fun u => some (.int u)) (fun _ => ws) := by
  refine mx_intro (cc := cX9_guessBy) (maxL := 7) (ret := (some .int)) (by decide) rfl (Nat.le_of_ble_eq_true rfl) ?_
  intro p e s m below meth c A ls H locs Qm hQm hx hb hr hml hts hown hlocks hA hS hP hK hD hF hl
  have hown : s.vm.findClass RX9 = some m.cls := hown
  have hl : lv_has ls 7 [(0, .int way), (1, .int k), (2, .int a), (3, .int b), (4, .int d), (5, .int t)] := hl
  have k23 := hts (.methodLink RX9 23 Lib.Math.min.name) (by decide +kernel)
  have kS_min := hts (.static Lib.Math.min.name) (by decide +kernel)
  have kI_math := hts (.initialized "java/lang/Math") (by decide +kernel)
  have kC_min := hts (.code Lib.Math.min.name Lib.Math.min.code 2 (some .int)) (by decide +kernel)
  have k29 := hts (.methodLink RX9 29 Lib.Math.max.name) (by decide +kernel)
  have kS_max := hts (.static Lib.Math.max.name) (by decide +kernel)
  have kC_max := hts (.code Lib.Math.max.name Lib.Math.max.code 2 (some .int)) (by decide +kernel)
  refine lv_iconst (v := 0) hx hb dX9_guessBy_0 (by decide) ?_
  refine lv_istore (lv' := [(6, .int 0), (0, .int way), (1, .int k), (2, .int a), (3, .int b), (4, .int d), (5, .int t)]) hx hb dX9_guessBy_1 hl (by decide) rfl (fun ls hl => ?_)
  refine lv_iload_n hx hb dX9_guessBy_3 rfl (lv_at hl 1 rfl) ?_
  rcases Classical.em (way = 1) with c_1 | c_1
  · refine lv_tableIn (tgt := 40) hx hb dX9_guessBy_4 (by rw [c_1]; decide) (by rw [c_1]; decide) (by rw [c_1]; rfl) (by decide) ?_
    refine lv_iload_n hx hb dX9_guessBy_40 rfl (lv_at hl 3 rfl) ?_
    refine lv_istore (lv' := [(6, .int a), (0, .int way), (1, .int k), (2, .int a), (3, .int b), (4, .int d), (5, .int t)]) hx hb dX9_guessBy_41 hl (by decide) rfl (fun ls hl => ?_)
    refine lv_goto (tgt := 98) hx hb dX9_guessBy_43 (by decide) ?_
    refine lv_iconst (v := 0) hx hb dX9_guessBy_98 (by decide) ?_
    refine lv_bipush (v := 99) hx hb dX9_guessBy_99 (by decide) ?_
    refine lv_iload hx hb dX9_guessBy_101 (lv_at hl 0 rfl) ?_
    refine va_mmin hx hb (by rw [hml]; exact hl.1.symm) hown k23 kS_min kI_math kC_min (Nat.le_of_ble_eq_true rfl) (Nat.le_of_ble_eq_true rfl) (Nat.le_refl _) (Nat.le_refl _) dX9_guessBy_103 ?_
    refine lv_topi (fun x_2 ex_2 => ?_)
    refine va_mmax hx hb (by rw [hml]; exact hl.1.symm) hown k29 kS_max kI_math kC_max (Nat.le_of_ble_eq_true rfl) (Nat.le_of_ble_eq_true rfl) (Nat.le_refl _) (Nat.le_refl _) dX9_guessBy_106 ?_
    refine lv_topi (fun x_3 ex_3 => ?_)
    rw [hQm]
    exact mx_iret (u0 := sX9_guessBy way k a b d t) (rv := (fun u => some (.int u))) (w1 := (fun _ => ws)) (u := (x_3)) hx hb hr hlocks hK hS ((if_pos c_1).trans (lt_eq ex_2 (lt_eq ex_3 rfl))) hP hD rfl dX9_guessBy_109
  · rcases Classical.em (way = 2) with c_4 | c_4
    · refine lv_tableIn (tgt := 46) hx hb dX9_guessBy_4 (by rw [c_4]; decide) (by rw [c_4]; decide) (by rw [c_4]; rfl) (by decide) ?_
      refine lv_iload_n hx hb dX9_guessBy_46 rfl (lv_at hl 2 rfl) ?_
      refine lv_iload_n hx hb dX9_guessBy_47 rfl (lv_at hl 3 rfl) ?_
      refine lv_iload_n hx hb dX9_guessBy_48 rfl (lv_at hl 4 rfl) ?_
      refine lv_iload hx hb dX9_guessBy_49 (lv_at hl 5 rfl) ?_
      refine mx_callS (As := [.int k, .int a, .int b, .int d]) (rest := []) ⟨hx, hb, hml, hown, hts⟩ (mtX9_meanOf l D cI cB cK cS (ws) k a b d) (va_cwS 4 hts gX9_guessBy_X9_meanOf rfl rfl rfl (by decide +kernel) ⟨Nat.le_of_ble_eq_true rfl, Nat.le_of_ble_eq_true rfl⟩) pF0_ok trivial hK hP hD hS hA rfl hl.1 rfl (Nat.le_of_ble_eq_true rfl) dX9_guessBy_51 ⟨Nat.le_refl _, Nat.le_refl _⟩ (fun u_5 H locs eu_5 hP hD hS => ?_)
      refine W.eq (g2 := F0 m 54 ls [.int u_5]) rfl ?_
      have hP : va_P D vwCl (ws) H := hP
      have hD : va_D A (ws) := hD
      refine lv_istore (lv' := [(6, .int u_5), (0, .int way), (1, .int k), (2, .int a), (3, .int b), (4, .int d), (5, .int t)]) hx hb dX9_guessBy_54 hl (by decide) rfl (fun ls hl => ?_)
      refine lv_goto (tgt := 98) hx hb dX9_guessBy_56 (by decide) ?_
      refine lv_iconst (v := 0) hx hb dX9_guessBy_98 (by decide) ?_
      refine lv_bipush (v := 99) hx hb dX9_guessBy_99 (by decide) ?_
      refine lv_iload hx hb dX9_guessBy_101 (lv_at hl 0 rfl) ?_
      refine va_mmin hx hb (by rw [hml]; exact hl.1.symm) hown k23 kS_min kI_math kC_min (Nat.le_of_ble_eq_true rfl) (Nat.le_of_ble_eq_true rfl) (Nat.le_refl _) (Nat.le_refl _) dX9_guessBy_103 ?_
      refine lv_topi (fun x_6 ex_6 => ?_)
      refine va_mmax hx hb (by rw [hml]; exact hl.1.symm) hown k29 kS_max kI_math kC_max (Nat.le_of_ble_eq_true rfl) (Nat.le_of_ble_eq_true rfl) (Nat.le_refl _) (Nat.le_refl _) dX9_guessBy_106 ?_
      refine lv_topi (fun x_7 ex_7 => ?_)
      rw [hQm]
      exact mx_iret (u0 := sX9_guessBy way k a b d t) (rv := (fun u => some (.int u))) (w1 := (fun _ => ws)) (u := (x_7)) hx hb hr hlocks hK hS ((if_neg c_1).trans ((if_pos c_4).trans (lt_eq eu_5 (lt_eq ex_6 (lt_eq ex_7 rfl))))) hP hD rfl dX9_guessBy_109
    · rcases Classical.em (way = 3) with c_8 | c_8
      · refine lv_tableIn (tgt := 59) hx hb dX9_guessBy_4 (by rw [c_8]; decide) (by rw [c_8]; decide) (by rw [c_8]; rfl) (by decide) ?_
        refine lv_iload_n hx hb dX9_guessBy_59 rfl (lv_at hl 3 rfl) ?_
        refine lv_iload_n hx hb dX9_guessBy_60 rfl (lv_at hl 3 rfl) ?_
        refine lv_iload_n hx hb dX9_guessBy_61 rfl (lv_at hl 4 rfl) ?_
        refine lv_isub hx hb dX9_guessBy_62 ?_
        refine lv_iload_n hx hb dX9_guessBy_63 rfl (lv_at hl 2 rfl) ?_
        refine lv_imul hx hb dX9_guessBy_64 ?_
        refine lv_bipush (v := 10) hx hb dX9_guessBy_65 (by decide) ?_
        refine lv_idiv hx hb dX9_guessBy_67 (by decide) ?_
        refine lv_iadd hx hb dX9_guessBy_68 ?_
        refine lv_topi (fun x_9 ex_9 => ?_)
        refine lv_istore (lv' := [(6, .int x_9), (0, .int way), (1, .int k), (2, .int a), (3, .int b), (4, .int d), (5, .int t)]) hx hb dX9_guessBy_69 hl (by decide) rfl (fun ls hl => ?_)
        refine lv_goto (tgt := 98) hx hb dX9_guessBy_71 (by decide) ?_
        refine lv_iconst (v := 0) hx hb dX9_guessBy_98 (by decide) ?_
        refine lv_bipush (v := 99) hx hb dX9_guessBy_99 (by decide) ?_
        refine lv_iload hx hb dX9_guessBy_101 (lv_at hl 0 rfl) ?_
        refine va_mmin hx hb (by rw [hml]; exact hl.1.symm) hown k23 kS_min kI_math kC_min (Nat.le_of_ble_eq_true rfl) (Nat.le_of_ble_eq_true rfl) (Nat.le_refl _) (Nat.le_refl _) dX9_guessBy_103 ?_
        refine lv_topi (fun x_10 ex_10 => ?_)
        refine va_mmax hx hb (by rw [hml]; exact hl.1.symm) hown k29 kS_max kI_math kC_max (Nat.le_of_ble_eq_true rfl) (Nat.le_of_ble_eq_true rfl) (Nat.le_refl _) (Nat.le_refl _) dX9_guessBy_106 ?_
        refine lv_topi (fun x_11 ex_11 => ?_)
        rw [hQm]
        exact mx_iret (u0 := sX9_guessBy way k a b d t) (rv := (fun u => some (.int u))) (w1 := (fun _ => ws)) (u := (x_11)) hx hb hr hlocks hK hS ((if_neg c_1).trans ((if_neg c_4).trans ((if_pos c_8).trans (lt_eq ex_9 (lt_eq ex_10 (lt_eq ex_11 rfl)))))) hP hD rfl dX9_guessBy_109
      · rcases Classical.em (way = 4) with c_12 | c_12
        · refine lv_tableIn (tgt := 74) hx hb dX9_guessBy_4 (by rw [c_12]; decide) (by rw [c_12]; decide) (by rw [c_12]; rfl) (by decide) ?_
          refine lv_iconst (v := 2) hx hb dX9_guessBy_74 (by decide) ?_
          refine lv_iload_n hx hb dX9_guessBy_75 rfl (lv_at hl 3 rfl) ?_
          refine lv_iload_n hx hb dX9_guessBy_76 rfl (lv_at hl 4 rfl) ?_
          refine lv_iadd hx hb dX9_guessBy_77 ?_
          refine lv_iload hx hb dX9_guessBy_78 (lv_at hl 5 rfl) ?_
          refine lv_iadd hx hb dX9_guessBy_80 ?_
          refine lv_iconst (v := 3) hx hb dX9_guessBy_81 (by decide) ?_
          refine lv_idiv hx hb dX9_guessBy_82 (by decide) ?_
          refine lv_imul hx hb dX9_guessBy_83 ?_
          refine lv_iload_n hx hb dX9_guessBy_84 rfl (lv_at hl 3 rfl) ?_
          refine lv_isub hx hb dX9_guessBy_85 ?_
          refine lv_topi (fun x_13 ex_13 => ?_)
          refine lv_istore (lv' := [(6, .int x_13), (0, .int way), (1, .int k), (2, .int a), (3, .int b), (4, .int d), (5, .int t)]) hx hb dX9_guessBy_86 hl (by decide) rfl (fun ls hl => ?_)
          refine lv_goto (tgt := 98) hx hb dX9_guessBy_88 (by decide) ?_
          refine lv_iconst (v := 0) hx hb dX9_guessBy_98 (by decide) ?_
          refine lv_bipush (v := 99) hx hb dX9_guessBy_99 (by decide) ?_
          refine lv_iload hx hb dX9_guessBy_101 (lv_at hl 0 rfl) ?_
          refine va_mmin hx hb (by rw [hml]; exact hl.1.symm) hown k23 kS_min kI_math kC_min (Nat.le_of_ble_eq_true rfl) (Nat.le_of_ble_eq_true rfl) (Nat.le_refl _) (Nat.le_refl _) dX9_guessBy_103 ?_
          refine lv_topi (fun x_14 ex_14 => ?_)
          refine va_mmax hx hb (by rw [hml]; exact hl.1.symm) hown k29 kS_max kI_math kC_max (Nat.le_of_ble_eq_true rfl) (Nat.le_of_ble_eq_true rfl) (Nat.le_refl _) (Nat.le_refl _) dX9_guessBy_106 ?_
          refine lv_topi (fun x_15 ex_15 => ?_)
          rw [hQm]
          exact mx_iret (u0 := sX9_guessBy way k a b d t) (rv := (fun u => some (.int u))) (w1 := (fun _ => ws)) (u := (x_15)) hx hb hr hlocks hK hS ((if_neg c_1).trans ((if_neg c_4).trans ((if_neg c_8).trans ((if_pos c_12).trans (lt_eq ex_13 (lt_eq ex_14 (lt_eq ex_15 rfl))))))) hP hD rfl dX9_guessBy_109
        · rcases Classical.em (way = 5) with c_16 | c_16
          · refine lv_tableIn (tgt := 91) hx hb dX9_guessBy_4 (by rw [c_16]; decide) (by rw [c_16]; decide) (by rw [c_16]; rfl) (by decide) ?_
            refine lv_iload hx hb dX9_guessBy_91 (lv_at hl 6 rfl) ?_
            refine lv_istore (lv' := [(6, .int t), (0, .int way), (1, .int k), (2, .int a), (3, .int b), (4, .int d), (5, .int t)]) hx hb dX9_guessBy_93 hl (by decide) rfl (fun ls hl => ?_)
            refine lv_goto (tgt := 98) hx hb dX9_guessBy_95 (by decide) ?_
            refine lv_iconst (v := 0) hx hb dX9_guessBy_98 (by decide) ?_
            refine lv_bipush (v := 99) hx hb dX9_guessBy_99 (by decide) ?_
            refine lv_iload hx hb dX9_guessBy_101 (lv_at hl 0 rfl) ?_
            refine va_mmin hx hb (by rw [hml]; exact hl.1.symm) hown k23 kS_min kI_math kC_min (Nat.le_of_ble_eq_true rfl) (Nat.le_of_ble_eq_true rfl) (Nat.le_refl _) (Nat.le_refl _) dX9_guessBy_103 ?_
            refine lv_topi (fun x_17 ex_17 => ?_)
            refine va_mmax hx hb (by rw [hml]; exact hl.1.symm) hown k29 kS_max kI_math kC_max (Nat.le_of_ble_eq_true rfl) (Nat.le_of_ble_eq_true rfl) (Nat.le_refl _) (Nat.le_refl _) dX9_guessBy_106 ?_
            refine lv_topi (fun x_18 ex_18 => ?_)
            rw [hQm]
            exact mx_iret (u0 := sX9_guessBy way k a b d t) (rv := (fun u => some (.int u))) (w1 := (fun _ => ws)) (u := (x_18)) hx hb hr hlocks hK hS ((if_neg c_1).trans ((if_neg c_4).trans ((if_neg c_8).trans ((if_neg c_12).trans ((if_pos c_16).trans (lt_eq ex_17 (lt_eq ex_18 rfl))))))) hP hD rfl dX9_guessBy_109
          · refine lv_tableOut (tgt := 98) hx hb dX9_guessBy_4 (by have := lv_neT c_1 (show (1 : Int32).toInt = 1 from by decide); have := lv_neT c_4 (show (2 : Int32).toInt = 2 from by decide); have := lv_neT c_8 (show (3 : Int32).toInt = 3 from by decide); have := lv_neT c_12 (show (4 : Int32).toInt = 4 from by decide); have := lv_neT c_16 (show (5 : Int32).toInt = 5 from by decide); omega) (by decide) ?_
            refine lv_iconst (v := 0) hx hb dX9_guessBy_98 (by decide) ?_
            refine lv_bipush (v := 99) hx hb dX9_guessBy_99 (by decide) ?_
            refine lv_iload hx hb dX9_guessBy_101 (lv_at hl 0 rfl) ?_
            refine va_mmin hx hb (by rw [hml]; exact hl.1.symm) hown k23 kS_min kI_math kC_min (Nat.le_of_ble_eq_true rfl) (Nat.le_of_ble_eq_true rfl) (Nat.le_refl _) (Nat.le_refl _) dX9_guessBy_103 ?_
            refine lv_topi (fun x_19 ex_19 => ?_)
            refine va_mmax hx hb (by rw [hml]; exact hl.1.symm) hown k29 kS_max kI_math kC_max (Nat.le_of_ble_eq_true rfl) (Nat.le_of_ble_eq_true rfl) (Nat.le_refl _) (Nat.le_refl _) dX9_guessBy_106 ?_
            refine lv_topi (fun x_20 ex_20 => ?_)
            rw [hQm]
            exact mx_iret (u0 := sX9_guessBy way k a b d t) (rv := (fun u => some (.int u))) (w1 := (fun _ => ws)) (u := (x_20)) hx hb hr hlocks hK hS ((if_neg c_1).trans ((if_neg c_4).trans ((if_neg c_8).trans ((if_neg c_12).trans ((if_neg c_16).trans (lt_eq ex_19 (lt_eq ex_20 rfl))))))) hP hD rfl dX9_guessBy_109

def sX2_priceOf (g : Int32) (f : Nat → Int32) : Int32 := if 1 ≤ (f 4) then (lt (if 0 < ((f 3) - (g / (f 4))) then ((f 3) - (g / (f 4))) else 0) (fun x_2 : Int32 => (x_2))) else ((0))
set_option maxHeartbeats 4000000 in
set_option maxRecDepth 100000 in
theorem mtX2_priceOf (l : Launch) (D : va_G) (cI cB cK cS : ClassId) (Z : Nat → Nat) (R : va_W) (f : Nat → Int32) (kv : Nat → Nat → Int32) (mv : Nat → Int32) (g : Int32) : MX l yX2_priceOf wsX2_priceOf (rmX 2) D (tyX cI cB cK cS) pF0 (landW Z cK f kv mv ++ R) [.ref (Z 0), .int g] (sX2_priceOf g f) (fun u => some (.int u)) (fun _ => landW Z cK f kv mv ++ R) := by
  refine mx_intro (cc := cX2_priceOf) (maxL := 2) (ret := (some .int)) (by decide) rfl (Nat.le_of_ble_eq_true rfl) ?_
  intro p e s m below meth c A ls H locs Qm hQm hx hb hr hml hts hown hlocks hA hS hP hK hD hF hl
  have hown : s.vm.findClass RX2 = some m.cls := hown
  have hl : lv_has ls 2 [(0, .ref (Z 0)), (1, .int g)] := hl
  have k31 := hts (.fieldLink RX2 31 "PigRounds$Land" "depth" "I") (by decide +kernel)
  have k28 := hts (.fieldLink RX2 28 "PigRounds$Land" "top" "I") (by decide +kernel)
  have k117 := hts (.methodLink RX2 117 Lib.Math.max.name) (by decide +kernel)
  have kS_max := hts (.static Lib.Math.max.name) (by decide +kernel)
  have kI_math := hts (.initialized "java/lang/Math") (by decide +kernel)
  have kC_max := hts (.code Lib.Math.max.name Lib.Math.max.code 2 (some .int)) (by decide +kernel)
  have iX2 : ∀ w ∈ u_ws RX2 TX2 12, w ∈ wsX2_priceOf := by decide +kernel
  refine lv_aload_n hx hb dX2_priceOf_0 rfl (lv_at hl 0 rfl) ?_
  refine va_get (D := D) (ci := 2) (v := .int (f 4)) (C := RX2) (T := TX2) (N := 12) hx hb hts iX2 hown hK hP 5 rfl rfl 4 (by decide) k31 (fun _ h9 => h9) rfl dX2_priceOf_1 ?_
  refine lv_iconst (v := 1) hx hb dX2_priceOf_4 (by decide) ?_
  refine lv_icmp_ge (tgt := 12) hx hb dX2_priceOf_5 (by decide) (fun c_1 => ?_) (fun c_1 => ?_)
  · have d_1 := i_le (show (1 : Int32).toInt = 1 from by decide) rfl c_1
    refine lv_iconst (v := 0) hx hb dX2_priceOf_12 (by decide) ?_
    refine lv_aload_n hx hb dX2_priceOf_13 rfl (lv_at hl 0 rfl) ?_
    refine va_get (D := D) (ci := 2) (v := .int (f 3)) (C := RX2) (T := TX2) (N := 12) hx hb hts iX2 hown hK hP 5 rfl rfl 3 (by decide) k28 (fun _ h9 => h9) rfl dX2_priceOf_14 ?_
    refine lv_iload_n hx hb dX2_priceOf_17 rfl (lv_at hl 1 rfl) ?_
    refine lv_aload_n hx hb dX2_priceOf_18 rfl (lv_at hl 0 rfl) ?_
    refine va_get (D := D) (ci := 2) (v := .int (f 4)) (C := RX2) (T := TX2) (N := 12) hx hb hts iX2 hown hK hP 5 rfl rfl 4 (by decide) k31 (fun _ h9 => h9) rfl dX2_priceOf_19 ?_
    refine lv_idiv hx hb dX2_priceOf_22 (i_ne0 (by omega)) ?_
    refine lv_isub hx hb dX2_priceOf_23 ?_
    refine va_mmax hx hb (by rw [hml]; exact hl.1.symm) hown k117 kS_max kI_math kC_max (Nat.le_of_ble_eq_true rfl) (Nat.le_of_ble_eq_true rfl) (Nat.le_refl _) (Nat.le_refl _) dX2_priceOf_24 ?_
    refine lv_topi (fun x_2 ex_2 => ?_)
    rw [hQm]
    exact mx_iret (u0 := sX2_priceOf g f) (rv := (fun u => some (.int u))) (w1 := (fun _ => landW Z cK f kv mv ++ R)) (u := (x_2)) hx hb hr hlocks hK hS ((if_pos c_1).trans (lt_eq ex_2 rfl)) hP hD rfl dX2_priceOf_27
  · have d_1 := i_len (show (1 : Int32).toInt = 1 from by decide) rfl c_1
    refine lv_iconst (v := 0) hx hb dX2_priceOf_8 (by decide) ?_
    refine lv_goto (tgt := 27) hx hb dX2_priceOf_9 (by decide) ?_
    rw [hQm]
    exact mx_iret (u0 := sX2_priceOf g f) (rv := (fun u => some (.int u))) (w1 := (fun _ => landW Z cK f kv mv ++ R)) (u := (0)) hx hb hr hlocks hK hS ((if_neg c_1).trans rfl) hP hD rfl dX2_priceOf_27

def lX2_hasWise_2 (f : Nat → Int32) (kv : Nat → Nat → Int32) : Nat → Int32 → Int32
  | 0, x1_2 => (0)
  | n + 1, x1_2 => if (f 2) ≤ x1_2 then ((0)) else (if 5 ≤ x1_2 then ((0)) else (if ((kv x1_2.toNatClampNeg) 7) = 0 then (if ((kv x1_2.toNatClampNeg) 0) = 6 then ((1)) else (lt (x1_2 + 1) (fun x_8 : Int32 => lX2_hasWise_2 f kv n x_8))) else (lt (x1_2 + 1) (fun x_5 : Int32 => lX2_hasWise_2 f kv n x_5))))

def sX2_hasWise (f : Nat → Int32) (kv : Nat → Nat → Int32) : Int32 := lX2_hasWise_2 f kv 6 0
set_option maxHeartbeats 4000000 in
set_option maxRecDepth 100000 in
theorem mtX2_hasWise (l : Launch) (D : va_G) (cI cB cK cS : ClassId) (Z : Nat → Nat) (R : va_W) (f : Nat → Int32) (kv : Nat → Nat → Int32) (mv : Nat → Int32) : MX l yX2_hasWise wsX2_hasWise (rmX 1) D (tyX cI cB cK cS) pF0 (landW Z cK f kv mv ++ R) [.ref (Z 0)] (sX2_hasWise f kv) (fun u => some (.int u)) (fun _ => landW Z cK f kv mv ++ R) := by
  refine mx_intro (cc := cX2_hasWise) (maxL := 2) (ret := (some .boolean)) (by decide) rfl (Nat.le_of_ble_eq_true rfl) ?_
  intro p e s m below meth c A ls H locs Qm hQm hx hb hr hml hts hown hlocks hA hS hP hK hD hF hl
  have hown : s.vm.findClass RX2 = some m.cls := hown
  have hl : lv_has ls 2 [(0, .ref (Z 0))] := hl
  have k24 := hts (.fieldLink RX2 24 "PigRounds$Land" "kindCount" "I") (by decide +kernel)
  have k11 := hts (.fieldLink RX2 11 "PigRounds$Land" "kinds" "[LPigRounds$Kind;") (by decide +kernel)
  have k70 := hts (.fieldLink RX2 70 "PigRounds$Kind" "out" "Z") (by decide +kernel)
  have k87 := hts (.fieldLink RX2 87 "PigRounds$Kind" "way" "I") (by decide +kernel)
  have iX1 : ∀ w ∈ u_ws RX1 TX1 9, w ∈ wsX2_hasWise := by decide +kernel
  have iX2 : ∀ w ∈ u_ws RX2 TX2 12, w ∈ wsX2_hasWise := by decide +kernel
  refine lv_iconst (v := 0) hx hb dX2_hasWise_0 (by decide) ?_
  refine lv_istore_n (lv' := [(1, .int 0), (0, .ref (Z 0))]) hx hb dX2_hasWise_1 rfl hl (by decide) rfl (fun ls hl => ?_)
  have L_2 : ∀ (n : Nat) (x1_2 : Int32) (H : Heap) (locs : List Loc) (ls : Array Slot), 0 ≤ x1_2.toInt → x1_2.toInt ≤ 5 → (5 : Int) < x1_2.toInt + ((n : Nat) : Int) → (sX2_hasWise f kv = lX2_hasWise_2 f kv n x1_2) → va_P D vwCl (landW Z cK f kv mv ++ R) H → va_D A (landW Z cK f kv mv ++ R) → va_S A s.heap H locs → lv_has ls 2 [(1, .int x1_2), (0, .ref (Z 0))] → W p l e (rmX 1) s m ([.ref (Z 0)] : List Value).toArray below meth c H locs 0 0 Qm (F0 m 2 ls []) := by
    intro n
    induction n with
    | zero =>
      intro x1_2 H locs ls iv_2_0 iv_2_1 iv_2_2 hT_2 hP hD hS hl
      exfalso; omega
    | succ n ih_2 =>
      intro x1_2 H locs ls iv_2_0 iv_2_1 iv_2_2 hT_2 hP hD hS hl
      refine lv_iload_n hx hb dX2_hasWise_2 rfl (lv_at hl 0 rfl) ?_
      refine lv_aload_n hx hb dX2_hasWise_3 rfl (lv_at hl 1 rfl) ?_
      refine va_get (D := D) (ci := 2) (v := .int (f 2)) (C := RX2) (T := TX2) (N := 12) hx hb hts iX2 hown hK hP 5 rfl rfl 2 (by decide) k24 (fun _ h9 => h9) rfl dX2_hasWise_4 ?_
      refine lv_icmp_ge (tgt := 53) hx hb dX2_hasWise_7 (by decide) (fun c_1 => ?_) (fun c_1 => ?_)
      · have d_1 := i_le rfl rfl c_1
        refine lv_iconst (v := 0) hx hb dX2_hasWise_53 (by decide) ?_
        rw [hQm]
        exact mx_zret (u0 := sX2_hasWise f kv) (rv := (fun u => some (.int u))) (w1 := (fun _ => landW Z cK f kv mv ++ R)) (u := (0)) hx hb hr hlocks hK hS (hT_2.trans ((if_pos c_1).trans rfl)) hP hD rfl rfl dX2_hasWise_54
      · have d_1 := i_len rfl rfl c_1
        refine lv_iload_n hx hb dX2_hasWise_10 rfl (lv_at hl 0 rfl) ?_
        refine lv_aload_n hx hb dX2_hasWise_11 rfl (lv_at hl 1 rfl) ?_
        refine va_get (D := D) (ci := 2) (v := .ref (Z 1)) (C := RX2) (T := TX2) (N := 12) hx hb hts iX2 hown hK hP 5 rfl rfl 0 (by decide) k11 (fun _ h9 => h9) rfl dX2_hasWise_12 ?_
        refine va_alen (v := 5) hx hb hK hP 6 2 rfl rfl rfl dX2_hasWise_15 ?_
        refine lv_icmp_ge (tgt := 53) hx hb dX2_hasWise_16 (by decide) (fun c_2 => ?_) (fun c_2 => ?_)
        · have d_2 := i_le (show (5 : Int32).toInt = 5 from by decide) rfl c_2
          refine lv_iconst (v := 0) hx hb dX2_hasWise_53 (by decide) ?_
          rw [hQm]
          exact mx_zret (u0 := sX2_hasWise f kv) (rv := (fun u => some (.int u))) (w1 := (fun _ => landW Z cK f kv mv ++ R)) (u := (0)) hx hb hr hlocks hK hS (hT_2.trans ((if_neg c_1).trans ((if_pos c_2).trans rfl))) hP hD rfl rfl dX2_hasWise_54
        · have d_2 := i_len (show (5 : Int32).toInt = 5 from by decide) rfl c_2
          refine lv_aload_n hx hb dX2_hasWise_19 rfl (lv_at hl 1 rfl) ?_
          refine va_get (D := D) (ci := 2) (v := .ref (Z 1)) (C := RX2) (T := TX2) (N := 12) hx hb hts iX2 hown hK hP 5 rfl rfl 0 (by decide) k11 (fun _ h9 => h9) rfl dX2_hasWise_20 ?_
          refine lv_iload_n hx hb dX2_hasWise_23 rfl (lv_at hl 0 rfl) ?_
          have q_3 : vp_in x1_2 5 := vp_in_iff.mpr ⟨by omega, by omega⟩
          refine va_aldq hx hb hK hP 6 2 rfl rfl q_3 dX2_hasWise_24 ?_
          refine W.eq (g2 := F0 m 25 ls [.ref (Z (3 + x1_2.toNatClampNeg))]) rfl ?_
          have hq_3 : x1_2.toNatClampNeg < 5 := vp_lt q_3
          refine va_get (D := D) (ci := 1) (v := .int ((kv x1_2.toNatClampNeg) 7)) (C := RX1) (T := TX1) (N := 9) hx hb hts iX1 hown hK hP x1_2.toNatClampNeg (kk_get hq_3) rfl 7 (by decide) k70 (fun _ h9 => h9) rfl dX2_hasWise_25 ?_
          refine lv_if_ne (tgt := 47) hx hb dX2_hasWise_28 (by decide) (fun c_4 => ?_) (fun c_4 => ?_)
          · have d_4 := i_eqn rfl (show (0 : Int32).toInt = 0 from by decide) c_4
            obtain ⟨x_5, ex_5⟩ : ∃ z : Int32, z = x1_2 + 1 := ⟨_, rfl⟩
            refine lv_iinc (v := x_5) (lv' := [(1, .int x_5), (0, .ref (Z 0))]) hx hb dX2_hasWise_47 hl (k := 0) rfl (by rw [ex_5]; rfl) (by decide) rfl (fun ls hl => ?_)
            refine lv_goto (tgt := 2) hx hb dX2_hasWise_50 (by decide) ?_
            have tx_5 : x_5.toInt = x1_2.toInt + 1 := i_inc ex_5 (by decide) (by omega) (by omega)
            exact ih_2 x_5 H locs ls (by omega) (by omega) (by omega) (hT_2.trans ((if_neg c_1).trans ((if_neg c_2).trans ((if_neg c_4).trans (lt_eq ex_5 rfl))))) hP hD hS (lv_sub hl [0, 1] rfl)
          · have d_4 := i_eq rfl (show (0 : Int32).toInt = 0 from by decide) c_4
            refine lv_aload_n hx hb dX2_hasWise_31 rfl (lv_at hl 1 rfl) ?_
            refine va_get (D := D) (ci := 2) (v := .ref (Z 1)) (C := RX2) (T := TX2) (N := 12) hx hb hts iX2 hown hK hP 5 rfl rfl 0 (by decide) k11 (fun _ h9 => h9) rfl dX2_hasWise_32 ?_
            refine lv_iload_n hx hb dX2_hasWise_35 rfl (lv_at hl 0 rfl) ?_
            have q_6 : vp_in x1_2 5 := vp_in_iff.mpr ⟨by omega, by omega⟩
            refine va_aldq hx hb hK hP 6 2 rfl rfl q_6 dX2_hasWise_36 ?_
            refine W.eq (g2 := F0 m 37 ls [.ref (Z (3 + x1_2.toNatClampNeg))]) rfl ?_
            have hq_6 : x1_2.toNatClampNeg < 5 := vp_lt q_6
            refine va_get (D := D) (ci := 1) (v := .int ((kv x1_2.toNatClampNeg) 0)) (C := RX1) (T := TX1) (N := 9) hx hb hts iX1 hown hK hP x1_2.toNatClampNeg (kk_get hq_6) rfl 0 (by decide) k87 (fun _ h9 => h9) rfl dX2_hasWise_37 ?_
            refine lv_bipush (v := 6) hx hb dX2_hasWise_40 (by decide) ?_
            refine lv_icmp_ne (tgt := 47) hx hb dX2_hasWise_42 (by decide) (fun c_7 => ?_) (fun c_7 => ?_)
            · have d_7 := i_eqn rfl (show (6 : Int32).toInt = 6 from by decide) c_7
              obtain ⟨x_8, ex_8⟩ : ∃ z : Int32, z = x1_2 + 1 := ⟨_, rfl⟩
              refine lv_iinc (v := x_8) (lv' := [(1, .int x_8), (0, .ref (Z 0))]) hx hb dX2_hasWise_47 hl (k := 0) rfl (by rw [ex_8]; rfl) (by decide) rfl (fun ls hl => ?_)
              refine lv_goto (tgt := 2) hx hb dX2_hasWise_50 (by decide) ?_
              have tx_8 : x_8.toInt = x1_2.toInt + 1 := i_inc ex_8 (by decide) (by omega) (by omega)
              exact ih_2 x_8 H locs ls (by omega) (by omega) (by omega) (hT_2.trans ((if_neg c_1).trans ((if_neg c_2).trans ((if_pos c_4).trans ((if_neg c_7).trans (lt_eq ex_8 rfl)))))) hP hD hS (lv_sub hl [0, 1] rfl)
            · have d_7 := i_eq rfl (show (6 : Int32).toInt = 6 from by decide) c_7
              refine lv_iconst (v := 1) hx hb dX2_hasWise_45 (by decide) ?_
              rw [hQm]
              exact mx_zret (u0 := sX2_hasWise f kv) (rv := (fun u => some (.int u))) (w1 := (fun _ => landW Z cK f kv mv ++ R)) (u := (1)) hx hb hr hlocks hK hS (hT_2.trans ((if_neg c_1).trans ((if_neg c_2).trans ((if_pos c_4).trans ((if_pos c_7).trans rfl))))) hP hD rfl rfl dX2_hasWise_46
  exact L_2 6 0 H locs ls (by decide) (by decide) (by decide) rfl hP hD hS (lv_sub hl [0, 1] rfl)

def lX2_bringUnwise_4 (f : Nat → Int32) : Nat → Int32 → Int32 → (Nat → Nat → Int32) → Int32 × Int32 × (Nat → Nat → Int32)
  | 0, x2_4, x1_4, kv_4 => (x2_4, x1_4, kv_4)
  | n + 1, x2_4, x1_4, kv_4 => if (f 2) ≤ x2_4 then ((x2_4, x1_4, kv_4)) else (if 5 ≤ x2_4 then ((x2_4, x1_4, kv_4)) else (lt (if ((kv_4 x2_4.toNatClampNeg) 7) = 0 then (if ((kv_4 x2_4.toNatClampNeg) 0) = 6 then ((x1_4, kv_4)) else (lt (sX9_guessBy ((kv_4 x2_4.toNatClampNeg) 0) ((kv_4 x2_4.toNatClampNeg) 1) (f 6) (f 7) (f 8) (f 9)) (fun u_7 : Int32 => lt (sX1_pigsBy u_7 (kv_4 x2_4.toNatClampNeg)) (fun u_8 : Int32 => lt (va_up kv_4 x2_4.toNatClampNeg (upd (kv_4 x2_4.toNatClampNeg) 8 u_8)) (fun kv_9 : Nat → Nat → Int32 => lt (x1_4 + (((kv_9 x2_4.toNatClampNeg) 2) * ((kv_9 x2_4.toNatClampNeg) 8))) (fun x_10 : Int32 => (x_10, kv_9))))))) else ((x1_4, kv_4))) (fun y_4 : Int32 × (Nat → Nat → Int32) => lt (x2_4 + 1) (fun x_11 : Int32 => lX2_bringUnwise_4 f n x_11 y_4.1 y_4.2))))

def sX2_bringUnwise (f : Nat → Int32) (kv : Nat → Nat → Int32) : Int32 × (Nat → Nat → Int32) := lt (lX2_bringUnwise_4 f 6 0 0 kv) (fun u_12 : Int32 × Int32 × (Nat → Nat → Int32) => (u_12.2.1, u_12.2.2))
set_option maxHeartbeats 4000000 in
set_option maxRecDepth 100000 in
theorem mtX2_bringUnwise (l : Launch) (D : va_G) (cI cB cK cS : ClassId) (Z : Nat → Nat) (R : va_W) (f : Nat → Int32) (kv : Nat → Nat → Int32) (mv : Nat → Int32) : MX l yX2_bringUnwise wsX2_bringUnwise (rmX 3) D (tyX cI cB cK cS) pF0 (landW Z cK f kv mv ++ R) [.ref (Z 0)] (sX2_bringUnwise f kv) (fun u => some (.int u.1)) (fun u => landW Z cK f u.2 mv ++ R) := by
  refine mx_intro (cc := cX2_bringUnwise) (maxL := 4) (ret := (some .int)) (by decide) rfl (Nat.le_of_ble_eq_true rfl) ?_
  intro p e s m below meth c A ls H locs Qm hQm hx hb hr hml hts hown hlocks hA hS hP hK hD hF hl
  have hown : s.vm.findClass RX2 = some m.cls := hown
  have hl : lv_has ls 4 [(0, .ref (Z 0))] := hl
  have k24 := hts (.fieldLink RX2 24 "PigRounds$Land" "kindCount" "I") (by decide +kernel)
  have k11 := hts (.fieldLink RX2 11 "PigRounds$Land" "kinds" "[LPigRounds$Kind;") (by decide +kernel)
  have k70 := hts (.fieldLink RX2 70 "PigRounds$Kind" "out" "Z") (by decide +kernel)
  have k87 := hts (.fieldLink RX2 87 "PigRounds$Kind" "way" "I") (by decide +kernel)
  have k98 := hts (.fieldLink RX2 98 "PigRounds$Kind" "number" "I") (by decide +kernel)
  have k37 := hts (.fieldLink RX2 37 "PigRounds$Land" "a" "I") (by decide +kernel)
  have k40 := hts (.fieldLink RX2 40 "PigRounds$Land" "b" "I") (by decide +kernel)
  have k43 := hts (.fieldLink RX2 43 "PigRounds$Land" "c" "I") (by decide +kernel)
  have k46 := hts (.fieldLink RX2 46 "PigRounds$Land" "printed" "I") (by decide +kernel)
  have k114 := hts (.fieldLink RX2 114 "PigRounds$Kind" "brought" "I") (by decide +kernel)
  have k74 := hts (.fieldLink RX2 74 "PigRounds$Kind" "many" "I") (by decide +kernel)
  have iX1 : ∀ w ∈ u_ws RX1 TX1 9, w ∈ wsX2_bringUnwise := by decide +kernel
  have iX2 : ∀ w ∈ u_ws RX2 TX2 12, w ∈ wsX2_bringUnwise := by decide +kernel
  refine lv_iconst (v := 0) hx hb dX2_bringUnwise_0 (by decide) ?_
  refine lv_istore_n (lv' := [(1, .int 0), (0, .ref (Z 0))]) hx hb dX2_bringUnwise_1 rfl hl (by decide) rfl (fun ls hl => ?_)
  refine lv_iconst (v := 0) hx hb dX2_bringUnwise_2 (by decide) ?_
  refine lv_istore_n (lv' := [(2, .int 0), (1, .int 0), (0, .ref (Z 0))]) hx hb dX2_bringUnwise_3 rfl hl (by decide) rfl (fun ls hl => ?_)
  have L_4 : ∀ (n : Nat) (x2_4 : Int32) (x1_4 : Int32) (kv_4 : Nat → Nat → Int32) (H : Heap) (locs : List Loc) (ls : Array Slot), 0 ≤ x2_4.toInt → x2_4.toInt ≤ 5 → (5 : Int) < x2_4.toInt + ((n : Nat) : Int) → va_P D vwCl (landW Z cK f kv_4 mv ++ R) H → va_D A (landW Z cK f kv_4 mv ++ R) → va_S A s.heap H locs → lv_has ls 4 [(2, .int x2_4), (1, .int x1_4), (0, .ref (Z 0))] → (∀ (u : Int32 × Int32 × (Nat → Nat → Int32)) (H : Heap) (locs : List Loc) (ls : Array Slot), u = lX2_bringUnwise_4 f n x2_4 x1_4 kv_4 → va_P D vwCl (landW Z cK f u.2.2 mv ++ R) H → va_D A (landW Z cK f u.2.2 mv ++ R) → va_S A s.heap H locs → lv_has ls 4 [(1, .int u.2.1)] → W p l e (rmX 3) s m ([.ref (Z 0)] : List Value).toArray below meth c H locs 0 0 Qm (F0 m 97 ls [])) → W p l e (rmX 3) s m ([.ref (Z 0)] : List Value).toArray below meth c H locs 0 0 Qm (F0 m 4 ls []) := by
    intro n
    induction n with
    | zero =>
      intro x2_4 x1_4 kv_4 H locs ls iv_4_0 iv_4_1 iv_4_2 hP hD hS hl kont_4
      exfalso; omega
    | succ n ih_4 =>
      intro x2_4 x1_4 kv_4 H locs ls iv_4_0 iv_4_1 iv_4_2 hP hD hS hl kont_4
      refine lv_iload_n hx hb dX2_bringUnwise_4 rfl (lv_at hl 0 rfl) ?_
      refine lv_aload_n hx hb dX2_bringUnwise_5 rfl (lv_at hl 2 rfl) ?_
      refine va_get (D := D) (ci := 2) (v := .int (f 2)) (C := RX2) (T := TX2) (N := 12) hx hb hts iX2 hown hK hP 5 rfl rfl 2 (by decide) k24 (fun _ h9 => h9) rfl dX2_bringUnwise_6 ?_
      refine lv_icmp_ge (tgt := 97) hx hb dX2_bringUnwise_9 (by decide) (fun c_1 => ?_) (fun c_1 => ?_)
      · have d_1 := i_le rfl rfl c_1
        exact kont_4 (x2_4, x1_4, kv_4) H locs ls (show lX2_bringUnwise_4 f (n + 1) x2_4 x1_4 kv_4 = (x2_4, x1_4, kv_4) from ((if_pos c_1).trans rfl)).symm  hP hD hS (lv_sub hl [1] rfl)
      · have d_1 := i_len rfl rfl c_1
        refine lv_iload_n hx hb dX2_bringUnwise_12 rfl (lv_at hl 0 rfl) ?_
        refine lv_aload_n hx hb dX2_bringUnwise_13 rfl (lv_at hl 2 rfl) ?_
        refine va_get (D := D) (ci := 2) (v := .ref (Z 1)) (C := RX2) (T := TX2) (N := 12) hx hb hts iX2 hown hK hP 5 rfl rfl 0 (by decide) k11 (fun _ h9 => h9) rfl dX2_bringUnwise_14 ?_
        refine va_alen (v := 5) hx hb hK hP 6 2 rfl rfl rfl dX2_bringUnwise_17 ?_
        refine lv_icmp_ge (tgt := 97) hx hb dX2_bringUnwise_18 (by decide) (fun c_2 => ?_) (fun c_2 => ?_)
        · have d_2 := i_le (show (5 : Int32).toInt = 5 from by decide) rfl c_2
          exact kont_4 (x2_4, x1_4, kv_4) H locs ls (show lX2_bringUnwise_4 f (n + 1) x2_4 x1_4 kv_4 = (x2_4, x1_4, kv_4) from ((if_neg c_1).trans ((if_pos c_2).trans rfl))).symm  hP hD hS (lv_sub hl [1] rfl)
        · have d_2 := i_len (show (5 : Int32).toInt = 5 from by decide) rfl c_2
          refine lv_aload_n hx hb dX2_bringUnwise_21 rfl (lv_at hl 2 rfl) ?_
          refine va_get (D := D) (ci := 2) (v := .ref (Z 1)) (C := RX2) (T := TX2) (N := 12) hx hb hts iX2 hown hK hP 5 rfl rfl 0 (by decide) k11 (fun _ h9 => h9) rfl dX2_bringUnwise_22 ?_
          refine lv_iload_n hx hb dX2_bringUnwise_25 rfl (lv_at hl 0 rfl) ?_
          have q_3 : vp_in x2_4 5 := vp_in_iff.mpr ⟨by omega, by omega⟩
          refine va_aldq hx hb hK hP 6 2 rfl rfl q_3 dX2_bringUnwise_26 ?_
          refine W.eq (g2 := F0 m 27 ls [.ref (Z (3 + x2_4.toNatClampNeg))]) rfl ?_
          have hq_3 : x2_4.toNatClampNeg < 5 := vp_lt q_3
          refine lv_astore_n (lv' := [(3, .ref (Z (3 + x2_4.toNatClampNeg))), (2, .int x2_4), (1, .int x1_4), (0, .ref (Z 0))]) hx hb dX2_bringUnwise_27 rfl hl (by decide) rfl (fun ls hl => ?_)
          refine lv_aload_n hx hb dX2_bringUnwise_28 rfl (lv_at hl 0 rfl) ?_
          refine va_get (D := D) (ci := 1) (v := .int ((kv_4 x2_4.toNatClampNeg) 7)) (C := RX1) (T := TX1) (N := 9) hx hb hts iX1 hown hK hP x2_4.toNatClampNeg (kk_get hq_3) rfl 7 (by decide) k70 (fun _ h9 => h9) rfl dX2_bringUnwise_29 ?_
          have J_4 : ∀ (y_4 : Int32 × (Nat → Nat → Int32)) (H : Heap) (locs : List Loc) (ls : Array Slot), y_4 = (if ((kv_4 x2_4.toNatClampNeg) 7) = 0 then (if ((kv_4 x2_4.toNatClampNeg) 0) = 6 then ((x1_4, kv_4)) else (lt (sX9_guessBy ((kv_4 x2_4.toNatClampNeg) 0) ((kv_4 x2_4.toNatClampNeg) 1) (f 6) (f 7) (f 8) (f 9)) (fun u_7 : Int32 => lt (sX1_pigsBy u_7 (kv_4 x2_4.toNatClampNeg)) (fun u_8 : Int32 => lt (va_up kv_4 x2_4.toNatClampNeg (upd (kv_4 x2_4.toNatClampNeg) 8 u_8)) (fun kv_9 : Nat → Nat → Int32 => lt (x1_4 + (((kv_9 x2_4.toNatClampNeg) 2) * ((kv_9 x2_4.toNatClampNeg) 8))) (fun x_10 : Int32 => (x_10, kv_9))))))) else ((x1_4, kv_4))) → va_P D vwCl (landW Z cK f y_4.2 mv ++ R) H → va_D A (landW Z cK f y_4.2 mv ++ R) → va_S A s.heap H locs → lv_has ls 4 [(2, .int x2_4), (1, .int y_4.1), (0, .ref (Z 0))] → W p l e (rmX 3) s m ([.ref (Z 0)] : List Value).toArray below meth c H locs 0 0 Qm (F0 m 91 ls []) := by
            intro y_4 H locs ls ey_4 hP hD hS hl
            obtain ⟨x_11, ex_11⟩ : ∃ z : Int32, z = x2_4 + 1 := ⟨_, rfl⟩
            refine lv_iinc (v := x_11) (lv' := [(2, .int x_11), (1, .int y_4.1), (0, .ref (Z 0))]) hx hb dX2_bringUnwise_91 hl (k := 0) rfl (by rw [ex_11]; rfl) (by decide) rfl (fun ls hl => ?_)
            refine lv_goto (tgt := 4) hx hb dX2_bringUnwise_94 (by decide) ?_
            have tx_11 : x_11.toInt = x2_4.toInt + 1 := i_inc ex_11 (by decide) (by omega) (by omega)
            refine ih_4 x_11 y_4.1 y_4.2 H locs ls (by omega) (by omega) (by omega) hP hD hS (lv_sub hl [0, 1, 2] rfl) (fun u H locs ls eu  hP hD hS hl => ?_)
            exact kont_4 u H locs ls (eu.trans (show lX2_bringUnwise_4 f (n + 1) x2_4 x1_4 kv_4 = lX2_bringUnwise_4 f n x_11 y_4.1 y_4.2 from ((if_neg c_1).trans ((if_neg c_2).trans (lt_eq ey_4 (lt_eq ex_11 rfl))))).symm)  hP hD hS hl
          refine lv_if_ne (tgt := 91) hx hb dX2_bringUnwise_32 (by decide) (fun c_5 => ?_) (fun c_5 => ?_)
          · have d_5 := i_eqn rfl (show (0 : Int32).toInt = 0 from by decide) c_5
            exact J_4 (x1_4, kv_4) H locs ls (Eq.symm ((if_neg c_5).trans rfl)) hP hD hS (lv_sub hl [1, 2, 3] rfl)
          · have d_5 := i_eq rfl (show (0 : Int32).toInt = 0 from by decide) c_5
            refine lv_aload_n hx hb dX2_bringUnwise_35 rfl (lv_at hl 0 rfl) ?_
            refine va_get (D := D) (ci := 1) (v := .int ((kv_4 x2_4.toNatClampNeg) 0)) (C := RX1) (T := TX1) (N := 9) hx hb hts iX1 hown hK hP x2_4.toNatClampNeg (kk_get hq_3) rfl 0 (by decide) k87 (fun _ h9 => h9) rfl dX2_bringUnwise_36 ?_
            refine lv_bipush (v := 6) hx hb dX2_bringUnwise_39 (by decide) ?_
            refine lv_icmp_eq (tgt := 91) hx hb dX2_bringUnwise_41 (by decide) (fun c_6 => ?_) (fun c_6 => ?_)
            · have d_6 := i_eq rfl (show (6 : Int32).toInt = 6 from by decide) c_6
              exact J_4 (x1_4, kv_4) H locs ls (Eq.symm ((if_pos c_5).trans ((if_pos c_6).trans rfl))) hP hD hS (lv_sub hl [1, 2, 3] rfl)
            · have d_6 := i_eqn rfl (show (6 : Int32).toInt = 6 from by decide) c_6
              refine lv_aload_n hx hb dX2_bringUnwise_44 rfl (lv_at hl 0 rfl) ?_
              refine lv_aload_n hx hb dX2_bringUnwise_45 rfl (lv_at hl 0 rfl) ?_
              refine lv_aload_n hx hb dX2_bringUnwise_46 rfl (lv_at hl 0 rfl) ?_
              refine va_get (D := D) (ci := 1) (v := .int ((kv_4 x2_4.toNatClampNeg) 0)) (C := RX1) (T := TX1) (N := 9) hx hb hts iX1 hown hK hP x2_4.toNatClampNeg (kk_get hq_3) rfl 0 (by decide) k87 (fun _ h9 => h9) rfl dX2_bringUnwise_47 ?_
              refine lv_aload_n hx hb dX2_bringUnwise_50 rfl (lv_at hl 0 rfl) ?_
              refine va_get (D := D) (ci := 1) (v := .int ((kv_4 x2_4.toNatClampNeg) 1)) (C := RX1) (T := TX1) (N := 9) hx hb hts iX1 hown hK hP x2_4.toNatClampNeg (kk_get hq_3) rfl 1 (by decide) k98 (fun _ h9 => h9) rfl dX2_bringUnwise_51 ?_
              refine lv_aload_n hx hb dX2_bringUnwise_54 rfl (lv_at hl 3 rfl) ?_
              refine va_get (D := D) (ci := 2) (v := .int (f 6)) (C := RX2) (T := TX2) (N := 12) hx hb hts iX2 hown hK hP 5 rfl rfl 6 (by decide) k37 (fun _ h9 => h9) rfl dX2_bringUnwise_55 ?_
              refine lv_aload_n hx hb dX2_bringUnwise_58 rfl (lv_at hl 3 rfl) ?_
              refine va_get (D := D) (ci := 2) (v := .int (f 7)) (C := RX2) (T := TX2) (N := 12) hx hb hts iX2 hown hK hP 5 rfl rfl 7 (by decide) k40 (fun _ h9 => h9) rfl dX2_bringUnwise_59 ?_
              refine lv_aload_n hx hb dX2_bringUnwise_62 rfl (lv_at hl 3 rfl) ?_
              refine va_get (D := D) (ci := 2) (v := .int (f 8)) (C := RX2) (T := TX2) (N := 12) hx hb hts iX2 hown hK hP 5 rfl rfl 8 (by decide) k43 (fun _ h9 => h9) rfl dX2_bringUnwise_63 ?_
              refine lv_aload_n hx hb dX2_bringUnwise_66 rfl (lv_at hl 3 rfl) ?_
              refine va_get (D := D) (ci := 2) (v := .int (f 9)) (C := RX2) (T := TX2) (N := 12) hx hb hts iX2 hown hK hP 5 rfl rfl 9 (by decide) k46 (fun _ h9 => h9) rfl dX2_bringUnwise_67 ?_
              refine mx_callS (As := [.int ((kv_4 x2_4.toNatClampNeg) 0), .int ((kv_4 x2_4.toNatClampNeg) 1), .int (f 6), .int (f 7), .int (f 8), .int (f 9)]) (rest := [.ref (Z (3 + x2_4.toNatClampNeg)), .ref (Z (3 + x2_4.toNatClampNeg))]) ⟨hx, hb, hml, hown, hts⟩ (mtX9_guessBy l D cI cB cK cS (landW Z cK f kv_4 mv ++ R) ((kv_4 x2_4.toNatClampNeg) 0) ((kv_4 x2_4.toNatClampNeg) 1) (f 6) (f 7) (f 8) (f 9)) (va_cwS 6 hts gX2_bringUnwise_X9_guessBy rfl rfl rfl (by decide +kernel) ⟨Nat.le_of_ble_eq_true rfl, Nat.le_of_ble_eq_true rfl⟩) pF0_ok trivial hK hP hD hS hA rfl hl.1 rfl (Nat.le_of_ble_eq_true rfl) dX2_bringUnwise_70 ⟨Nat.le_refl _, Nat.le_refl _⟩ (fun u_7 H locs eu_7 hP hD hS => ?_)
              refine W.eq (g2 := F0 m 73 ls [.int u_7, .ref (Z (3 + x2_4.toNatClampNeg)), .ref (Z (3 + x2_4.toNatClampNeg))]) rfl ?_
              have hP : va_P D vwCl (landW Z cK f kv_4 mv ++ R) H := hP
              have hD : va_D A (landW Z cK f kv_4 mv ++ R) := hD
              refine mx_callV (As := [.int u_7]) (rest := [.ref (Z (3 + x2_4.toNatClampNeg))]) ⟨hx, hb, hml, hown, hts⟩ (mtX1_pigsBy l D cI cB cK cS (landW Z cK f kv_4 mv ++ R) (Z (3 + x2_4.toNatClampNeg)) x2_4.toNatClampNeg (kv_4 x2_4.toNatClampNeg) u_7 (kk_get hq_3)) (cwV 1 hts gX2_bringUnwise_X1_pigsBy rfl rfl rfl (by decide +kernel) ⟨Nat.le_of_ble_eq_true rfl, Nat.le_of_ble_eq_true rfl⟩) pF0_ok trivial hK hP hD hS hA x2_4.toNatClampNeg (kk_get hq_3) rfl rfl rfl hl.1 rfl (Nat.le_of_ble_eq_true rfl) dX2_bringUnwise_73 ⟨Nat.le_refl _, Nat.le_refl _⟩ (fun u_8 H locs eu_8 hP hD hS => ?_)
              refine W.eq (g2 := F0 m 76 ls [.int u_8, .ref (Z (3 + x2_4.toNatClampNeg))]) rfl ?_
              have hP : va_P D vwCl (landW Z cK f kv_4 mv ++ R) H := hP
              have hD : va_D A (landW Z cK f kv_4 mv ++ R) := hD
              refine va_put (D := D) (ci := 1) (v := .int u_8) (ty := .int) (C := RX1) (T := TX1) (N := 9) hx hb hts iX1 tyX1 tyX1_ok nmX1 hown hK hP hD hS x2_4.toNatClampNeg (kk_get hq_3) rfl 8 (by decide) k114 (fun _ h9 => h9) rfl (by decide +kernel) rfl rfl (Nat.le_of_ble_eq_true rfl) dX2_bringUnwise_76 (fun H locs hP hD hS => ?_)
              have hP : va_P D vwCl ((landW Z cK f kv_4 mv ++ R).set x2_4.toNatClampNeg (Z (3 + x2_4.toNatClampNeg), .inr (1, kf (upd (kv_4 x2_4.toNatClampNeg) 8 u_8)))) H := hP
              rw [kk_set hq_3] at hP
              have hD : va_D A ((landW Z cK f kv_4 mv ++ R).set x2_4.toNatClampNeg (Z (3 + x2_4.toNatClampNeg), .inr (1, kf (upd (kv_4 x2_4.toNatClampNeg) 8 u_8)))) := hD
              rw [kk_set hq_3] at hD
              obtain ⟨kv_9, ekv_9⟩ : ∃ z : Nat → Nat → Int32, z = va_up kv_4 x2_4.toNatClampNeg (upd (kv_4 x2_4.toNatClampNeg) 8 u_8) := ⟨_, rfl⟩
              rw [← ekv_9] at hP hD
              have hP : va_P D vwCl (landW Z cK f kv_9 mv ++ R) H := hP
              have hD : va_D A (landW Z cK f kv_9 mv ++ R) := hD
              refine lv_iload_n hx hb dX2_bringUnwise_79 rfl (lv_at hl 2 rfl) ?_
              refine lv_aload_n hx hb dX2_bringUnwise_80 rfl (lv_at hl 0 rfl) ?_
              refine va_get (D := D) (ci := 1) (v := .int ((kv_9 x2_4.toNatClampNeg) 2)) (C := RX1) (T := TX1) (N := 9) hx hb hts iX1 hown hK hP x2_4.toNatClampNeg (kk_get hq_3) rfl 2 (by decide) k74 (fun _ h9 => h9) rfl dX2_bringUnwise_81 ?_
              refine lv_aload_n hx hb dX2_bringUnwise_84 rfl (lv_at hl 0 rfl) ?_
              refine va_get (D := D) (ci := 1) (v := .int ((kv_9 x2_4.toNatClampNeg) 8)) (C := RX1) (T := TX1) (N := 9) hx hb hts iX1 hown hK hP x2_4.toNatClampNeg (kk_get hq_3) rfl 8 (by decide) k114 (fun _ h9 => h9) rfl dX2_bringUnwise_85 ?_
              refine lv_imul hx hb dX2_bringUnwise_88 ?_
              refine lv_iadd hx hb dX2_bringUnwise_89 ?_
              refine lv_topi (fun x_10 ex_10 => ?_)
              refine lv_istore_n (lv' := [(1, .int x_10), (3, .ref (Z (3 + x2_4.toNatClampNeg))), (2, .int x2_4), (0, .ref (Z 0))]) hx hb dX2_bringUnwise_90 rfl hl (by decide) rfl (fun ls hl => ?_)
              exact J_4 (x_10, kv_9) H locs ls (Eq.symm ((if_pos c_5).trans ((if_neg c_6).trans (lt_eq eu_7 (lt_eq eu_8 (lt_eq ekv_9 (lt_eq ex_10 rfl))))))) hP hD hS (lv_sub hl [2, 0, 3] rfl)
  refine L_4 6 0 0 kv H locs ls (by decide) (by decide) (by decide) hP hD hS (lv_sub hl [0, 1, 2] rfl) (fun u_12 H locs ls eu_12  hP hD hS hl => ?_)
  have hP : va_P D vwCl (landW Z cK f u_12.2.2 mv ++ R) H := hP
  have hD : va_D A (landW Z cK f u_12.2.2 mv ++ R) := hD
  refine lv_iload_n hx hb dX2_bringUnwise_97 rfl (lv_at hl 0 rfl) ?_
  rw [hQm]
  exact mx_iret (u0 := sX2_bringUnwise f kv) (rv := (fun u => some (.int u.1))) (w1 := (fun u => landW Z cK f u.2 mv ++ R)) (u := (u_12.2.1, u_12.2.2)) hx hb hr hlocks hK hS (lt_eq eu_12 rfl) hP hD rfl dX2_bringUnwise_98

def lX2_bringWise_4 (g : Int32) (f : Nat → Int32) : Nat → Int32 → Int32 → (Nat → Nat → Int32) → Int32 × Int32 × (Nat → Nat → Int32)
  | 0, x3_4, x2_4, kv_4 => (x3_4, x2_4, kv_4)
  | n + 1, x3_4, x2_4, kv_4 => if (f 2) ≤ x3_4 then ((x3_4, x2_4, kv_4)) else (if 5 ≤ x3_4 then ((x3_4, x2_4, kv_4)) else (lt (if ((kv_4 x3_4.toNatClampNeg) 7) = 0 then (if ((kv_4 x3_4.toNatClampNeg) 0) = 6 then (lt (sX1_pigsBy g (kv_4 x3_4.toNatClampNeg)) (fun u_7 : Int32 => lt (va_up kv_4 x3_4.toNatClampNeg (upd (kv_4 x3_4.toNatClampNeg) 8 u_7)) (fun kv_8 : Nat → Nat → Int32 => lt (x2_4 + (((kv_8 x3_4.toNatClampNeg) 2) * ((kv_8 x3_4.toNatClampNeg) 8))) (fun x_9 : Int32 => (x_9, kv_8))))) else ((x2_4, kv_4))) else ((x2_4, kv_4))) (fun y_4 : Int32 × (Nat → Nat → Int32) => lt (x3_4 + 1) (fun x_10 : Int32 => lX2_bringWise_4 g f n x_10 y_4.1 y_4.2))))

def sX2_bringWise (g : Int32) (f : Nat → Int32) (kv : Nat → Nat → Int32) : Int32 × (Nat → Nat → Int32) := lt (lX2_bringWise_4 g f 6 0 0 kv) (fun u_11 : Int32 × Int32 × (Nat → Nat → Int32) => (u_11.2.1, u_11.2.2))
set_option maxHeartbeats 4000000 in
set_option maxRecDepth 100000 in
theorem mtX2_bringWise (l : Launch) (D : va_G) (cI cB cK cS : ClassId) (Z : Nat → Nat) (R : va_W) (f : Nat → Int32) (kv : Nat → Nat → Int32) (mv : Nat → Int32) (g : Int32) : MX l yX2_bringWise wsX2_bringWise (rmX 2) D (tyX cI cB cK cS) pF0 (landW Z cK f kv mv ++ R) [.ref (Z 0), .int g] (sX2_bringWise g f kv) (fun u => some (.int u.1)) (fun u => landW Z cK f u.2 mv ++ R) := by
  refine mx_intro (cc := cX2_bringWise) (maxL := 5) (ret := (some .int)) (by decide) rfl (Nat.le_of_ble_eq_true rfl) ?_
  intro p e s m below meth c A ls H locs Qm hQm hx hb hr hml hts hown hlocks hA hS hP hK hD hF hl
  have hown : s.vm.findClass RX2 = some m.cls := hown
  have hl : lv_has ls 5 [(0, .ref (Z 0)), (1, .int g)] := hl
  have k24 := hts (.fieldLink RX2 24 "PigRounds$Land" "kindCount" "I") (by decide +kernel)
  have k11 := hts (.fieldLink RX2 11 "PigRounds$Land" "kinds" "[LPigRounds$Kind;") (by decide +kernel)
  have k70 := hts (.fieldLink RX2 70 "PigRounds$Kind" "out" "Z") (by decide +kernel)
  have k87 := hts (.fieldLink RX2 87 "PigRounds$Kind" "way" "I") (by decide +kernel)
  have k114 := hts (.fieldLink RX2 114 "PigRounds$Kind" "brought" "I") (by decide +kernel)
  have k74 := hts (.fieldLink RX2 74 "PigRounds$Kind" "many" "I") (by decide +kernel)
  have iX1 : ∀ w ∈ u_ws RX1 TX1 9, w ∈ wsX2_bringWise := by decide +kernel
  have iX2 : ∀ w ∈ u_ws RX2 TX2 12, w ∈ wsX2_bringWise := by decide +kernel
  refine lv_iconst (v := 0) hx hb dX2_bringWise_0 (by decide) ?_
  refine lv_istore_n (lv' := [(2, .int 0), (0, .ref (Z 0)), (1, .int g)]) hx hb dX2_bringWise_1 rfl hl (by decide) rfl (fun ls hl => ?_)
  refine lv_iconst (v := 0) hx hb dX2_bringWise_2 (by decide) ?_
  refine lv_istore_n (lv' := [(3, .int 0), (2, .int 0), (0, .ref (Z 0)), (1, .int g)]) hx hb dX2_bringWise_3 rfl hl (by decide) rfl (fun ls hl => ?_)
  have L_4 : ∀ (n : Nat) (x3_4 : Int32) (x2_4 : Int32) (kv_4 : Nat → Nat → Int32) (H : Heap) (locs : List Loc) (ls : Array Slot), 0 ≤ x3_4.toInt → x3_4.toInt ≤ 5 → (5 : Int) < x3_4.toInt + ((n : Nat) : Int) → va_P D vwCl (landW Z cK f kv_4 mv ++ R) H → va_D A (landW Z cK f kv_4 mv ++ R) → va_S A s.heap H locs → lv_has ls 5 [(3, .int x3_4), (2, .int x2_4), (0, .ref (Z 0)), (1, .int g)] → (∀ (u : Int32 × Int32 × (Nat → Nat → Int32)) (H : Heap) (locs : List Loc) (ls : Array Slot), u = lX2_bringWise_4 g f n x3_4 x2_4 kv_4 → va_P D vwCl (landW Z cK f u.2.2 mv ++ R) H → va_D A (landW Z cK f u.2.2 mv ++ R) → va_S A s.heap H locs → lv_has ls 5 [(2, .int u.2.1)] → W p l e (rmX 2) s m ([.ref (Z 0), .int g] : List Value).toArray below meth c H locs 0 0 Qm (F0 m 78 ls [])) → W p l e (rmX 2) s m ([.ref (Z 0), .int g] : List Value).toArray below meth c H locs 0 0 Qm (F0 m 4 ls []) := by
    intro n
    induction n with
    | zero =>
      intro x3_4 x2_4 kv_4 H locs ls iv_4_0 iv_4_1 iv_4_2 hP hD hS hl kont_4
      exfalso; omega
    | succ n ih_4 =>
      intro x3_4 x2_4 kv_4 H locs ls iv_4_0 iv_4_1 iv_4_2 hP hD hS hl kont_4
      refine lv_iload_n hx hb dX2_bringWise_4 rfl (lv_at hl 0 rfl) ?_
      refine lv_aload_n hx hb dX2_bringWise_5 rfl (lv_at hl 2 rfl) ?_
      refine va_get (D := D) (ci := 2) (v := .int (f 2)) (C := RX2) (T := TX2) (N := 12) hx hb hts iX2 hown hK hP 5 rfl rfl 2 (by decide) k24 (fun _ h9 => h9) rfl dX2_bringWise_6 ?_
      refine lv_icmp_ge (tgt := 78) hx hb dX2_bringWise_9 (by decide) (fun c_1 => ?_) (fun c_1 => ?_)
      · have d_1 := i_le rfl rfl c_1
        exact kont_4 (x3_4, x2_4, kv_4) H locs ls (show lX2_bringWise_4 g f (n + 1) x3_4 x2_4 kv_4 = (x3_4, x2_4, kv_4) from ((if_pos c_1).trans rfl)).symm  hP hD hS (lv_sub hl [1] rfl)
      · have d_1 := i_len rfl rfl c_1
        refine lv_iload_n hx hb dX2_bringWise_12 rfl (lv_at hl 0 rfl) ?_
        refine lv_aload_n hx hb dX2_bringWise_13 rfl (lv_at hl 2 rfl) ?_
        refine va_get (D := D) (ci := 2) (v := .ref (Z 1)) (C := RX2) (T := TX2) (N := 12) hx hb hts iX2 hown hK hP 5 rfl rfl 0 (by decide) k11 (fun _ h9 => h9) rfl dX2_bringWise_14 ?_
        refine va_alen (v := 5) hx hb hK hP 6 2 rfl rfl rfl dX2_bringWise_17 ?_
        refine lv_icmp_ge (tgt := 78) hx hb dX2_bringWise_18 (by decide) (fun c_2 => ?_) (fun c_2 => ?_)
        · have d_2 := i_le (show (5 : Int32).toInt = 5 from by decide) rfl c_2
          exact kont_4 (x3_4, x2_4, kv_4) H locs ls (show lX2_bringWise_4 g f (n + 1) x3_4 x2_4 kv_4 = (x3_4, x2_4, kv_4) from ((if_neg c_1).trans ((if_pos c_2).trans rfl))).symm  hP hD hS (lv_sub hl [1] rfl)
        · have d_2 := i_len (show (5 : Int32).toInt = 5 from by decide) rfl c_2
          refine lv_aload_n hx hb dX2_bringWise_21 rfl (lv_at hl 2 rfl) ?_
          refine va_get (D := D) (ci := 2) (v := .ref (Z 1)) (C := RX2) (T := TX2) (N := 12) hx hb hts iX2 hown hK hP 5 rfl rfl 0 (by decide) k11 (fun _ h9 => h9) rfl dX2_bringWise_22 ?_
          refine lv_iload_n hx hb dX2_bringWise_25 rfl (lv_at hl 0 rfl) ?_
          have q_3 : vp_in x3_4 5 := vp_in_iff.mpr ⟨by omega, by omega⟩
          refine va_aldq hx hb hK hP 6 2 rfl rfl q_3 dX2_bringWise_26 ?_
          refine W.eq (g2 := F0 m 27 ls [.ref (Z (3 + x3_4.toNatClampNeg))]) rfl ?_
          have hq_3 : x3_4.toNatClampNeg < 5 := vp_lt q_3
          refine lv_astore (lv' := [(4, .ref (Z (3 + x3_4.toNatClampNeg))), (3, .int x3_4), (2, .int x2_4), (0, .ref (Z 0)), (1, .int g)]) hx hb dX2_bringWise_27 hl (by decide) rfl (fun ls hl => ?_)
          refine lv_aload hx hb dX2_bringWise_29 (lv_at hl 0 rfl) ?_
          refine va_get (D := D) (ci := 1) (v := .int ((kv_4 x3_4.toNatClampNeg) 7)) (C := RX1) (T := TX1) (N := 9) hx hb hts iX1 hown hK hP x3_4.toNatClampNeg (kk_get hq_3) rfl 7 (by decide) k70 (fun _ h9 => h9) rfl dX2_bringWise_31 ?_
          have J_4 : ∀ (y_4 : Int32 × (Nat → Nat → Int32)) (H : Heap) (locs : List Loc) (ls : Array Slot), y_4 = (if ((kv_4 x3_4.toNatClampNeg) 7) = 0 then (if ((kv_4 x3_4.toNatClampNeg) 0) = 6 then (lt (sX1_pigsBy g (kv_4 x3_4.toNatClampNeg)) (fun u_7 : Int32 => lt (va_up kv_4 x3_4.toNatClampNeg (upd (kv_4 x3_4.toNatClampNeg) 8 u_7)) (fun kv_8 : Nat → Nat → Int32 => lt (x2_4 + (((kv_8 x3_4.toNatClampNeg) 2) * ((kv_8 x3_4.toNatClampNeg) 8))) (fun x_9 : Int32 => (x_9, kv_8))))) else ((x2_4, kv_4))) else ((x2_4, kv_4))) → va_P D vwCl (landW Z cK f y_4.2 mv ++ R) H → va_D A (landW Z cK f y_4.2 mv ++ R) → va_S A s.heap H locs → lv_has ls 5 [(2, .int y_4.1), (3, .int x3_4), (0, .ref (Z 0)), (1, .int g)] → W p l e (rmX 2) s m ([.ref (Z 0), .int g] : List Value).toArray below meth c H locs 0 0 Qm (F0 m 72 ls []) := by
            intro y_4 H locs ls ey_4 hP hD hS hl
            obtain ⟨x_10, ex_10⟩ : ∃ z : Int32, z = x3_4 + 1 := ⟨_, rfl⟩
            refine lv_iinc (v := x_10) (lv' := [(3, .int x_10), (2, .int y_4.1), (0, .ref (Z 0)), (1, .int g)]) hx hb dX2_bringWise_72 hl (k := 1) rfl (by rw [ex_10]; rfl) (by decide) rfl (fun ls hl => ?_)
            refine lv_goto (tgt := 4) hx hb dX2_bringWise_75 (by decide) ?_
            have tx_10 : x_10.toInt = x3_4.toInt + 1 := i_inc ex_10 (by decide) (by omega) (by omega)
            refine ih_4 x_10 y_4.1 y_4.2 H locs ls (by omega) (by omega) (by omega) hP hD hS (lv_sub hl [0, 1, 2, 3] rfl) (fun u H locs ls eu  hP hD hS hl => ?_)
            exact kont_4 u H locs ls (eu.trans (show lX2_bringWise_4 g f (n + 1) x3_4 x2_4 kv_4 = lX2_bringWise_4 g f n x_10 y_4.1 y_4.2 from ((if_neg c_1).trans ((if_neg c_2).trans (lt_eq ey_4 (lt_eq ex_10 rfl))))).symm)  hP hD hS hl
          refine lv_if_ne (tgt := 72) hx hb dX2_bringWise_34 (by decide) (fun c_5 => ?_) (fun c_5 => ?_)
          · have d_5 := i_eqn rfl (show (0 : Int32).toInt = 0 from by decide) c_5
            exact J_4 (x2_4, kv_4) H locs ls (Eq.symm ((if_neg c_5).trans rfl)) hP hD hS (lv_sub hl [2, 1, 3, 4] rfl)
          · have d_5 := i_eq rfl (show (0 : Int32).toInt = 0 from by decide) c_5
            refine lv_aload hx hb dX2_bringWise_37 (lv_at hl 0 rfl) ?_
            refine va_get (D := D) (ci := 1) (v := .int ((kv_4 x3_4.toNatClampNeg) 0)) (C := RX1) (T := TX1) (N := 9) hx hb hts iX1 hown hK hP x3_4.toNatClampNeg (kk_get hq_3) rfl 0 (by decide) k87 (fun _ h9 => h9) rfl dX2_bringWise_39 ?_
            refine lv_bipush (v := 6) hx hb dX2_bringWise_42 (by decide) ?_
            refine lv_icmp_ne (tgt := 72) hx hb dX2_bringWise_44 (by decide) (fun c_6 => ?_) (fun c_6 => ?_)
            · have d_6 := i_eqn rfl (show (6 : Int32).toInt = 6 from by decide) c_6
              exact J_4 (x2_4, kv_4) H locs ls (Eq.symm ((if_pos c_5).trans ((if_neg c_6).trans rfl))) hP hD hS (lv_sub hl [2, 1, 3, 4] rfl)
            · have d_6 := i_eq rfl (show (6 : Int32).toInt = 6 from by decide) c_6
              refine lv_aload hx hb dX2_bringWise_47 (lv_at hl 0 rfl) ?_
              refine lv_aload hx hb dX2_bringWise_49 (lv_at hl 0 rfl) ?_
              refine lv_iload_n hx hb dX2_bringWise_51 rfl (lv_at hl 4 rfl) ?_
              refine mx_callV (As := [.int g]) (rest := [.ref (Z (3 + x3_4.toNatClampNeg))]) ⟨hx, hb, hml, hown, hts⟩ (mtX1_pigsBy l D cI cB cK cS (landW Z cK f kv_4 mv ++ R) (Z (3 + x3_4.toNatClampNeg)) x3_4.toNatClampNeg (kv_4 x3_4.toNatClampNeg) g (kk_get hq_3)) (cwV 1 hts gX2_bringWise_X1_pigsBy rfl rfl rfl (by decide +kernel) ⟨Nat.le_of_ble_eq_true rfl, Nat.le_of_ble_eq_true rfl⟩) pF0_ok trivial hK hP hD hS hA x3_4.toNatClampNeg (kk_get hq_3) rfl rfl rfl hl.1 rfl (Nat.le_of_ble_eq_true rfl) dX2_bringWise_52 ⟨Nat.le_refl _, Nat.le_refl _⟩ (fun u_7 H locs eu_7 hP hD hS => ?_)
              refine W.eq (g2 := F0 m 55 ls [.int u_7, .ref (Z (3 + x3_4.toNatClampNeg))]) rfl ?_
              have hP : va_P D vwCl (landW Z cK f kv_4 mv ++ R) H := hP
              have hD : va_D A (landW Z cK f kv_4 mv ++ R) := hD
              refine va_put (D := D) (ci := 1) (v := .int u_7) (ty := .int) (C := RX1) (T := TX1) (N := 9) hx hb hts iX1 tyX1 tyX1_ok nmX1 hown hK hP hD hS x3_4.toNatClampNeg (kk_get hq_3) rfl 8 (by decide) k114 (fun _ h9 => h9) rfl (by decide +kernel) rfl rfl (Nat.le_of_ble_eq_true rfl) dX2_bringWise_55 (fun H locs hP hD hS => ?_)
              have hP : va_P D vwCl ((landW Z cK f kv_4 mv ++ R).set x3_4.toNatClampNeg (Z (3 + x3_4.toNatClampNeg), .inr (1, kf (upd (kv_4 x3_4.toNatClampNeg) 8 u_7)))) H := hP
              rw [kk_set hq_3] at hP
              have hD : va_D A ((landW Z cK f kv_4 mv ++ R).set x3_4.toNatClampNeg (Z (3 + x3_4.toNatClampNeg), .inr (1, kf (upd (kv_4 x3_4.toNatClampNeg) 8 u_7)))) := hD
              rw [kk_set hq_3] at hD
              obtain ⟨kv_8, ekv_8⟩ : ∃ z : Nat → Nat → Int32, z = va_up kv_4 x3_4.toNatClampNeg (upd (kv_4 x3_4.toNatClampNeg) 8 u_7) := ⟨_, rfl⟩
              rw [← ekv_8] at hP hD
              have hP : va_P D vwCl (landW Z cK f kv_8 mv ++ R) H := hP
              have hD : va_D A (landW Z cK f kv_8 mv ++ R) := hD
              refine lv_iload_n hx hb dX2_bringWise_58 rfl (lv_at hl 2 rfl) ?_
              refine lv_aload hx hb dX2_bringWise_59 (lv_at hl 0 rfl) ?_
              refine va_get (D := D) (ci := 1) (v := .int ((kv_8 x3_4.toNatClampNeg) 2)) (C := RX1) (T := TX1) (N := 9) hx hb hts iX1 hown hK hP x3_4.toNatClampNeg (kk_get hq_3) rfl 2 (by decide) k74 (fun _ h9 => h9) rfl dX2_bringWise_61 ?_
              refine lv_aload hx hb dX2_bringWise_64 (lv_at hl 0 rfl) ?_
              refine va_get (D := D) (ci := 1) (v := .int ((kv_8 x3_4.toNatClampNeg) 8)) (C := RX1) (T := TX1) (N := 9) hx hb hts iX1 hown hK hP x3_4.toNatClampNeg (kk_get hq_3) rfl 8 (by decide) k114 (fun _ h9 => h9) rfl dX2_bringWise_66 ?_
              refine lv_imul hx hb dX2_bringWise_69 ?_
              refine lv_iadd hx hb dX2_bringWise_70 ?_
              refine lv_topi (fun x_9 ex_9 => ?_)
              refine lv_istore_n (lv' := [(2, .int x_9), (4, .ref (Z (3 + x3_4.toNatClampNeg))), (3, .int x3_4), (0, .ref (Z 0)), (1, .int g)]) hx hb dX2_bringWise_71 rfl hl (by decide) rfl (fun ls hl => ?_)
              exact J_4 (x_9, kv_8) H locs ls (Eq.symm ((if_pos c_5).trans ((if_pos c_6).trans (lt_eq eu_7 (lt_eq ekv_8 (lt_eq ex_9 rfl)))))) hP hD hS (lv_sub hl [0, 2, 3, 4] rfl)
  refine L_4 6 0 0 kv H locs ls (by decide) (by decide) (by decide) hP hD hS (lv_sub hl [0, 1, 2, 3] rfl) (fun u_11 H locs ls eu_11  hP hD hS hl => ?_)
  have hP : va_P D vwCl (landW Z cK f u_11.2.2 mv ++ R) H := hP
  have hD : va_D A (landW Z cK f u_11.2.2 mv ++ R) := hD
  refine lv_iload_n hx hb dX2_bringWise_78 rfl (lv_at hl 0 rfl) ?_
  rw [hQm]
  exact mx_iret (u0 := sX2_bringWise g f kv) (rv := (fun u => some (.int u.1))) (w1 := (fun u => landW Z cK f u.2 mv ++ R)) (u := (u_11.2.1, u_11.2.2)) hx hb hr hlocks hK hS (lt_eq eu_11 rfl) hP hD rfl dX2_bringWise_79
