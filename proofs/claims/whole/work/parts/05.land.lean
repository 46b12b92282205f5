def lX2_wiseGuess_5 (g : Int32) (f : Nat → Int32) : Nat → Int32 → Int32 → (Nat → Nat → Int32) → Int32 × Int32 × (Nat → Nat → Int32)
  | 0, x3_5, x2_5, kv_5 => (x3_5, x2_5, kv_5)
  | n + 1, x3_5, x2_5, kv_5 => if x3_5 ≤ 0 then ((x3_5, x2_5, kv_5)) else (lt (x2_5 + x3_5) (fun x_2 : Int32 => lt (if 99 ≤ x_2 then ((x2_5, kv_5)) else (lt (sX2_bringWise x_2 f kv_5) (fun u_5 : Int32 × (Nat → Nat → Int32) => lt (sX2_priceOf (g + u_5.1) f) (fun u_6 : Int32 => if u_6 ≤ x_2 then ((x2_5, u_5.2)) else ((x_2, u_5.2)))))) (fun y_3 : Int32 × (Nat → Nat → Int32) => lt (x3_5 / 2) (fun x_8 : Int32 => lX2_wiseGuess_5 g f n x_8 y_3.1 y_3.2))))

def sX2_wiseGuess (g : Int32) (f : Nat → Int32) (kv : Nat → Nat → Int32) : Int32 × (Nat → Nat → Int32) := lt (lX2_wiseGuess_5 g f 65 64 (-1) kv) (fun u_9 : Int32 × Int32 × (Nat → Nat → Int32) => lt (u_9.2.1 + 1) (fun x_10 : Int32 => if 0 ≤ u_9.2.1 then (lt (sX2_bringWise u_9.2.1 f u_9.2.2) (fun u_12 : Int32 × (Nat → Nat → Int32) => lt (sX2_priceOf (g + u_12.1) f) (fun u_13 : Int32 => lt (u_13 - u_9.2.1) (fun x_14 : Int32 => lt (sX2_bringWise x_10 f u_12.2) (fun u_15 : Int32 × (Nat → Nat → Int32) => lt (sX2_priceOf (g + u_15.1) f) (fun u_16 : Int32 => lt (x_10 - u_16) (fun x_17 : Int32 => if x_17 = 0 then ((x_10, u_15.2)) else (if x_14 ≤ x_17 then ((u_9.2.1, u_15.2)) else ((x_10, u_15.2)))))))))) else ((x_10, u_9.2.2))))
set_option maxHeartbeats 4000000 in
set_option maxRecDepth 100000 in
theorem mtX2_wiseGuess (l : Launch) (D : va_G) (cI cB cK cS : ClassId) (Z : Nat → Nat) (R : va_W) (f : Nat → Int32) (kv : Nat → Nat → Int32) (mv : Nat → Int32) (g : Int32) : MX l yX2_wiseGuess wsX2_wiseGuess (rmX 3) D (tyX cI cB cK cS) pF0 (landW Z cK f kv mv ++ R) [.ref (Z 0), .int g] (sX2_wiseGuess g f kv) (fun u => some (.int u.1)) (fun u => landW Z cK f u.2 mv ++ R) := by
  refine mx_intro (cc := cX2_wiseGuess) (maxL := 6) (ret := (some .int)) (by decide) rfl (Nat.le_of_ble_eq_true rfl) ?_
  intro p e s m below meth c A ls H locs Qm hQm hx hb hr hml hts hown hlocks hA hS hP hK hD hF hl
  have hown : s.vm.findClass RX2 = some m.cls := hown
  have hl : lv_has ls 6 [(0, .ref (Z 0)), (1, .int g)] := hl
  refine lv_iconst (v := (-1)) hx hb dX2_wiseGuess_0 (by decide) ?_
  refine lv_istore_n (lv' := [(2, .int (-1)), (0, .ref (Z 0)), (1, .int g)]) hx hb dX2_wiseGuess_1 rfl hl (by decide) rfl (fun ls hl => ?_)
  refine lv_bipush (v := 64) hx hb dX2_wiseGuess_2 (by decide) ?_
  refine lv_istore_n (lv' := [(3, .int 64), (2, .int (-1)), (0, .ref (Z 0)), (1, .int g)]) hx hb dX2_wiseGuess_4 rfl hl (by decide) rfl (fun ls hl => ?_)
  have L_5 : ∀ (n : Nat) (x3_5 : Int32) (x2_5 : Int32) (kv_5 : Nat → Nat → Int32) (H : Heap) (locs : List Loc) (ls : Array Slot), 0 ≤ x3_5.toInt → x3_5.toInt < ((n : Nat) : Int) → va_P D vwCl (landW Z cK f kv_5 mv ++ R) H → va_D A (landW Z cK f kv_5 mv ++ R) → va_S A s.heap H locs → lv_has ls 6 [(3, .int x3_5), (2, .int x2_5), (0, .ref (Z 0)), (1, .int g)] → (∀ (u : Int32 × Int32 × (Nat → Nat → Int32)) (H : Heap) (locs : List Loc) (ls : Array Slot), u = lX2_wiseGuess_5 g f n x3_5 x2_5 kv_5 → va_P D vwCl (landW Z cK f u.2.2 mv ++ R) H → va_D A (landW Z cK f u.2.2 mv ++ R) → va_S A s.heap H locs → lv_has ls 6 [(2, .int u.2.1), (0, .ref (Z 0)), (1, .int g)] → W p l e (rmX 3) s m ([.ref (Z 0), .int g] : List Value).toArray below meth c H locs 0 0 Qm (F0 m 48 ls [])) → W p l e (rmX 3) s m ([.ref (Z 0), .int g] : List Value).toArray below meth c H locs 0 0 Qm (F0 m 5 ls []) := by
    intro n
    induction n with
    | zero =>
      intro x3_5 x2_5 kv_5 H locs ls iv_5_0 iv_5_1 hP hD hS hl kont_5
      exfalso; omega
    | succ n ih_5 =>
      intro x3_5 x2_5 kv_5 H locs ls iv_5_0 iv_5_1 hP hD hS hl kont_5
      refine lv_iload_n hx hb dX2_wiseGuess_5 rfl (lv_at hl 0 rfl) ?_
      refine lv_if_le (tgt := 48) hx hb dX2_wiseGuess_6 (by decide) (fun c_1 => ?_) (fun c_1 => ?_)
      · have d_1 := i_le rfl (show (0 : Int32).toInt = 0 from by decide) c_1
        exact kont_5 (x3_5, x2_5, kv_5) H locs ls (show lX2_wiseGuess_5 g f (n + 1) x3_5 x2_5 kv_5 = (x3_5, x2_5, kv_5) from ((if_pos c_1).trans rfl)).symm  hP hD hS (lv_sub hl [1, 2, 3] rfl)
      · have d_1 := i_len rfl (show (0 : Int32).toInt = 0 from by decide) c_1
        refine lv_iload_n hx hb dX2_wiseGuess_9 rfl (lv_at hl 1 rfl) ?_
        refine lv_iload_n hx hb dX2_wiseGuess_10 rfl (lv_at hl 0 rfl) ?_
        refine lv_iadd hx hb dX2_wiseGuess_11 ?_
        refine lv_topi (fun x_2 ex_2 => ?_)
        refine lv_istore (lv' := [(4, .int x_2), (3, .int x3_5), (2, .int x2_5), (0, .ref (Z 0)), (1, .int g)]) hx hb dX2_wiseGuess_12 hl (by decide) rfl (fun ls hl => ?_)
        refine lv_iload hx hb dX2_wiseGuess_14 (lv_at hl 0 rfl) ?_
        refine lv_bipush (v := 99) hx hb dX2_wiseGuess_16 (by decide) ?_
        have J_3 : ∀ (y_3 : Int32 × (Nat → Nat → Int32)) (H : Heap) (locs : List Loc) (ls : Array Slot), y_3 = (if 99 ≤ x_2 then ((x2_5, kv_5)) else (lt (sX2_bringWise x_2 f kv_5) (fun u_5 : Int32 × (Nat → Nat → Int32) => lt (sX2_priceOf (g + u_5.1) f) (fun u_6 : Int32 => if u_6 ≤ x_2 then ((x2_5, u_5.2)) else ((x_2, u_5.2)))))) → va_P D vwCl (landW Z cK f y_3.2 mv ++ R) H → va_D A (landW Z cK f y_3.2 mv ++ R) → va_S A s.heap H locs → lv_has ls 6 [(3, .int x3_5), (2, .int y_3.1), (0, .ref (Z 0)), (1, .int g)] → W p l e (rmX 3) s m ([.ref (Z 0), .int g] : List Value).toArray below meth c H locs 0 0 Qm (F0 m 41 ls []) := by
          intro y_3 H locs ls ey_3 hP hD hS hl
          refine lv_iload_n hx hb dX2_wiseGuess_41 rfl (lv_at hl 0 rfl) ?_
          refine lv_iconst (v := 2) hx hb dX2_wiseGuess_42 (by decide) ?_
          refine lv_idiv hx hb dX2_wiseGuess_43 (by decide) ?_
          refine lv_topi (fun x_8 ex_8 => ?_)
          refine lv_istore_n (lv' := [(3, .int x_8), (2, .int y_3.1), (0, .ref (Z 0)), (1, .int g)]) hx hb dX2_wiseGuess_44 rfl hl (by decide) rfl (fun ls hl => ?_)
          refine lv_goto (tgt := 5) hx hb dX2_wiseGuess_45 (by decide) ?_
          have t_half : x_8.toInt = x3_5.toInt / 2 := i_half ex_8 (by omega)
          refine ih_5 x_8 y_3.1 y_3.2 H locs ls (by omega) (by omega) hP hD hS (lv_sub hl [0, 1, 2, 3] rfl) (fun u H locs ls eu  hP hD hS hl => ?_)
          exact kont_5 u H locs ls (eu.trans (show lX2_wiseGuess_5 g f (n + 1) x3_5 x2_5 kv_5 = lX2_wiseGuess_5 g f n x_8 y_3.1 y_3.2 from ((if_neg c_1).trans (lt_eq ex_2 (lt_eq ey_3 (lt_eq ex_8 rfl))))).symm)  hP hD hS hl
        refine lv_icmp_ge (tgt := 41) hx hb dX2_wiseGuess_18 (by decide) (fun c_4 => ?_) (fun c_4 => ?_)
        · have d_4 := i_le (show (99 : Int32).toInt = 99 from by decide) rfl c_4
          exact J_3 (x2_5, kv_5) H locs ls (Eq.symm ((if_pos c_4).trans rfl)) hP hD hS (lv_sub hl [1, 2, 3, 4] rfl)
        · have d_4 := i_len (show (99 : Int32).toInt = 99 from by decide) rfl c_4
          refine lv_aload_n hx hb dX2_wiseGuess_21 rfl (lv_at hl 3 rfl) ?_
          refine lv_iload_n hx hb dX2_wiseGuess_22 rfl (lv_at hl 4 rfl) ?_
          refine lv_aload_n hx hb dX2_wiseGuess_23 rfl (lv_at hl 3 rfl) ?_
          refine lv_iload hx hb dX2_wiseGuess_24 (lv_at hl 0 rfl) ?_
          refine mx_callV (As := [.int x_2]) (rest := [.int g, .ref (Z 0)]) ⟨hx, hb, hml, hown, hts⟩ (mtX2_bringWise l D cI cB cK cS Z R f kv_5 mv x_2) (cwV 1 hts gX2_wiseGuess_X2_bringWise rfl rfl rfl (by decide +kernel) ⟨Nat.le_of_ble_eq_true rfl, Nat.le_of_ble_eq_true rfl⟩) pF0_ok trivial hK hP hD hS hA 5 rfl rfl rfl rfl hl.1 rfl (Nat.le_of_ble_eq_true rfl) dX2_wiseGuess_26 ⟨Nat.le_refl _, Nat.le_refl _⟩ (fun u_5 H locs eu_5 hP hD hS => ?_)
          refine W.eq (g2 := F0 m 29 ls [.int u_5.1, .int g, .ref (Z 0)]) rfl ?_
          have hP : va_P D vwCl (landW Z cK f u_5.2 mv ++ R) H := hP
          have hD : va_D A (landW Z cK f u_5.2 mv ++ R) := hD
          refine lv_iadd hx hb dX2_wiseGuess_29 ?_
          refine mx_callV (As := [.int (g + u_5.1)]) (rest := []) ⟨hx, hb, hml, hown, hts⟩ (mtX2_priceOf l D cI cB cK cS Z R f u_5.2 mv (g + u_5.1)) (cwV 1 hts gX2_wiseGuess_X2_priceOf rfl rfl rfl (by decide +kernel) ⟨Nat.le_of_ble_eq_true rfl, Nat.le_of_ble_eq_true rfl⟩) pF0_ok trivial hK hP hD hS hA 5 rfl rfl rfl rfl hl.1 rfl (Nat.le_of_ble_eq_true rfl) dX2_wiseGuess_30 ⟨Nat.le_refl _, Nat.le_refl _⟩ (fun u_6 H locs eu_6 hP hD hS => ?_)
          refine W.eq (g2 := F0 m 33 ls [.int u_6]) rfl ?_
          have hP : va_P D vwCl (landW Z cK f u_5.2 mv ++ R) H := hP
          have hD : va_D A (landW Z cK f u_5.2 mv ++ R) := hD
          refine lv_iload hx hb dX2_wiseGuess_33 (lv_at hl 0 rfl) ?_
          refine lv_icmp_le (tgt := 41) hx hb dX2_wiseGuess_35 (by decide) (fun c_7 => ?_) (fun c_7 => ?_)
          · have d_7 := i_le rfl rfl c_7
            exact J_3 (x2_5, u_5.2) H locs ls (Eq.symm ((if_neg c_4).trans (lt_eq eu_5 (lt_eq eu_6 ((if_pos c_7).trans rfl))))) hP hD hS (lv_sub hl [1, 2, 3, 4] rfl)
          · have d_7 := i_len rfl rfl c_7
            refine lv_iload hx hb dX2_wiseGuess_38 (lv_at hl 0 rfl) ?_
            refine lv_istore_n (lv' := [(2, .int x_2), (4, .int x_2), (3, .int x3_5), (0, .ref (Z 0)), (1, .int g)]) hx hb dX2_wiseGuess_40 rfl hl (by decide) rfl (fun ls hl => ?_)
            exact J_3 (x_2, u_5.2) H locs ls (Eq.symm ((if_neg c_4).trans (lt_eq eu_5 (lt_eq eu_6 ((if_neg c_7).trans rfl))))) hP hD hS (lv_sub hl [2, 0, 3, 4] rfl)
  refine L_5 65 64 (-1) kv H locs ls (by decide) (by decide) hP hD hS (lv_sub hl [0, 1, 2, 3] rfl) (fun u_9 H locs ls eu_9  hP hD hS hl => ?_)
  have hP : va_P D vwCl (landW Z cK f u_9.2.2 mv ++ R) H := hP
  have hD : va_D A (landW Z cK f u_9.2.2 mv ++ R) := hD
  refine lv_iload_n hx hb dX2_wiseGuess_48 rfl (lv_at hl 0 rfl) ?_
  refine lv_iconst (v := 1) hx hb dX2_wiseGuess_49 (by decide) ?_
  refine lv_iadd hx hb dX2_wiseGuess_50 ?_
  refine lv_topi (fun x_10 ex_10 => ?_)
  refine lv_istore_n (lv' := [(3, .int x_10), (2, .int u_9.2.1), (0, .ref (Z 0)), (1, .int g)]) hx hb dX2_wiseGuess_51 rfl hl (by decide) rfl (fun ls hl => ?_)
  refine lv_iload_n hx hb dX2_wiseGuess_52 rfl (lv_at hl 1 rfl) ?_
  refine lv_if_ge (tgt := 58) hx hb dX2_wiseGuess_53 (by decide) (fun c_11 => ?_) (fun c_11 => ?_)
  · have d_11 := i_le (show (0 : Int32).toInt = 0 from by decide) rfl c_11
    refine lv_aload_n hx hb dX2_wiseGuess_58 rfl (lv_at hl 2 rfl) ?_
    refine lv_iload_n hx hb dX2_wiseGuess_59 rfl (lv_at hl 3 rfl) ?_
    refine lv_aload_n hx hb dX2_wiseGuess_60 rfl (lv_at hl 2 rfl) ?_
    refine lv_iload_n hx hb dX2_wiseGuess_61 rfl (lv_at hl 1 rfl) ?_
    refine mx_callV (As := [.int u_9.2.1]) (rest := [.int g, .ref (Z 0)]) ⟨hx, hb, hml, hown, hts⟩ (mtX2_bringWise l D cI cB cK cS Z R f u_9.2.2 mv u_9.2.1) (cwV 1 hts gX2_wiseGuess_X2_bringWise rfl rfl rfl (by decide +kernel) ⟨Nat.le_of_ble_eq_true rfl, Nat.le_of_ble_eq_true rfl⟩) pF0_ok trivial hK hP hD hS hA 5 rfl rfl rfl rfl hl.1 rfl (Nat.le_of_ble_eq_true rfl) dX2_wiseGuess_62 ⟨Nat.le_refl _, Nat.le_refl _⟩ (fun u_12 H locs eu_12 hP hD hS => ?_)
    refine W.eq (g2 := F0 m 65 ls [.int u_12.1, .int g, .ref (Z 0)]) rfl ?_
    have hP : va_P D vwCl (landW Z cK f u_12.2 mv ++ R) H := hP
    have hD : va_D A (landW Z cK f u_12.2 mv ++ R) := hD
    refine lv_iadd hx hb dX2_wiseGuess_65 ?_
    refine mx_callV (As := [.int (g + u_12.1)]) (rest := []) ⟨hx, hb, hml, hown, hts⟩ (mtX2_priceOf l D cI cB cK cS Z R f u_12.2 mv (g + u_12.1)) (cwV 1 hts gX2_wiseGuess_X2_priceOf rfl rfl rfl (by decide +kernel) ⟨Nat.le_of_ble_eq_true rfl, Nat.le_of_ble_eq_true rfl⟩) pF0_ok trivial hK hP hD hS hA 5 rfl rfl rfl rfl hl.1 rfl (Nat.le_of_ble_eq_true rfl) dX2_wiseGuess_66 ⟨Nat.le_refl _, Nat.le_refl _⟩ (fun u_13 H locs eu_13 hP hD hS => ?_)
    refine W.eq (g2 := F0 m 69 ls [.int u_13]) rfl ?_
    have hP : va_P D vwCl (landW Z cK f u_12.2 mv ++ R) H := hP
    have hD : va_D A (landW Z cK f u_12.2 mv ++ R) := hD
    refine lv_iload_n hx hb dX2_wiseGuess_69 rfl (lv_at hl 1 rfl) ?_
    refine lv_isub hx hb dX2_wiseGuess_70 ?_
    refine lv_topi (fun x_14 ex_14 => ?_)
    refine lv_istore (lv' := [(4, .int x_14), (3, .int x_10), (2, .int u_9.2.1), (0, .ref (Z 0)), (1, .int g)]) hx hb dX2_wiseGuess_71 hl (by decide) rfl (fun ls hl => ?_)
    refine lv_iload_n hx hb dX2_wiseGuess_73 rfl (lv_at hl 1 rfl) ?_
    refine lv_aload_n hx hb dX2_wiseGuess_74 rfl (lv_at hl 3 rfl) ?_
    refine lv_iload_n hx hb dX2_wiseGuess_75 rfl (lv_at hl 4 rfl) ?_
    refine lv_aload_n hx hb dX2_wiseGuess_76 rfl (lv_at hl 3 rfl) ?_
    refine lv_iload_n hx hb dX2_wiseGuess_77 rfl (lv_at hl 1 rfl) ?_
    refine mx_callV (As := [.int x_10]) (rest := [.int g, .ref (Z 0), .int x_10]) ⟨hx, hb, hml, hown, hts⟩ (mtX2_bringWise l D cI cB cK cS Z R f u_12.2 mv x_10) (cwV 1 hts gX2_wiseGuess_X2_bringWise rfl rfl rfl (by decide +kernel) ⟨Nat.le_of_ble_eq_true rfl, Nat.le_of_ble_eq_true rfl⟩) pF0_ok trivial hK hP hD hS hA 5 rfl rfl rfl rfl hl.1 rfl (Nat.le_of_ble_eq_true rfl) dX2_wiseGuess_78 ⟨Nat.le_refl _, Nat.le_refl _⟩ (fun u_15 H locs eu_15 hP hD hS => ?_)
    refine W.eq (g2 := F0 m 81 ls [.int u_15.1, .int g, .ref (Z 0), .int x_10]) rfl ?_
    have hP : va_P D vwCl (landW Z cK f u_15.2 mv ++ R) H := hP
    have hD : va_D A (landW Z cK f u_15.2 mv ++ R) := hD
    refine lv_iadd hx hb dX2_wiseGuess_81 ?_
    refine mx_callV (As := [.int (g + u_15.1)]) (rest := [.int x_10]) ⟨hx, hb, hml, hown, hts⟩ (mtX2_priceOf l D cI cB cK cS Z R f u_15.2 mv (g + u_15.1)) (cwV 1 hts gX2_wiseGuess_X2_priceOf rfl rfl rfl (by decide +kernel) ⟨Nat.le_of_ble_eq_true rfl, Nat.le_of_ble_eq_true rfl⟩) pF0_ok trivial hK hP hD hS hA 5 rfl rfl rfl rfl hl.1 rfl (Nat.le_of_ble_eq_true rfl) dX2_wiseGuess_82 ⟨Nat.le_refl _, Nat.le_refl _⟩ (fun u_16 H locs eu_16 hP hD hS => ?_)
    refine W.eq (g2 := F0 m 85 ls [.int u_16, .int x_10]) rfl ?_
    have hP : va_P D vwCl (landW Z cK f u_15.2 mv ++ R) H := hP
    have hD : va_D A (landW Z cK f u_15.2 mv ++ R) := hD
    refine lv_isub hx hb dX2_wiseGuess_85 ?_
    refine lv_topi (fun x_17 ex_17 => ?_)
    refine lv_istore (lv' := [(5, .int x_17), (4, .int x_14), (3, .int x_10), (2, .int u_9.2.1), (0, .ref (Z 0)), (1, .int g)]) hx hb dX2_wiseGuess_86 hl (by decide) rfl (fun ls hl => ?_)
    refine lv_iload hx hb dX2_wiseGuess_88 (lv_at hl 0 rfl) ?_
    refine lv_if_eq (tgt := 100) hx hb dX2_wiseGuess_90 (by decide) (fun c_18 => ?_) (fun c_18 => ?_)
    · have d_18 := i_eq rfl (show (0 : Int32).toInt = 0 from by decide) c_18
      refine lv_iload_n hx hb dX2_wiseGuess_100 rfl (lv_at hl 2 rfl) ?_
      refine lv_goto (tgt := 105) hx hb dX2_wiseGuess_101 (by decide) ?_
      rw [hQm]
      exact mx_iret (u0 := sX2_wiseGuess g f kv) (rv := (fun u => some (.int u.1))) (w1 := (fun u => landW Z cK f u.2 mv ++ R)) (u := (x_10, u_15.2)) hx hb hr hlocks hK hS (lt_eq eu_9 (lt_eq ex_10 ((if_pos c_11).trans (lt_eq eu_12 (lt_eq eu_13 (lt_eq ex_14 (lt_eq eu_15 (lt_eq eu_16 (lt_eq ex_17 ((if_pos c_18).trans rfl)))))))))) hP hD rfl dX2_wiseGuess_105
    · have d_18 := i_eqn rfl (show (0 : Int32).toInt = 0 from by decide) c_18
      refine lv_iload hx hb dX2_wiseGuess_93 (lv_at hl 0 rfl) ?_
      refine lv_iload hx hb dX2_wiseGuess_95 (lv_at hl 1 rfl) ?_
      refine lv_icmp_ge (tgt := 104) hx hb dX2_wiseGuess_97 (by decide) (fun c_19 => ?_) (fun c_19 => ?_)
      · have d_19 := i_le rfl rfl c_19
        refine lv_iload_n hx hb dX2_wiseGuess_104 rfl (lv_at hl 3 rfl) ?_
        rw [hQm]
        exact mx_iret (u0 := sX2_wiseGuess g f kv) (rv := (fun u => some (.int u.1))) (w1 := (fun u => landW Z cK f u.2 mv ++ R)) (u := (u_9.2.1, u_15.2)) hx hb hr hlocks hK hS (lt_eq eu_9 (lt_eq ex_10 ((if_pos c_11).trans (lt_eq eu_12 (lt_eq eu_13 (lt_eq ex_14 (lt_eq eu_15 (lt_eq eu_16 (lt_eq ex_17 ((if_neg c_18).trans ((if_pos c_19).trans rfl))))))))))) hP hD rfl dX2_wiseGuess_105
      · have d_19 := i_len rfl rfl c_19
        refine lv_iload_n hx hb dX2_wiseGuess_100 rfl (lv_at hl 2 rfl) ?_
        refine lv_goto (tgt := 105) hx hb dX2_wiseGuess_101 (by decide) ?_
        rw [hQm]
        exact mx_iret (u0 := sX2_wiseGuess g f kv) (rv := (fun u => some (.int u.1))) (w1 := (fun u => landW Z cK f u.2 mv ++ R)) (u := (x_10, u_15.2)) hx hb hr hlocks hK hS (lt_eq eu_9 (lt_eq ex_10 ((if_pos c_11).trans (lt_eq eu_12 (lt_eq eu_13 (lt_eq ex_14 (lt_eq eu_15 (lt_eq eu_16 (lt_eq ex_17 ((if_neg c_18).trans ((if_neg c_19).trans rfl))))))))))) hP hD rfl dX2_wiseGuess_105
  · have d_11 := i_len (show (0 : Int32).toInt = 0 from by decide) rfl c_11
    refine lv_iload_n hx hb dX2_wiseGuess_56 rfl (lv_at hl 0 rfl) ?_
    rw [hQm]
    exact mx_iret (u0 := sX2_wiseGuess g f kv) (rv := (fun u => some (.int u.1))) (w1 := (fun u => landW Z cK f u.2 mv ++ R)) (u := (x_10, u_9.2.2)) hx hb hr hlocks hK hS (lt_eq eu_9 (lt_eq ex_10 ((if_neg c_11).trans rfl))) hP hD rfl dX2_wiseGuess_57

def lX2_payFarmers_2 (g : Int32) (f : Nat → Int32) : Nat → Int32 → (Nat → Nat → Int32) → Int32 × (Nat → Nat → Int32)
  | 0, x2_2, kv_2 => (x2_2, kv_2)
  | n + 1, x2_2, kv_2 => if (f 2) ≤ x2_2 then ((x2_2, kv_2)) else (if 5 ≤ x2_2 then ((x2_2, kv_2)) else (lt (if ((kv_2 x2_2.toNatClampNeg) 7) = 0 then (lt (sX1_earn g (kv_2 x2_2.toNatClampNeg)) (fun u_8 : (Nat → Int32) => lt (va_up kv_2 x2_2.toNatClampNeg u_8) (fun kv_9 : Nat → Nat → Int32 => kv_9))) else (kv_2)) (fun y_5 : Nat → Nat → Int32 => lt (x2_2 + 1) (fun x_10 : Int32 => lX2_payFarmers_2 g f n x_10 y_5))))

def sX2_payFarmers (g : Int32) (f : Nat → Int32) (kv : Nat → Nat → Int32) : (Nat → Nat → Int32) := lt (lX2_payFarmers_2 g f 6 0 kv) (fun u_11 : Int32 × (Nat → Nat → Int32) => (u_11.2))
set_option maxHeartbeats 4000000 in
set_option maxRecDepth 100000 in
theorem mtX2_payFarmers (l : Launch) (D : va_G) (cI cB cK cS : ClassId) (Z : Nat → Nat) (R : va_W) (f : Nat → Int32) (kv : Nat → Nat → Int32) (mv : Nat → Int32) (g : Int32) : MX l yX2_payFarmers wsX2_payFarmers (rmX 2) D (tyX cI cB cK cS) pF0 (landW Z cK f kv mv ++ R) [.ref (Z 0), .int g] (sX2_payFarmers g f kv) (fun _ => none) (fun u => landW Z cK f u mv ++ R) := by
  refine mx_intro (cc := cX2_payFarmers) (maxL := 3) (ret := none) (by decide) rfl (Nat.le_of_ble_eq_true rfl) ?_
  intro p e s m below meth c A ls H locs Qm hQm hx hb hr hml hts hown hlocks hA hS hP hK hD hF hl
  have hown : s.vm.findClass RX2 = some m.cls := hown
  have hl : lv_has ls 3 [(0, .ref (Z 0)), (1, .int g)] := hl
  have k24 := hts (.fieldLink RX2 24 "PigRounds$Land" "kindCount" "I") (by decide +kernel)
  have k11 := hts (.fieldLink RX2 11 "PigRounds$Land" "kinds" "[LPigRounds$Kind;") (by decide +kernel)
  have k70 := hts (.fieldLink RX2 70 "PigRounds$Kind" "out" "Z") (by decide +kernel)
  have iX1 : ∀ w ∈ u_ws RX1 TX1 9, w ∈ wsX2_payFarmers := by decide +kernel
  have iX2 : ∀ w ∈ u_ws RX2 TX2 12, w ∈ wsX2_payFarmers := by decide +kernel
  refine lv_iconst (v := 0) hx hb dX2_payFarmers_0 (by decide) ?_
  refine lv_istore_n (lv' := [(2, .int 0), (0, .ref (Z 0)), (1, .int g)]) hx hb dX2_payFarmers_1 rfl hl (by decide) rfl (fun ls hl => ?_)
  have L_2 : ∀ (n : Nat) (x2_2 : Int32) (kv_2 : Nat → Nat → Int32) (H : Heap) (locs : List Loc) (ls : Array Slot), 0 ≤ x2_2.toInt → x2_2.toInt ≤ 5 → (5 : Int) < x2_2.toInt + ((n : Nat) : Int) → va_P D vwCl (landW Z cK f kv_2 mv ++ R) H → va_D A (landW Z cK f kv_2 mv ++ R) → va_S A s.heap H locs → lv_has ls 3 [(2, .int x2_2), (0, .ref (Z 0)), (1, .int g)] → (∀ (u : Int32 × (Nat → Nat → Int32)) (H : Heap) (locs : List Loc) (ls : Array Slot), u = lX2_payFarmers_2 g f n x2_2 kv_2 → va_P D vwCl (landW Z cK f u.2 mv ++ R) H → va_D A (landW Z cK f u.2 mv ++ R) → va_S A s.heap H locs → lv_has ls 3 [] → W p l e (rmX 2) s m ([.ref (Z 0), .int g] : List Value).toArray below meth c H locs 0 0 Qm (F0 m 47 ls [])) → W p l e (rmX 2) s m ([.ref (Z 0), .int g] : List Value).toArray below meth c H locs 0 0 Qm (F0 m 2 ls []) := by
    intro n
    induction n with
    | zero =>
      intro x2_2 kv_2 H locs ls iv_2_0 iv_2_1 iv_2_2 hP hD hS hl kont_2
      exfalso; omega
    | succ n ih_2 =>
      intro x2_2 kv_2 H locs ls iv_2_0 iv_2_1 iv_2_2 hP hD hS hl kont_2
      refine lv_iload_n hx hb dX2_payFarmers_2 rfl (lv_at hl 0 rfl) ?_
      refine lv_aload_n hx hb dX2_payFarmers_3 rfl (lv_at hl 1 rfl) ?_
      refine va_get (D := D) (ci := 2) (v := .int (f 2)) (C := RX2) (T := TX2) (N := 12) hx hb hts iX2 hown hK hP 5 rfl rfl 2 (by decide) k24 (fun _ h9 => h9) rfl dX2_payFarmers_4 ?_
      refine lv_icmp_ge (tgt := 47) hx hb dX2_payFarmers_7 (by decide) (fun c_1 => ?_) (fun c_1 => ?_)
      · have d_1 := i_le rfl rfl c_1
        exact kont_2 (x2_2, kv_2) H locs ls (show lX2_payFarmers_2 g f (n + 1) x2_2 kv_2 = (x2_2, kv_2) from ((if_pos c_1).trans rfl)).symm  hP hD hS (lv_sub hl [] rfl)
      · have d_1 := i_len rfl rfl c_1
        refine lv_iload_n hx hb dX2_payFarmers_10 rfl (lv_at hl 0 rfl) ?_
        refine lv_aload_n hx hb dX2_payFarmers_11 rfl (lv_at hl 1 rfl) ?_
        refine va_get (D := D) (ci := 2) (v := .ref (Z 1)) (C := RX2) (T := TX2) (N := 12) hx hb hts iX2 hown hK hP 5 rfl rfl 0 (by decide) k11 (fun _ h9 => h9) rfl dX2_payFarmers_12 ?_
        refine va_alen (v := 5) hx hb hK hP 6 2 rfl rfl rfl dX2_payFarmers_15 ?_
        refine lv_icmp_ge (tgt := 47) hx hb dX2_payFarmers_16 (by decide) (fun c_2 => ?_) (fun c_2 => ?_)
        · have d_2 := i_le (show (5 : Int32).toInt = 5 from by decide) rfl c_2
          exact kont_2 (x2_2, kv_2) H locs ls (show lX2_payFarmers_2 g f (n + 1) x2_2 kv_2 = (x2_2, kv_2) from ((if_neg c_1).trans ((if_pos c_2).trans rfl))).symm  hP hD hS (lv_sub hl [] rfl)
        · have d_2 := i_len (show (5 : Int32).toInt = 5 from by decide) rfl c_2
          refine lv_aload_n hx hb dX2_payFarmers_19 rfl (lv_at hl 1 rfl) ?_
          refine va_get (D := D) (ci := 2) (v := .ref (Z 1)) (C := RX2) (T := TX2) (N := 12) hx hb hts iX2 hown hK hP 5 rfl rfl 0 (by decide) k11 (fun _ h9 => h9) rfl dX2_payFarmers_20 ?_
          refine lv_iload_n hx hb dX2_payFarmers_23 rfl (lv_at hl 0 rfl) ?_
          have q_3 : vp_in x2_2 5 := vp_in_iff.mpr ⟨by omega, by omega⟩
          refine va_aldq hx hb hK hP 6 2 rfl rfl q_3 dX2_payFarmers_24 ?_
          refine W.eq (g2 := F0 m 25 ls [.ref (Z (3 + x2_2.toNatClampNeg))]) rfl ?_
          have hq_3 : x2_2.toNatClampNeg < 5 := vp_lt q_3
          refine va_get (D := D) (ci := 1) (v := .int ((kv_2 x2_2.toNatClampNeg) 7)) (C := RX1) (T := TX1) (N := 9) hx hb hts iX1 hown hK hP x2_2.toNatClampNeg (kk_get hq_3) rfl 7 (by decide) k70 (fun _ h9 => h9) rfl dX2_payFarmers_25 ?_
          have J_5 : ∀ (y_5 : Nat → Nat → Int32) (H : Heap) (locs : List Loc) (ls : Array Slot), y_5 = (if ((kv_2 x2_2.toNatClampNeg) 7) = 0 then (lt (sX1_earn g (kv_2 x2_2.toNatClampNeg)) (fun u_8 : (Nat → Int32) => lt (va_up kv_2 x2_2.toNatClampNeg u_8) (fun kv_9 : Nat → Nat → Int32 => kv_9))) else (kv_2)) → va_P D vwCl (landW Z cK f y_5 mv ++ R) H → va_D A (landW Z cK f y_5 mv ++ R) → va_S A s.heap H locs → lv_has ls 3 [(2, .int x2_2), (0, .ref (Z 0)), (1, .int g)] → W p l e (rmX 2) s m ([.ref (Z 0), .int g] : List Value).toArray below meth c H locs 0 0 Qm (F0 m 41 ls []) := by
            intro y_5 H locs ls ey_5 hP hD hS hl
            obtain ⟨x_10, ex_10⟩ : ∃ z : Int32, z = x2_2 + 1 := ⟨_, rfl⟩
            refine lv_iinc (v := x_10) (lv' := [(2, .int x_10), (0, .ref (Z 0)), (1, .int g)]) hx hb dX2_payFarmers_41 hl (k := 0) rfl (by rw [ex_10]; rfl) (by decide) rfl (fun ls hl => ?_)
            refine lv_goto (tgt := 2) hx hb dX2_payFarmers_44 (by decide) ?_
            have tx_10 : x_10.toInt = x2_2.toInt + 1 := i_inc ex_10 (by decide) (by omega) (by omega)
            refine ih_2 x_10 y_5 H locs ls (by omega) (by omega) (by omega) hP hD hS (lv_sub hl [0, 1, 2] rfl) (fun u H locs ls eu  hP hD hS hl => ?_)
            exact kont_2 u H locs ls (eu.trans (show lX2_payFarmers_2 g f (n + 1) x2_2 kv_2 = lX2_payFarmers_2 g f n x_10 y_5 from ((if_neg c_1).trans ((if_neg c_2).trans (lt_eq ey_5 (lt_eq ex_10 rfl))))).symm)  hP hD hS hl
          refine lv_if_ne (tgt := 41) hx hb dX2_payFarmers_28 (by decide) (fun c_6 => ?_) (fun c_6 => ?_)
          · have d_6 := i_eqn rfl (show (0 : Int32).toInt = 0 from by decide) c_6
            exact J_5 kv_2 H locs ls (Eq.symm ((if_neg c_6).trans rfl)) hP hD hS (lv_sub hl [0, 1, 2] rfl)
          · have d_6 := i_eq rfl (show (0 : Int32).toInt = 0 from by decide) c_6
            refine lv_aload_n hx hb dX2_payFarmers_31 rfl (lv_at hl 1 rfl) ?_
            refine va_get (D := D) (ci := 2) (v := .ref (Z 1)) (C := RX2) (T := TX2) (N := 12) hx hb hts iX2 hown hK hP 5 rfl rfl 0 (by decide) k11 (fun _ h9 => h9) rfl dX2_payFarmers_32 ?_
            refine lv_iload_n hx hb dX2_payFarmers_35 rfl (lv_at hl 0 rfl) ?_
            have q_7 : vp_in x2_2 5 := vp_in_iff.mpr ⟨by omega, by omega⟩
            refine va_aldq hx hb hK hP 6 2 rfl rfl q_7 dX2_payFarmers_36 ?_
            refine W.eq (g2 := F0 m 37 ls [.ref (Z (3 + x2_2.toNatClampNeg))]) rfl ?_
            have hq_7 : x2_2.toNatClampNeg < 5 := vp_lt q_7
            refine lv_iload_n hx hb dX2_payFarmers_37 rfl (lv_at hl 2 rfl) ?_
            refine mx_callV (As := [.int g]) (rest := []) ⟨hx, hb, hml, hown, hts⟩ (mtX1_earn l D cI cB cK cS (landW Z cK f kv_2 mv ++ R) (Z (3 + x2_2.toNatClampNeg)) x2_2.toNatClampNeg (kv_2 x2_2.toNatClampNeg) g (kk_get hq_7)) (cwV 1 hts gX2_payFarmers_X1_earn rfl rfl rfl (by decide +kernel) ⟨Nat.le_of_ble_eq_true rfl, Nat.le_of_ble_eq_true rfl⟩) pF0_ok trivial hK hP hD hS hA x2_2.toNatClampNeg (kk_get hq_7) rfl rfl rfl hl.1 rfl (Nat.le_of_ble_eq_true rfl) dX2_payFarmers_38 ⟨Nat.le_refl _, Nat.le_refl _⟩ (fun u_8 H locs eu_8 hP hD hS => ?_)
            have hP : va_P D vwCl ((landW Z cK f kv_2 mv ++ R).set x2_2.toNatClampNeg (Z (3 + x2_2.toNatClampNeg), .inr (1, kf u_8))) H := hP
            rw [kk_set hq_7] at hP
            have hD : va_D A ((landW Z cK f kv_2 mv ++ R).set x2_2.toNatClampNeg (Z (3 + x2_2.toNatClampNeg), .inr (1, kf u_8))) := hD
            rw [kk_set hq_7] at hD
            obtain ⟨kv_9, ekv_9⟩ : ∃ z : Nat → Nat → Int32, z = va_up kv_2 x2_2.toNatClampNeg u_8 := ⟨_, rfl⟩
            rw [← ekv_9] at hP hD
            refine W.eq (g2 := F0 m 41 ls []) rfl ?_
            have hP : va_P D vwCl (landW Z cK f kv_9 mv ++ R) H := hP
            have hD : va_D A (landW Z cK f kv_9 mv ++ R) := hD
            exact J_5 kv_9 H locs ls (Eq.symm ((if_pos c_6).trans (lt_eq eu_8 (lt_eq ekv_9 rfl)))) hP hD hS (lv_sub hl [0, 1, 2] rfl)
  refine L_2 6 0 kv H locs ls (by decide) (by decide) (by decide) hP hD hS (lv_sub hl [0, 1, 2] rfl) (fun u_11 H locs ls eu_11  hP hD hS hl => ?_)
  have hP : va_P D vwCl (landW Z cK f u_11.2 mv ++ R) H := hP
  have hD : va_D A (landW Z cK f u_11.2 mv ++ R) := hD
  rw [hQm]
  exact mx_vret (u0 := sX2_payFarmers g f kv) (rv := (fun _ => none)) (w1 := (fun u => landW Z cK f u mv ++ R)) (u := (u_11.2)) hx hb hr hlocks hK hS (lt_eq eu_11 rfl) hP hD rfl dX2_payFarmers_47

def sX2_guessOf (j : Nat) (f : Nat → Int32) (kv : Nat → Nat → Int32) : Int32 × (Nat → Nat → Int32) := if ((kv j) 0) = 6 then (lt (sX2_bringUnwise f kv) (fun u_3 : Int32 × (Nat → Nat → Int32) => lt (sX2_wiseGuess u_3.1 f u_3.2) (fun u_4 : Int32 × (Nat → Nat → Int32) => (u_4.1, u_4.2)))) else (lt (sX9_guessBy ((kv j) 0) ((kv j) 1) (f 6) (f 7) (f 8) (f 9)) (fun u_2 : Int32 => (u_2, kv)))
set_option maxHeartbeats 4000000 in
set_option maxRecDepth 100000 in
theorem mtX2_guessOf (l : Launch) (D : va_G) (cI cB cK cS : ClassId) (Z : Nat → Nat) (R : va_W) (j : Nat) (f : Nat → Int32) (kv : Nat → Nat → Int32) (mv : Nat → Int32) (hj : j < 5) : MX l yX2_guessOf wsX2_guessOf (rmX 4) D (tyX cI cB cK cS) pF0 (landW Z cK f kv mv ++ R) [.ref (Z 0), .ref (Z (3 + j))] (sX2_guessOf j f kv) (fun u => some (.int u.1)) (fun u => landW Z cK f u.2 mv ++ R) := by
  refine mx_intro (cc := cX2_guessOf) (maxL := 2) (ret := (some .int)) (by decide) rfl (Nat.le_of_ble_eq_true rfl) ?_
  intro p e s m below meth c A ls H locs Qm hQm hx hb hr hml hts hown hlocks hA hS hP hK hD hF hl
  have hown : s.vm.findClass RX2 = some m.cls := hown
  have hl : lv_has ls 2 [(0, .ref (Z 0)), (1, .ref (Z (3 + j)))] := hl
  have k87 := hts (.fieldLink RX2 87 "PigRounds$Kind" "way" "I") (by decide +kernel)
  have k98 := hts (.fieldLink RX2 98 "PigRounds$Kind" "number" "I") (by decide +kernel)
  have k37 := hts (.fieldLink RX2 37 "PigRounds$Land" "a" "I") (by decide +kernel)
  have k40 := hts (.fieldLink RX2 40 "PigRounds$Land" "b" "I") (by decide +kernel)
  have k43 := hts (.fieldLink RX2 43 "PigRounds$Land" "c" "I") (by decide +kernel)
  have k46 := hts (.fieldLink RX2 46 "PigRounds$Land" "printed" "I") (by decide +kernel)
  have iX1 : ∀ w ∈ u_ws RX1 TX1 9, w ∈ wsX2_guessOf := by decide +kernel
  have iX2 : ∀ w ∈ u_ws RX2 TX2 12, w ∈ wsX2_guessOf := by decide +kernel
  refine lv_aload_n hx hb dX2_guessOf_0 rfl (lv_at hl 1 rfl) ?_
  refine va_get (D := D) (ci := 1) (v := .int ((kv j) 0)) (C := RX1) (T := TX1) (N := 9) hx hb hts iX1 hown hK hP j (kk_get hj) rfl 0 (by decide) k87 (fun _ h9 => h9) rfl dX2_guessOf_1 ?_
  refine lv_bipush (v := 6) hx hb dX2_guessOf_4 (by decide) ?_
  refine lv_icmp_ne (tgt := 18) hx hb dX2_guessOf_6 (by decide) (fun c_1 => ?_) (fun c_1 => ?_)
  · refine lv_aload_n hx hb dX2_guessOf_18 rfl (lv_at hl 1 rfl) ?_
    refine va_get (D := D) (ci := 1) (v := .int ((kv j) 0)) (C := RX1) (T := TX1) (N := 9) hx hb hts iX1 hown hK hP j (kk_get hj) rfl 0 (by decide) k87 (fun _ h9 => h9) rfl dX2_guessOf_19 ?_
    refine lv_aload_n hx hb dX2_guessOf_22 rfl (lv_at hl 1 rfl) ?_
    refine va_get (D := D) (ci := 1) (v := .int ((kv j) 1)) (C := RX1) (T := TX1) (N := 9) hx hb hts iX1 hown hK hP j (kk_get hj) rfl 1 (by decide) k98 (fun _ h9 => h9) rfl dX2_guessOf_23 ?_
    refine lv_aload_n hx hb dX2_guessOf_26 rfl (lv_at hl 0 rfl) ?_
    refine va_get (D := D) (ci := 2) (v := .int (f 6)) (C := RX2) (T := TX2) (N := 12) hx hb hts iX2 hown hK hP 5 rfl rfl 6 (by decide) k37 (fun _ h9 => h9) rfl dX2_guessOf_27 ?_
    refine lv_aload_n hx hb dX2_guessOf_30 rfl (lv_at hl 0 rfl) ?_
    refine va_get (D := D) (ci := 2) (v := .int (f 7)) (C := RX2) (T := TX2) (N := 12) hx hb hts iX2 hown hK hP 5 rfl rfl 7 (by decide) k40 (fun _ h9 => h9) rfl dX2_guessOf_31 ?_
    refine lv_aload_n hx hb dX2_guessOf_34 rfl (lv_at hl 0 rfl) ?_
    refine va_get (D := D) (ci := 2) (v := .int (f 8)) (C := RX2) (T := TX2) (N := 12) hx hb hts iX2 hown hK hP 5 rfl rfl 8 (by decide) k43 (fun _ h9 => h9) rfl dX2_guessOf_35 ?_
    refine lv_aload_n hx hb dX2_guessOf_38 rfl (lv_at hl 0 rfl) ?_
    refine va_get (D := D) (ci := 2) (v := .int (f 9)) (C := RX2) (T := TX2) (N := 12) hx hb hts iX2 hown hK hP 5 rfl rfl 9 (by decide) k46 (fun _ h9 => h9) rfl dX2_guessOf_39 ?_
    refine mx_callS (As := [.int ((kv j) 0), .int ((kv j) 1), .int (f 6), .int (f 7), .int (f 8), .int (f 9)]) (rest := []) ⟨hx, hb, hml, hown, hts⟩ (mtX9_guessBy l D cI cB cK cS (landW Z cK f kv mv ++ R) ((kv j) 0) ((kv j) 1) (f 6) (f 7) (f 8) (f 9)) (va_cwS 6 hts gX2_guessOf_X9_guessBy rfl rfl rfl (by decide +kernel) ⟨Nat.le_of_ble_eq_true rfl, Nat.le_of_ble_eq_true rfl⟩) pF0_ok trivial hK hP hD hS hA rfl hl.1 rfl (Nat.le_of_ble_eq_true rfl) dX2_guessOf_42 ⟨Nat.le_refl _, Nat.le_refl _⟩ (fun u_2 H locs eu_2 hP hD hS => ?_)
    refine W.eq (g2 := F0 m 45 ls [.int u_2]) rfl ?_
    have hP : va_P D vwCl (landW Z cK f kv mv ++ R) H := hP
    have hD : va_D A (landW Z cK f kv mv ++ R) := hD
    rw [hQm]
    exact mx_iret (u0 := sX2_guessOf j f kv) (rv := (fun u => some (.int u.1))) (w1 := (fun u => landW Z cK f u.2 mv ++ R)) (u := (u_2, kv)) hx hb hr hlocks hK hS ((if_neg c_1).trans (lt_eq eu_2 rfl)) hP hD rfl dX2_guessOf_45
  · refine lv_aload_n hx hb dX2_guessOf_9 rfl (lv_at hl 0 rfl) ?_
    refine lv_aload_n hx hb dX2_guessOf_10 rfl (lv_at hl 0 rfl) ?_
    refine mx_callV (As := []) (rest := [.ref (Z 0)]) ⟨hx, hb, hml, hown, hts⟩ (mtX2_bringUnwise l D cI cB cK cS Z R f kv mv) (cwV 0 hts gX2_guessOf_X2_bringUnwise rfl rfl rfl (by decide +kernel) ⟨Nat.le_of_ble_eq_true rfl, Nat.le_of_ble_eq_true rfl⟩) pF0_ok trivial hK hP hD hS hA 5 rfl rfl rfl rfl hl.1 rfl (Nat.le_of_ble_eq_true rfl) dX2_guessOf_11 ⟨Nat.le_refl _, Nat.le_refl _⟩ (fun u_3 H locs eu_3 hP hD hS => ?_)
    refine W.eq (g2 := F0 m 14 ls [.int u_3.1, .ref (Z 0)]) rfl ?_
    have hP : va_P D vwCl (landW Z cK f u_3.2 mv ++ R) H := hP
    have hD : va_D A (landW Z cK f u_3.2 mv ++ R) := hD
    refine mx_callV (As := [.int u_3.1]) (rest := []) ⟨hx, hb, hml, hown, hts⟩ (mtX2_wiseGuess l D cI cB cK cS Z R f u_3.2 mv u_3.1) (cwV 1 hts gX2_guessOf_X2_wiseGuess rfl rfl rfl (by decide +kernel) ⟨Nat.le_of_ble_eq_true rfl, Nat.le_of_ble_eq_true rfl⟩) pF0_ok trivial hK hP hD hS hA 5 rfl rfl rfl rfl hl.1 rfl (Nat.le_of_ble_eq_true rfl) dX2_guessOf_14 ⟨Nat.le_refl _, Nat.le_refl _⟩ (fun u_4 H locs eu_4 hP hD hS => ?_)
    refine W.eq (g2 := F0 m 17 ls [.int u_4.1]) rfl ?_
    have hP : va_P D vwCl (landW Z cK f u_4.2 mv ++ R) H := hP
    have hD : va_D A (landW Z cK f u_4.2 mv ++ R) := hD
    rw [hQm]
    exact mx_iret (u0 := sX2_guessOf j f kv) (rv := (fun u => some (.int u.1))) (w1 := (fun u => landW Z cK f u.2 mv ++ R)) (u := (u_4.1, u_4.2)) hx hb hr hlocks hK hS ((if_pos c_1).trans (lt_eq eu_3 (lt_eq eu_4 rfl))) hP hD rfl dX2_guessOf_17

def sX2_liveYear (f : Nat → Int32) (kv : Nat → Nat → Int32) (mv : Nat → Int32) : Int32 × (Nat → Int32) × (Nat → Nat → Int32) × (Nat → Int32) := lt (sX2_bringUnwise f kv) (fun u_1 : Int32 × (Nat → Nat → Int32) => lt (sX2_hasWise (upd f 10 u_1.1) u_1.2) (fun u_2 : Int32 => lt (if u_2 = 0 then ((upd f 10 u_1.1, u_1.2)) else (lt (sX2_wiseGuess u_1.1 (upd f 10 u_1.1) u_1.2) (fun u_5 : Int32 × (Nat → Nat → Int32) => lt (sX2_bringWise u_5.1 (upd f 10 u_1.1) u_5.2) (fun u_6 : Int32 × (Nat → Nat → Int32) => (upd f 10 (u_1.1 + u_6.1), u_6.2))))) (fun y_3 : (Nat → Int32) × (Nat → Nat → Int32) => lt (sX2_priceOf (y_3.1 10) y_3.1) (fun u_7 : Int32 => lt (sX3_dealAt u_7 (y_3.1 10) mv) (fun u_8 : Int32 => lt (sX2_priceOf ((y_3.1 10) - u_8) y_3.1) (fun u_9 : Int32 => lt (sX3_settle u_8 u_9 mv) (fun u_10 : (Nat → Int32) => lt (sX2_payFarmers (u_9 - (y_3.1 5)) y_3.1 y_3.2) (fun u_11 : (Nat → Nat → Int32) => (u_9, upd (upd (upd (upd y_3.1 8 (y_3.1 7)) 7 (y_3.1 6)) 6 u_9) 11 ((y_3.1 11) + 1), u_11, u_10)))))))))
set_option maxHeartbeats 4000000 in
set_option maxRecDepth 100000 in
theorem mtX2_liveYear (l : Launch) (D : va_G) (cI cB cK cS : ClassId) (Z : Nat → Nat) (R : va_W) (f : Nat → Int32) (kv : Nat → Nat → Int32) (mv : Nat → Int32) : MX l yX2_liveYear wsX2_liveYear (rmX 4) D (tyX cI cB cK cS) pF0 (landW Z cK f kv mv ++ R) [.ref (Z 0)] (sX2_liveYear f kv mv) (fun u => some (.int u.1)) (fun u => landW Z cK u.2.1 u.2.2.1 u.2.2.2 ++ R) := by
  refine mx_intro (cc := cX2_liveYear) (maxL := 3) (ret := (some .int)) (by decide) rfl (Nat.le_of_ble_eq_true rfl) ?_
  intro p e s m below meth c A ls H locs Qm hQm hx hb hr hml hts hown hlocks hA hS hP hK hD hF hl
  have hown : s.vm.findClass RX2 = some m.cls := hown
  have hl : lv_has ls 3 [(0, .ref (Z 0))] := hl
  have k49 := hts (.fieldLink RX2 49 "PigRounds$Land" "pigs" "I") (by decide +kernel)
  have k20 := hts (.fieldLink RX2 20 "PigRounds$Land" "ministry" "LPigRounds$Ministry;") (by decide +kernel)
  have k34 := hts (.fieldLink RX2 34 "PigRounds$Land" "feed" "I") (by decide +kernel)
  have k40 := hts (.fieldLink RX2 40 "PigRounds$Land" "b" "I") (by decide +kernel)
  have k43 := hts (.fieldLink RX2 43 "PigRounds$Land" "c" "I") (by decide +kernel)
  have k37 := hts (.fieldLink RX2 37 "PigRounds$Land" "a" "I") (by decide +kernel)
  have k52 := hts (.fieldLink RX2 52 "PigRounds$Land" "year" "I") (by decide +kernel)
  have iX2 : ∀ w ∈ u_ws RX2 TX2 12, w ∈ wsX2_liveYear := by decide +kernel
  refine lv_aload_n hx hb dX2_liveYear_0 rfl (lv_at hl 0 rfl) ?_
  refine lv_aload_n hx hb dX2_liveYear_1 rfl (lv_at hl 0 rfl) ?_
  refine mx_callV (As := []) (rest := [.ref (Z 0)]) ⟨hx, hb, hml, hown, hts⟩ (mtX2_bringUnwise l D cI cB cK cS Z R f kv mv) (cwV 0 hts gX2_liveYear_X2_bringUnwise rfl rfl rfl (by decide +kernel) ⟨Nat.le_of_ble_eq_true rfl, Nat.le_of_ble_eq_true rfl⟩) pF0_ok trivial hK hP hD hS hA 5 rfl rfl rfl rfl hl.1 rfl (Nat.le_of_ble_eq_true rfl) dX2_liveYear_2 ⟨Nat.le_refl _, Nat.le_refl _⟩ (fun u_1 H locs eu_1 hP hD hS => ?_)
  refine W.eq (g2 := F0 m 5 ls [.int u_1.1, .ref (Z 0)]) rfl ?_
  have hP : va_P D vwCl (landW Z cK f u_1.2 mv ++ R) H := hP
  have hD : va_D A (landW Z cK f u_1.2 mv ++ R) := hD
  refine va_put (D := D) (ci := 2) (v := .int u_1.1) (ty := .int) (C := RX2) (T := TX2) (N := 12) hx hb hts iX2 tyX2 tyX2_ok nmX2 hown hK hP hD hS 5 rfl rfl 10 (by decide) k49 (fun _ h9 => h9) rfl (by decide +kernel) rfl rfl (Nat.le_of_ble_eq_true rfl) dX2_liveYear_5 (fun H locs hP hD hS => ?_)
  have hP : va_P D vwCl (landW Z cK (upd f 10 u_1.1) u_1.2 mv ++ R) H := hP
  have hD : va_D A (landW Z cK (upd f 10 u_1.1) u_1.2 mv ++ R) := hD
  refine lv_aload_n hx hb dX2_liveYear_8 rfl (lv_at hl 0 rfl) ?_
  refine mx_callV (As := []) (rest := []) ⟨hx, hb, hml, hown, hts⟩ (mtX2_hasWise l D cI cB cK cS Z R (upd f 10 u_1.1) u_1.2 mv) (cwV 0 hts gX2_liveYear_X2_hasWise rfl rfl rfl (by decide +kernel) ⟨Nat.le_of_ble_eq_true rfl, Nat.le_of_ble_eq_true rfl⟩) pF0_ok trivial hK hP hD hS hA 5 rfl rfl rfl rfl hl.1 rfl (Nat.le_of_ble_eq_true rfl) dX2_liveYear_9 ⟨Nat.le_refl _, Nat.le_refl _⟩ (fun u_2 H locs eu_2 hP hD hS => ?_)
  refine W.eq (g2 := F0 m 12 ls [.int u_2]) rfl ?_
  have hP : va_P D vwCl (landW Z cK (upd f 10 u_1.1) u_1.2 mv ++ R) H := hP
  have hD : va_D A (landW Z cK (upd f 10 u_1.1) u_1.2 mv ++ R) := hD
  have J_3 : ∀ (y_3 : (Nat → Int32) × (Nat → Nat → Int32)) (H : Heap) (locs : List Loc) (ls : Array Slot), y_3 = (if u_2 = 0 then ((upd f 10 u_1.1, u_1.2)) else (lt (sX2_wiseGuess u_1.1 (upd f 10 u_1.1) u_1.2) (fun u_5 : Int32 × (Nat → Nat → Int32) => lt (sX2_bringWise u_5.1 (upd f 10 u_1.1) u_5.2) (fun u_6 : Int32 × (Nat → Nat → Int32) => (upd f 10 (u_1.1 + u_6.1), u_6.2))))) → va_P D vwCl (landW Z cK y_3.1 y_3.2 mv ++ R) H → va_D A (landW Z cK y_3.1 y_3.2 mv ++ R) → va_S A s.heap H locs → lv_has ls 3 [(0, .ref (Z 0))] → W p l e (rmX 4) s m ([.ref (Z 0)] : List Value).toArray below meth c H locs 0 0 Qm (F0 m 36 ls []) := by
    intro y_3 H locs ls ey_3 hP hD hS hl
    refine lv_aload_n hx hb dX2_liveYear_36 rfl (lv_at hl 0 rfl) ?_
    refine va_get (D := D) (ci := 2) (v := .ref (Z 2)) (C := RX2) (T := TX2) (N := 12) hx hb hts iX2 hown hK hP 5 rfl rfl 1 (by decide) k20 (fun _ h9 => h9) rfl dX2_liveYear_37 ?_
    refine lv_aload_n hx hb dX2_liveYear_40 rfl (lv_at hl 0 rfl) ?_
    refine lv_aload_n hx hb dX2_liveYear_41 rfl (lv_at hl 0 rfl) ?_
    refine va_get (D := D) (ci := 2) (v := .int (y_3.1 10)) (C := RX2) (T := TX2) (N := 12) hx hb hts iX2 hown hK hP 5 rfl rfl 10 (by decide) k49 (fun _ h9 => h9) rfl dX2_liveYear_42 ?_
    refine mx_callV (As := [.int (y_3.1 10)]) (rest := [.ref (Z 2)]) ⟨hx, hb, hml, hown, hts⟩ (mtX2_priceOf l D cI cB cK cS Z R y_3.1 y_3.2 mv (y_3.1 10)) (cwV 1 hts gX2_liveYear_X2_priceOf rfl rfl rfl (by decide +kernel) ⟨Nat.le_of_ble_eq_true rfl, Nat.le_of_ble_eq_true rfl⟩) pF0_ok trivial hK hP hD hS hA 5 rfl rfl rfl rfl hl.1 rfl (Nat.le_of_ble_eq_true rfl) dX2_liveYear_45 ⟨Nat.le_refl _, Nat.le_refl _⟩ (fun u_7 H locs eu_7 hP hD hS => ?_)
    refine W.eq (g2 := F0 m 48 ls [.int u_7, .ref (Z 2)]) rfl ?_
    have hP : va_P D vwCl (landW Z cK y_3.1 y_3.2 mv ++ R) H := hP
    have hD : va_D A (landW Z cK y_3.1 y_3.2 mv ++ R) := hD
    refine lv_aload_n hx hb dX2_liveYear_48 rfl (lv_at hl 0 rfl) ?_
    refine va_get (D := D) (ci := 2) (v := .int (y_3.1 10)) (C := RX2) (T := TX2) (N := 12) hx hb hts iX2 hown hK hP 5 rfl rfl 10 (by decide) k49 (fun _ h9 => h9) rfl dX2_liveYear_49 ?_
    refine mx_callV (As := [.int u_7, .int (y_3.1 10)]) (rest := []) ⟨hx, hb, hml, hown, hts⟩ (mtX3_dealAt l D cI cB cK cS (landW Z cK y_3.1 y_3.2 mv ++ R) (Z 2) 7 mv u_7 (y_3.1 10) rfl) (cwV 2 hts gX2_liveYear_X3_dealAt rfl rfl rfl (by decide +kernel) ⟨Nat.le_of_ble_eq_true rfl, Nat.le_of_ble_eq_true rfl⟩) pF0_ok trivial hK hP hD hS hA 7 rfl rfl rfl rfl hl.1 rfl (Nat.le_of_ble_eq_true rfl) dX2_liveYear_52 ⟨Nat.le_refl _, Nat.le_refl _⟩ (fun u_8 H locs eu_8 hP hD hS => ?_)
    refine W.eq (g2 := F0 m 55 ls [.int u_8]) rfl ?_
    have hP : va_P D vwCl (landW Z cK y_3.1 y_3.2 mv ++ R) H := hP
    have hD : va_D A (landW Z cK y_3.1 y_3.2 mv ++ R) := hD
    refine lv_istore_n (lv' := [(1, .int u_8), (0, .ref (Z 0))]) hx hb dX2_liveYear_55 rfl hl (by decide) rfl (fun ls hl => ?_)
    refine lv_aload_n hx hb dX2_liveYear_56 rfl (lv_at hl 1 rfl) ?_
    refine lv_aload_n hx hb dX2_liveYear_57 rfl (lv_at hl 1 rfl) ?_
    refine va_get (D := D) (ci := 2) (v := .int (y_3.1 10)) (C := RX2) (T := TX2) (N := 12) hx hb hts iX2 hown hK hP 5 rfl rfl 10 (by decide) k49 (fun _ h9 => h9) rfl dX2_liveYear_58 ?_
    refine lv_iload_n hx hb dX2_liveYear_61 rfl (lv_at hl 0 rfl) ?_
    refine lv_isub hx hb dX2_liveYear_62 ?_
    refine mx_callV (As := [.int ((y_3.1 10) - u_8)]) (rest := []) ⟨hx, hb, hml, hown, hts⟩ (mtX2_priceOf l D cI cB cK cS Z R y_3.1 y_3.2 mv ((y_3.1 10) - u_8)) (cwV 1 hts gX2_liveYear_X2_priceOf rfl rfl rfl (by decide +kernel) ⟨Nat.le_of_ble_eq_true rfl, Nat.le_of_ble_eq_true rfl⟩) pF0_ok trivial hK hP hD hS hA 5 rfl rfl rfl rfl hl.1 rfl (Nat.le_of_ble_eq_true rfl) dX2_liveYear_63 ⟨Nat.le_refl _, Nat.le_refl _⟩ (fun u_9 H locs eu_9 hP hD hS => ?_)
    refine W.eq (g2 := F0 m 66 ls [.int u_9]) rfl ?_
    have hP : va_P D vwCl (landW Z cK y_3.1 y_3.2 mv ++ R) H := hP
    have hD : va_D A (landW Z cK y_3.1 y_3.2 mv ++ R) := hD
    refine lv_istore_n (lv' := [(2, .int u_9), (1, .int u_8), (0, .ref (Z 0))]) hx hb dX2_liveYear_66 rfl hl (by decide) rfl (fun ls hl => ?_)
    refine lv_aload_n hx hb dX2_liveYear_67 rfl (lv_at hl 2 rfl) ?_
    refine va_get (D := D) (ci := 2) (v := .ref (Z 2)) (C := RX2) (T := TX2) (N := 12) hx hb hts iX2 hown hK hP 5 rfl rfl 1 (by decide) k20 (fun _ h9 => h9) rfl dX2_liveYear_68 ?_
    refine lv_iload_n hx hb dX2_liveYear_71 rfl (lv_at hl 1 rfl) ?_
    refine lv_iload_n hx hb dX2_liveYear_72 rfl (lv_at hl 0 rfl) ?_
    refine mx_callV (As := [.int u_8, .int u_9]) (rest := []) ⟨hx, hb, hml, hown, hts⟩ (mtX3_settle l D cI cB cK cS (landW Z cK y_3.1 y_3.2 mv ++ R) (Z 2) 7 mv u_8 u_9 rfl) (cwV 2 hts gX2_liveYear_X3_settle rfl rfl rfl (by decide +kernel) ⟨Nat.le_of_ble_eq_true rfl, Nat.le_of_ble_eq_true rfl⟩) pF0_ok trivial hK hP hD hS hA 7 rfl rfl rfl rfl hl.1 rfl (Nat.le_of_ble_eq_true rfl) dX2_liveYear_73 ⟨Nat.le_refl _, Nat.le_refl _⟩ (fun u_10 H locs eu_10 hP hD hS => ?_)
    refine W.eq (g2 := F0 m 76 ls []) rfl ?_
    have hP : va_P D vwCl (landW Z cK y_3.1 y_3.2 u_10 ++ R) H := hP
    have hD : va_D A (landW Z cK y_3.1 y_3.2 u_10 ++ R) := hD
    refine lv_aload_n hx hb dX2_liveYear_76 rfl (lv_at hl 2 rfl) ?_
    refine lv_iload_n hx hb dX2_liveYear_77 rfl (lv_at hl 0 rfl) ?_
    refine lv_aload_n hx hb dX2_liveYear_78 rfl (lv_at hl 2 rfl) ?_
    refine va_get (D := D) (ci := 2) (v := .int (y_3.1 5)) (C := RX2) (T := TX2) (N := 12) hx hb hts iX2 hown hK hP 5 rfl rfl 5 (by decide) k34 (fun _ h9 => h9) rfl dX2_liveYear_79 ?_
    refine lv_isub hx hb dX2_liveYear_82 ?_
    refine mx_callV (As := [.int (u_9 - (y_3.1 5))]) (rest := []) ⟨hx, hb, hml, hown, hts⟩ (mtX2_payFarmers l D cI cB cK cS Z R y_3.1 y_3.2 u_10 (u_9 - (y_3.1 5))) (cwV 1 hts gX2_liveYear_X2_payFarmers rfl rfl rfl (by decide +kernel) ⟨Nat.le_of_ble_eq_true rfl, Nat.le_of_ble_eq_true rfl⟩) pF0_ok trivial hK hP hD hS hA 5 rfl rfl rfl rfl hl.1 rfl (Nat.le_of_ble_eq_true rfl) dX2_liveYear_83 ⟨Nat.le_refl _, Nat.le_refl _⟩ (fun u_11 H locs eu_11 hP hD hS => ?_)
    refine W.eq (g2 := F0 m 86 ls []) rfl ?_
    have hP : va_P D vwCl (landW Z cK y_3.1 u_11 u_10 ++ R) H := hP
    have hD : va_D A (landW Z cK y_3.1 u_11 u_10 ++ R) := hD
    refine lv_aload_n hx hb dX2_liveYear_86 rfl (lv_at hl 2 rfl) ?_
    refine lv_aload_n hx hb dX2_liveYear_87 rfl (lv_at hl 2 rfl) ?_
    refine va_get (D := D) (ci := 2) (v := .int (y_3.1 7)) (C := RX2) (T := TX2) (N := 12) hx hb hts iX2 hown hK hP 5 rfl rfl 7 (by decide) k40 (fun _ h9 => h9) rfl dX2_liveYear_88 ?_
    refine va_put (D := D) (ci := 2) (v := .int (y_3.1 7)) (ty := .int) (C := RX2) (T := TX2) (N := 12) hx hb hts iX2 tyX2 tyX2_ok nmX2 hown hK hP hD hS 5 rfl rfl 8 (by decide) k43 (fun _ h9 => h9) rfl (by decide +kernel) rfl rfl (Nat.le_of_ble_eq_true rfl) dX2_liveYear_91 (fun H locs hP hD hS => ?_)
    have hP : va_P D vwCl (landW Z cK (upd y_3.1 8 (y_3.1 7)) u_11 u_10 ++ R) H := hP
    have hD : va_D A (landW Z cK (upd y_3.1 8 (y_3.1 7)) u_11 u_10 ++ R) := hD
    refine lv_aload_n hx hb dX2_liveYear_94 rfl (lv_at hl 2 rfl) ?_
    refine lv_aload_n hx hb dX2_liveYear_95 rfl (lv_at hl 2 rfl) ?_
    refine va_get (D := D) (ci := 2) (v := .int (y_3.1 6)) (C := RX2) (T := TX2) (N := 12) hx hb hts iX2 hown hK hP 5 rfl rfl 6 (by decide) k37 (fun _ h9 => h9) rfl dX2_liveYear_96 ?_
    refine va_put (D := D) (ci := 2) (v := .int (y_3.1 6)) (ty := .int) (C := RX2) (T := TX2) (N := 12) hx hb hts iX2 tyX2 tyX2_ok nmX2 hown hK hP hD hS 5 rfl rfl 7 (by decide) k40 (fun _ h9 => h9) rfl (by decide +kernel) rfl rfl (Nat.le_of_ble_eq_true rfl) dX2_liveYear_99 (fun H locs hP hD hS => ?_)
    have hP : va_P D vwCl (landW Z cK (upd (upd y_3.1 8 (y_3.1 7)) 7 (y_3.1 6)) u_11 u_10 ++ R) H := hP
    have hD : va_D A (landW Z cK (upd (upd y_3.1 8 (y_3.1 7)) 7 (y_3.1 6)) u_11 u_10 ++ R) := hD
    refine lv_aload_n hx hb dX2_liveYear_102 rfl (lv_at hl 2 rfl) ?_
    refine lv_iload_n hx hb dX2_liveYear_103 rfl (lv_at hl 0 rfl) ?_
    refine va_put (D := D) (ci := 2) (v := .int u_9) (ty := .int) (C := RX2) (T := TX2) (N := 12) hx hb hts iX2 tyX2 tyX2_ok nmX2 hown hK hP hD hS 5 rfl rfl 6 (by decide) k37 (fun _ h9 => h9) rfl (by decide +kernel) rfl rfl (Nat.le_of_ble_eq_true rfl) dX2_liveYear_104 (fun H locs hP hD hS => ?_)
    have hP : va_P D vwCl (landW Z cK (upd (upd (upd y_3.1 8 (y_3.1 7)) 7 (y_3.1 6)) 6 u_9) u_11 u_10 ++ R) H := hP
    have hD : va_D A (landW Z cK (upd (upd (upd y_3.1 8 (y_3.1 7)) 7 (y_3.1 6)) 6 u_9) u_11 u_10 ++ R) := hD
    refine lv_aload_n hx hb dX2_liveYear_107 rfl (lv_at hl 2 rfl) ?_
    refine lv_dup hx hb dX2_liveYear_108 rfl ?_
    refine va_get (D := D) (ci := 2) (v := .int (y_3.1 11)) (C := RX2) (T := TX2) (N := 12) hx hb hts iX2 hown hK hP 5 rfl rfl 11 (by decide) k52 (fun _ h9 => h9) rfl dX2_liveYear_109 ?_
    refine lv_iconst (v := 1) hx hb dX2_liveYear_112 (by decide) ?_
    refine lv_iadd hx hb dX2_liveYear_113 ?_
    refine va_put (D := D) (ci := 2) (v := .int ((y_3.1 11) + 1)) (ty := .int) (C := RX2) (T := TX2) (N := 12) hx hb hts iX2 tyX2 tyX2_ok nmX2 hown hK hP hD hS 5 rfl rfl 11 (by decide) k52 (fun _ h9 => h9) rfl (by decide +kernel) rfl rfl (Nat.le_of_ble_eq_true rfl) dX2_liveYear_114 (fun H locs hP hD hS => ?_)
    have hP : va_P D vwCl (landW Z cK (upd (upd (upd (upd y_3.1 8 (y_3.1 7)) 7 (y_3.1 6)) 6 u_9) 11 ((y_3.1 11) + 1)) u_11 u_10 ++ R) H := hP
    have hD : va_D A (landW Z cK (upd (upd (upd (upd y_3.1 8 (y_3.1 7)) 7 (y_3.1 6)) 6 u_9) 11 ((y_3.1 11) + 1)) u_11 u_10 ++ R) := hD
    refine lv_iload_n hx hb dX2_liveYear_117 rfl (lv_at hl 0 rfl) ?_
    rw [hQm]
    exact mx_iret (u0 := sX2_liveYear f kv mv) (rv := (fun u => some (.int u.1))) (w1 := (fun u => landW Z cK u.2.1 u.2.2.1 u.2.2.2 ++ R)) (u := (u_9, upd (upd (upd (upd y_3.1 8 (y_3.1 7)) 7 (y_3.1 6)) 6 u_9) 11 ((y_3.1 11) + 1), u_11, u_10)) hx hb hr hlocks hK hS (lt_eq eu_1 (lt_eq eu_2 (lt_eq ey_3 (lt_eq eu_7 (lt_eq eu_8 (lt_eq eu_9 (lt_eq eu_10 (lt_eq eu_11 rfl)))))))) hP hD rfl dX2_liveYear_118
  refine lv_if_eq (tgt := 36) hx hb dX2_liveYear_12 (by decide) (fun c_4 => ?_) (fun c_4 => ?_)
  · exact J_3 (upd f 10 u_1.1, u_1.2) H locs ls (Eq.symm ((if_pos c_4).trans rfl)) hP hD hS (lv_sub hl [0] rfl)
  · refine lv_aload_n hx hb dX2_liveYear_15 rfl (lv_at hl 0 rfl) ?_
    refine lv_dup hx hb dX2_liveYear_16 rfl ?_
    refine va_get (D := D) (ci := 2) (v := .int u_1.1) (C := RX2) (T := TX2) (N := 12) hx hb hts iX2 hown hK hP 5 rfl rfl 10 (by decide) k49 (fun _ h9 => h9) rfl dX2_liveYear_17 ?_
    refine lv_aload_n hx hb dX2_liveYear_20 rfl (lv_at hl 0 rfl) ?_
    refine lv_aload_n hx hb dX2_liveYear_21 rfl (lv_at hl 0 rfl) ?_
    refine lv_aload_n hx hb dX2_liveYear_22 rfl (lv_at hl 0 rfl) ?_
    refine va_get (D := D) (ci := 2) (v := .int u_1.1) (C := RX2) (T := TX2) (N := 12) hx hb hts iX2 hown hK hP 5 rfl rfl 10 (by decide) k49 (fun _ h9 => h9) rfl dX2_liveYear_23 ?_
    refine mx_callV (As := [.int u_1.1]) (rest := [.ref (Z 0), .int u_1.1, .ref (Z 0)]) ⟨hx, hb, hml, hown, hts⟩ (mtX2_wiseGuess l D cI cB cK cS Z R (upd f 10 u_1.1) u_1.2 mv u_1.1) (cwV 1 hts gX2_liveYear_X2_wiseGuess rfl rfl rfl (by decide +kernel) ⟨Nat.le_of_ble_eq_true rfl, Nat.le_of_ble_eq_true rfl⟩) pF0_ok trivial hK hP hD hS hA 5 rfl rfl rfl rfl hl.1 rfl (Nat.le_of_ble_eq_true rfl) dX2_liveYear_26 ⟨Nat.le_refl _, Nat.le_refl _⟩ (fun u_5 H locs eu_5 hP hD hS => ?_)
    refine W.eq (g2 := F0 m 29 ls [.int u_5.1, .ref (Z 0), .int u_1.1, .ref (Z 0)]) rfl ?_
    have hP : va_P D vwCl (landW Z cK (upd f 10 u_1.1) u_5.2 mv ++ R) H := hP
    have hD : va_D A (landW Z cK (upd f 10 u_1.1) u_5.2 mv ++ R) := hD
    refine mx_callV (As := [.int u_5.1]) (rest := [.int u_1.1, .ref (Z 0)]) ⟨hx, hb, hml, hown, hts⟩ (mtX2_bringWise l D cI cB cK cS Z R (upd f 10 u_1.1) u_5.2 mv u_5.1) (cwV 1 hts gX2_liveYear_X2_bringWise rfl rfl rfl (by decide +kernel) ⟨Nat.le_of_ble_eq_true rfl, Nat.le_of_ble_eq_true rfl⟩) pF0_ok trivial hK hP hD hS hA 5 rfl rfl rfl rfl hl.1 rfl (Nat.le_of_ble_eq_true rfl) dX2_liveYear_29 ⟨Nat.le_refl _, Nat.le_refl _⟩ (fun u_6 H locs eu_6 hP hD hS => ?_)
    refine W.eq (g2 := F0 m 32 ls [.int u_6.1, .int u_1.1, .ref (Z 0)]) rfl ?_
    have hP : va_P D vwCl (landW Z cK (upd f 10 u_1.1) u_6.2 mv ++ R) H := hP
    have hD : va_D A (landW Z cK (upd f 10 u_1.1) u_6.2 mv ++ R) := hD
    refine lv_iadd hx hb dX2_liveYear_32 ?_
    refine va_put (D := D) (ci := 2) (v := .int (u_1.1 + u_6.1)) (ty := .int) (C := RX2) (T := TX2) (N := 12) hx hb hts iX2 tyX2 tyX2_ok nmX2 hown hK hP hD hS 5 rfl rfl 10 (by decide) k49 (fun _ h9 => h9) rfl (by decide +kernel) rfl rfl (Nat.le_of_ble_eq_true rfl) dX2_liveYear_33 (fun H locs hP hD hS => ?_)
    have hP : va_P D vwCl (landW Z cK (upd f 10 (u_1.1 + u_6.1)) u_6.2 mv ++ R) H := hP
    have hD : va_D A (landW Z cK (upd f 10 (u_1.1 + u_6.1)) u_6.2 mv ++ R) := hD
    exact J_3 (upd f 10 (u_1.1 + u_6.1), u_6.2) H locs ls (Eq.symm ((if_neg c_4).trans (lt_eq eu_5 (lt_eq eu_6 rfl)))) hP hD hS (lv_sub hl [0] rfl)

def lX2_farmerCount_4 (f : Nat → Int32) (kv : Nat → Nat → Int32) : Nat → Int32 → Int32 → Int32 × Int32
  | 0, x2_4, x1_4 => (x2_4, x1_4)
  | n + 1, x2_4, x1_4 => if (f 2) ≤ x2_4 then ((x2_4, x1_4)) else (if 5 ≤ x2_4 then ((x2_4, x1_4)) else (lt (x1_4 + ((kv x2_4.toNatClampNeg) 2)) (fun x_4 : Int32 => lt (x2_4 + 1) (fun x_5 : Int32 => lX2_farmerCount_4 f kv n x_5 x_4))))

def sX2_farmerCount (f : Nat → Int32) (kv : Nat → Nat → Int32) : Int32 := lt (lX2_farmerCount_4 f kv 6 0 0) (fun u_6 : Int32 × Int32 => (u_6.2))
set_option maxHeartbeats 4000000 in
set_option maxRecDepth 100000 in
theorem mtX2_farmerCount (l : Launch) (D : va_G) (cI cB cK cS : ClassId) (Z : Nat → Nat) (R : va_W) (f : Nat → Int32) (kv : Nat → Nat → Int32) (mv : Nat → Int32) : MX l yX2_farmerCount wsX2_farmerCount (rmX 1) D (tyX cI cB cK cS) pF0 (landW Z cK f kv mv ++ R) [.ref (Z 0)] (sX2_farmerCount f kv) (fun u => some (.int u)) (fun _ => landW Z cK f kv mv ++ R) := by
  refine mx_intro (cc := cX2_farmerCount) (maxL := 3) (ret := (some .int)) (by decide) rfl (Nat.le_of_ble_eq_true rfl) ?_
  intro p e s m below meth c A ls H locs Qm hQm hx hb hr hml hts hown hlocks hA hS hP hK hD hF hl
  have hown : s.vm.findClass RX2 = some m.cls := hown
  have hl : lv_has ls 3 [(0, .ref (Z 0))] := hl
  have k24 := hts (.fieldLink RX2 24 "PigRounds$Land" "kindCount" "I") (by decide +kernel)
  have k11 := hts (.fieldLink RX2 11 "PigRounds$Land" "kinds" "[LPigRounds$Kind;") (by decide +kernel)
  have k74 := hts (.fieldLink RX2 74 "PigRounds$Kind" "many" "I") (by decide +kernel)
  have iX1 : ∀ w ∈ u_ws RX1 TX1 9, w ∈ wsX2_farmerCount := by decide +kernel
  have iX2 : ∀ w ∈ u_ws RX2 TX2 12, w ∈ wsX2_farmerCount := by decide +kernel
  refine lv_iconst (v := 0) hx hb dX2_farmerCount_0 (by decide) ?_
  refine lv_istore_n (lv' := [(1, .int 0), (0, .ref (Z 0))]) hx hb dX2_farmerCount_1 rfl hl (by decide) rfl (fun ls hl => ?_)
  refine lv_iconst (v := 0) hx hb dX2_farmerCount_2 (by decide) ?_
  refine lv_istore_n (lv' := [(2, .int 0), (1, .int 0), (0, .ref (Z 0))]) hx hb dX2_farmerCount_3 rfl hl (by decide) rfl (fun ls hl => ?_)
  have L_4 : ∀ (n : Nat) (x2_4 : Int32) (x1_4 : Int32) (H : Heap) (locs : List Loc) (ls : Array Slot), 0 ≤ x2_4.toInt → x2_4.toInt ≤ 5 → (5 : Int) < x2_4.toInt + ((n : Nat) : Int) → va_P D vwCl (landW Z cK f kv mv ++ R) H → va_D A (landW Z cK f kv mv ++ R) → va_S A s.heap H locs → lv_has ls 3 [(2, .int x2_4), (1, .int x1_4), (0, .ref (Z 0))] → (∀ (u : Int32 × Int32) (H : Heap) (locs : List Loc) (ls : Array Slot), u = lX2_farmerCount_4 f kv n x2_4 x1_4 → va_P D vwCl (landW Z cK f kv mv ++ R) H → va_D A (landW Z cK f kv mv ++ R) → va_S A s.heap H locs → lv_has ls 3 [(1, .int u.2)] → W p l e (rmX 1) s m ([.ref (Z 0)] : List Value).toArray below meth c H locs 0 0 Qm (F0 m 39 ls [])) → W p l e (rmX 1) s m ([.ref (Z 0)] : List Value).toArray below meth c H locs 0 0 Qm (F0 m 4 ls []) := by
    intro n
    induction n with
    | zero =>
      intro x2_4 x1_4 H locs ls iv_4_0 iv_4_1 iv_4_2 hP hD hS hl kont_4
      exfalso; omega
    | succ n ih_4 =>
      intro x2_4 x1_4 H locs ls iv_4_0 iv_4_1 iv_4_2 hP hD hS hl kont_4
      refine lv_iload_n hx hb dX2_farmerCount_4 rfl (lv_at hl 0 rfl) ?_
      refine lv_aload_n hx hb dX2_farmerCount_5 rfl (lv_at hl 2 rfl) ?_
      refine va_get (D := D) (ci := 2) (v := .int (f 2)) (C := RX2) (T := TX2) (N := 12) hx hb hts iX2 hown hK hP 5 rfl rfl 2 (by decide) k24 (fun _ h9 => h9) rfl dX2_farmerCount_6 ?_
      refine lv_icmp_ge (tgt := 39) hx hb dX2_farmerCount_9 (by decide) (fun c_1 => ?_) (fun c_1 => ?_)
      · have d_1 := i_le rfl rfl c_1
        exact kont_4 (x2_4, x1_4) H locs ls (show lX2_farmerCount_4 f kv (n + 1) x2_4 x1_4 = (x2_4, x1_4) from ((if_pos c_1).trans rfl)).symm  hP hD hS (lv_sub hl [1] rfl)
      · have d_1 := i_len rfl rfl c_1
        refine lv_iload_n hx hb dX2_farmerCount_12 rfl (lv_at hl 0 rfl) ?_
        refine lv_aload_n hx hb dX2_farmerCount_13 rfl (lv_at hl 2 rfl) ?_
        refine va_get (D := D) (ci := 2) (v := .ref (Z 1)) (C := RX2) (T := TX2) (N := 12) hx hb hts iX2 hown hK hP 5 rfl rfl 0 (by decide) k11 (fun _ h9 => h9) rfl dX2_farmerCount_14 ?_
        refine va_alen (v := 5) hx hb hK hP 6 2 rfl rfl rfl dX2_farmerCount_17 ?_
        refine lv_icmp_ge (tgt := 39) hx hb dX2_farmerCount_18 (by decide) (fun c_2 => ?_) (fun c_2 => ?_)
        · have d_2 := i_le (show (5 : Int32).toInt = 5 from by decide) rfl c_2
          exact kont_4 (x2_4, x1_4) H locs ls (show lX2_farmerCount_4 f kv (n + 1) x2_4 x1_4 = (x2_4, x1_4) from ((if_neg c_1).trans ((if_pos c_2).trans rfl))).symm  hP hD hS (lv_sub hl [1] rfl)
        · have d_2 := i_len (show (5 : Int32).toInt = 5 from by decide) rfl c_2
          refine lv_iload_n hx hb dX2_farmerCount_21 rfl (lv_at hl 1 rfl) ?_
          refine lv_aload_n hx hb dX2_farmerCount_22 rfl (lv_at hl 2 rfl) ?_
          refine va_get (D := D) (ci := 2) (v := .ref (Z 1)) (C := RX2) (T := TX2) (N := 12) hx hb hts iX2 hown hK hP 5 rfl rfl 0 (by decide) k11 (fun _ h9 => h9) rfl dX2_farmerCount_23 ?_
          refine lv_iload_n hx hb dX2_farmerCount_26 rfl (lv_at hl 0 rfl) ?_
          have q_3 : vp_in x2_4 5 := vp_in_iff.mpr ⟨by omega, by omega⟩
          refine va_aldq hx hb hK hP 6 2 rfl rfl q_3 dX2_farmerCount_27 ?_
          refine W.eq (g2 := F0 m 28 ls [.ref (Z (3 + x2_4.toNatClampNeg)), .int x1_4]) rfl ?_
          have hq_3 : x2_4.toNatClampNeg < 5 := vp_lt q_3
          refine va_get (D := D) (ci := 1) (v := .int ((kv x2_4.toNatClampNeg) 2)) (C := RX1) (T := TX1) (N := 9) hx hb hts iX1 hown hK hP x2_4.toNatClampNeg (kk_get hq_3) rfl 2 (by decide) k74 (fun _ h9 => h9) rfl dX2_farmerCount_28 ?_
          refine lv_iadd hx hb dX2_farmerCount_31 ?_
          refine lv_topi (fun x_4 ex_4 => ?_)
          refine lv_istore_n (lv' := [(1, .int x_4), (2, .int x2_4), (0, .ref (Z 0))]) hx hb dX2_farmerCount_32 rfl hl (by decide) rfl (fun ls hl => ?_)
          obtain ⟨x_5, ex_5⟩ : ∃ z : Int32, z = x2_4 + 1 := ⟨_, rfl⟩
          refine lv_iinc (v := x_5) (lv' := [(2, .int x_5), (1, .int x_4), (0, .ref (Z 0))]) hx hb dX2_farmerCount_33 hl (k := 1) rfl (by rw [ex_5]; rfl) (by decide) rfl (fun ls hl => ?_)
          refine lv_goto (tgt := 4) hx hb dX2_farmerCount_36 (by decide) ?_
          have tx_5 : x_5.toInt = x2_4.toInt + 1 := i_inc ex_5 (by decide) (by omega) (by omega)
          refine ih_4 x_5 x_4 H locs ls (by omega) (by omega) (by omega) hP hD hS (lv_sub hl [0, 1, 2] rfl) (fun u H locs ls eu  hP hD hS hl => ?_)
          exact kont_4 u H locs ls (eu.trans (show lX2_farmerCount_4 f kv (n + 1) x2_4 x1_4 = lX2_farmerCount_4 f kv n x_5 x_4 from ((if_neg c_1).trans ((if_neg c_2).trans (lt_eq ex_4 (lt_eq ex_5 rfl))))).symm)  hP hD hS hl
  refine L_4 6 0 0 H locs ls (by decide) (by decide) (by decide) hP hD hS (lv_sub hl [0, 1, 2] rfl) (fun u_6 H locs ls eu_6  hP hD hS hl => ?_)
  have hP : va_P D vwCl (landW Z cK f kv mv ++ R) H := hP
  have hD : va_D A (landW Z cK f kv mv ++ R) := hD
  refine lv_iload_n hx hb dX2_farmerCount_39 rfl (lv_at hl 0 rfl) ?_
  rw [hQm]
  exact mx_iret (u0 := sX2_farmerCount f kv) (rv := (fun u => some (.int u))) (w1 := (fun _ => landW Z cK f kv mv ++ R)) (u := (u_6.2)) hx hb hr hlocks hK hS (lt_eq eu_6 rfl) hP hD rfl dX2_farmerCount_40

def lX2_outBits_4 (f : Nat → Int32) (kv : Nat → Nat → Int32) : Nat → Int32 → Int32 → Int32 × Int32
  | 0, x2_4, x1_4 => (x2_4, x1_4)
  | n + 1, x2_4, x1_4 => if (f 2) ≤ x2_4 then ((x2_4, x1_4)) else (if 5 ≤ x2_4 then ((x2_4, x1_4)) else (lt (if ((kv x2_4.toNatClampNeg) 7) = 0 then (0) else (((1 : Int32) <<< (x2_4 &&& 31)))) (fun y_4 : Int32 => lt (x1_4 ||| y_4) (fun x_6 : Int32 => lt (x2_4 + 1) (fun x_7 : Int32 => lX2_outBits_4 f kv n x_7 x_6)))))

def sX2_outBits (f : Nat → Int32) (kv : Nat → Nat → Int32) : Int32 := lt (lX2_outBits_4 f kv 6 0 0) (fun u_8 : Int32 × Int32 => (u_8.2))
set_option maxHeartbeats 4000000 in
set_option maxRecDepth 100000 in
theorem mtX2_outBits (l : Launch) (D : va_G) (cI cB cK cS : ClassId) (Z : Nat → Nat) (R : va_W) (f : Nat → Int32) (kv : Nat → Nat → Int32) (mv : Nat → Int32) : MX l yX2_outBits wsX2_outBits (rmX 1) D (tyX cI cB cK cS) pF0 (landW Z cK f kv mv ++ R) [.ref (Z 0)] (sX2_outBits f kv) (fun u => some (.int u)) (fun _ => landW Z cK f kv mv ++ R) := by
  refine mx_intro (cc := cX2_outBits) (maxL := 3) (ret := (some .int)) (by decide) rfl (Nat.le_of_ble_eq_true rfl) ?_
  intro p e s m below meth c A ls H locs Qm hQm hx hb hr hml hts hown hlocks hA hS hP hK hD hF hl
  have hown : s.vm.findClass RX2 = some m.cls := hown
  have hl : lv_has ls 3 [(0, .ref (Z 0))] := hl
  have k24 := hts (.fieldLink RX2 24 "PigRounds$Land" "kindCount" "I") (by decide +kernel)
  have k11 := hts (.fieldLink RX2 11 "PigRounds$Land" "kinds" "[LPigRounds$Kind;") (by decide +kernel)
  have k70 := hts (.fieldLink RX2 70 "PigRounds$Kind" "out" "Z") (by decide +kernel)
  have iX1 : ∀ w ∈ u_ws RX1 TX1 9, w ∈ wsX2_outBits := by decide +kernel
  have iX2 : ∀ w ∈ u_ws RX2 TX2 12, w ∈ wsX2_outBits := by decide +kernel
  refine lv_iconst (v := 0) hx hb dX2_outBits_0 (by decide) ?_
  refine lv_istore_n (lv' := [(1, .int 0), (0, .ref (Z 0))]) hx hb dX2_outBits_1 rfl hl (by decide) rfl (fun ls hl => ?_)
  refine lv_iconst (v := 0) hx hb dX2_outBits_2 (by decide) ?_
  refine lv_istore_n (lv' := [(2, .int 0), (1, .int 0), (0, .ref (Z 0))]) hx hb dX2_outBits_3 rfl hl (by decide) rfl (fun ls hl => ?_)
  have L_4 : ∀ (n : Nat) (x2_4 : Int32) (x1_4 : Int32) (H : Heap) (locs : List Loc) (ls : Array Slot), 0 ≤ x2_4.toInt → x2_4.toInt ≤ 5 → (5 : Int) < x2_4.toInt + ((n : Nat) : Int) → va_P D vwCl (landW Z cK f kv mv ++ R) H → va_D A (landW Z cK f kv mv ++ R) → va_S A s.heap H locs → lv_has ls 3 [(2, .int x2_4), (1, .int x1_4), (0, .ref (Z 0))] → (∀ (u : Int32 × Int32) (H : Heap) (locs : List Loc) (ls : Array Slot), u = lX2_outBits_4 f kv n x2_4 x1_4 → va_P D vwCl (landW Z cK f kv mv ++ R) H → va_D A (landW Z cK f kv mv ++ R) → va_S A s.heap H locs → lv_has ls 3 [(1, .int u.2)] → W p l e (rmX 1) s m ([.ref (Z 0)] : List Value).toArray below meth c H locs 0 0 Qm (F0 m 49 ls [])) → W p l e (rmX 1) s m ([.ref (Z 0)] : List Value).toArray below meth c H locs 0 0 Qm (F0 m 4 ls []) := by
    intro n
    induction n with
    | zero =>
      intro x2_4 x1_4 H locs ls iv_4_0 iv_4_1 iv_4_2 hP hD hS hl kont_4
      exfalso; omega
    | succ n ih_4 =>
      intro x2_4 x1_4 H locs ls iv_4_0 iv_4_1 iv_4_2 hP hD hS hl kont_4
      refine lv_iload_n hx hb dX2_outBits_4 rfl (lv_at hl 0 rfl) ?_
      refine lv_aload_n hx hb dX2_outBits_5 rfl (lv_at hl 2 rfl) ?_
      refine va_get (D := D) (ci := 2) (v := .int (f 2)) (C := RX2) (T := TX2) (N := 12) hx hb hts iX2 hown hK hP 5 rfl rfl 2 (by decide) k24 (fun _ h9 => h9) rfl dX2_outBits_6 ?_
      refine lv_icmp_ge (tgt := 49) hx hb dX2_outBits_9 (by decide) (fun c_1 => ?_) (fun c_1 => ?_)
      · have d_1 := i_le rfl rfl c_1
        exact kont_4 (x2_4, x1_4) H locs ls (show lX2_outBits_4 f kv (n + 1) x2_4 x1_4 = (x2_4, x1_4) from ((if_pos c_1).trans rfl)).symm  hP hD hS (lv_sub hl [1] rfl)
      · have d_1 := i_len rfl rfl c_1
        refine lv_iload_n hx hb dX2_outBits_12 rfl (lv_at hl 0 rfl) ?_
        refine lv_aload_n hx hb dX2_outBits_13 rfl (lv_at hl 2 rfl) ?_
        refine va_get (D := D) (ci := 2) (v := .ref (Z 1)) (C := RX2) (T := TX2) (N := 12) hx hb hts iX2 hown hK hP 5 rfl rfl 0 (by decide) k11 (fun _ h9 => h9) rfl dX2_outBits_14 ?_
        refine va_alen (v := 5) hx hb hK hP 6 2 rfl rfl rfl dX2_outBits_17 ?_
        refine lv_icmp_ge (tgt := 49) hx hb dX2_outBits_18 (by decide) (fun c_2 => ?_) (fun c_2 => ?_)
        · have d_2 := i_le (show (5 : Int32).toInt = 5 from by decide) rfl c_2
          exact kont_4 (x2_4, x1_4) H locs ls (show lX2_outBits_4 f kv (n + 1) x2_4 x1_4 = (x2_4, x1_4) from ((if_neg c_1).trans ((if_pos c_2).trans rfl))).symm  hP hD hS (lv_sub hl [1] rfl)
        · have d_2 := i_len (show (5 : Int32).toInt = 5 from by decide) rfl c_2
          refine lv_iload_n hx hb dX2_outBits_21 rfl (lv_at hl 1 rfl) ?_
          refine lv_aload_n hx hb dX2_outBits_22 rfl (lv_at hl 2 rfl) ?_
          refine va_get (D := D) (ci := 2) (v := .ref (Z 1)) (C := RX2) (T := TX2) (N := 12) hx hb hts iX2 hown hK hP 5 rfl rfl 0 (by decide) k11 (fun _ h9 => h9) rfl dX2_outBits_23 ?_
          refine lv_iload_n hx hb dX2_outBits_26 rfl (lv_at hl 0 rfl) ?_
          have q_3 : vp_in x2_4 5 := vp_in_iff.mpr ⟨by omega, by omega⟩
          refine va_aldq hx hb hK hP 6 2 rfl rfl q_3 dX2_outBits_27 ?_
          refine W.eq (g2 := F0 m 28 ls [.ref (Z (3 + x2_4.toNatClampNeg)), .int x1_4]) rfl ?_
          have hq_3 : x2_4.toNatClampNeg < 5 := vp_lt q_3
          refine va_get (D := D) (ci := 1) (v := .int ((kv x2_4.toNatClampNeg) 7)) (C := RX1) (T := TX1) (N := 9) hx hb hts iX1 hown hK hP x2_4.toNatClampNeg (kk_get hq_3) rfl 7 (by decide) k70 (fun _ h9 => h9) rfl dX2_outBits_28 ?_
          have J_4 : ∀ (y_4 : Int32) (H : Heap) (locs : List Loc) (ls : Array Slot), y_4 = (if ((kv x2_4.toNatClampNeg) 7) = 0 then (0) else (((1 : Int32) <<< (x2_4 &&& 31)))) → va_P D vwCl (landW Z cK f kv mv ++ R) H → va_D A (landW Z cK f kv mv ++ R) → va_S A s.heap H locs → lv_has ls 3 [(2, .int x2_4), (0, .ref (Z 0))] → W p l e (rmX 1) s m ([.ref (Z 0)] : List Value).toArray below meth c H locs 0 0 Qm (F0 m 41 ls [.int y_4, .int x1_4]) := by
            intro y_4 H locs ls ey_4 hP hD hS hl
            refine lv_ior hx hb dX2_outBits_41 ?_
            refine lv_topi (fun x_6 ex_6 => ?_)
            refine lv_istore_n (lv' := [(1, .int x_6), (2, .int x2_4), (0, .ref (Z 0))]) hx hb dX2_outBits_42 rfl hl (by decide) rfl (fun ls hl => ?_)
            obtain ⟨x_7, ex_7⟩ : ∃ z : Int32, z = x2_4 + 1 := ⟨_, rfl⟩
            refine lv_iinc (v := x_7) (lv' := [(2, .int x_7), (1, .int x_6), (0, .ref (Z 0))]) hx hb dX2_outBits_43 hl (k := 1) rfl (by rw [ex_7]; rfl) (by decide) rfl (fun ls hl => ?_)
            refine lv_goto (tgt := 4) hx hb dX2_outBits_46 (by decide) ?_
            have tx_7 : x_7.toInt = x2_4.toInt + 1 := i_inc ex_7 (by decide) (by omega) (by omega)
            refine ih_4 x_7 x_6 H locs ls (by omega) (by omega) (by omega) hP hD hS (lv_sub hl [0, 1, 2] rfl) (fun u H locs ls eu  hP hD hS hl => ?_)
            exact kont_4 u H locs ls (eu.trans (show lX2_outBits_4 f kv (n + 1) x2_4 x1_4 = lX2_outBits_4 f kv n x_7 x_6 from ((if_neg c_1).trans ((if_neg c_2).trans (lt_eq ey_4 (lt_eq ex_6 (lt_eq ex_7 rfl)))))).symm)  hP hD hS hl
          refine lv_if_eq (tgt := 40) hx hb dX2_outBits_31 (by decide) (fun c_5 => ?_) (fun c_5 => ?_)
          · have d_5 := i_eq rfl (show (0 : Int32).toInt = 0 from by decide) c_5
            refine lv_iconst (v := 0) hx hb dX2_outBits_40 (by decide) ?_
            exact J_4 0 H locs ls (Eq.symm ((if_pos c_5).trans rfl)) hP hD hS (lv_sub hl [0, 2] rfl)
          · have d_5 := i_eqn rfl (show (0 : Int32).toInt = 0 from by decide) c_5
            refine lv_iconst (v := 1) hx hb dX2_outBits_34 (by decide) ?_
            refine lv_iload_n hx hb dX2_outBits_35 rfl (lv_at hl 0 rfl) ?_
            refine lv_ishl hx hb dX2_outBits_36 ?_
            refine lv_goto (tgt := 41) hx hb dX2_outBits_37 (by decide) ?_
            exact J_4 ((1 : Int32) <<< (x2_4 &&& 31)) H locs ls (Eq.symm ((if_neg c_5).trans rfl)) hP hD hS (lv_sub hl [0, 2] rfl)
  refine L_4 6 0 0 H locs ls (by decide) (by decide) (by decide) hP hD hS (lv_sub hl [0, 1, 2] rfl) (fun u_8 H locs ls eu_8  hP hD hS hl => ?_)
  have hP : va_P D vwCl (landW Z cK f kv mv ++ R) H := hP
  have hD : va_D A (landW Z cK f kv mv ++ R) := hD
  refine lv_iload_n hx hb dX2_outBits_49 rfl (lv_at hl 0 rfl) ?_
  rw [hQm]
  exact mx_iret (u0 := sX2_outBits f kv) (rv := (fun u => some (.int u))) (w1 := (fun _ => landW Z cK f kv mv ++ R)) (u := (u_8.2)) hx hb hr hlocks hK hS (lt_eq eu_8 rfl) hP hD rfl dX2_outBits_50

def sX2_likeness (f : Nat → Int32) (kv : Nat → Nat → Int32) : Int32 := lt (sX2_outBits f kv) (fun u_1 : Int32 => (((((((f 6) * 100) + (f 7)) * 100) + (f 8)) <<< (5 &&& 31)) ||| u_1))
set_option maxHeartbeats 4000000 in
set_option maxRecDepth 100000 in
theorem mtX2_likeness (l : Launch) (D : va_G) (cI cB cK cS : ClassId) (Z : Nat → Nat) (R : va_W) (f : Nat → Int32) (kv : Nat → Nat → Int32) (mv : Nat → Int32) : MX l yX2_likeness wsX2_likeness (rmX 2) D (tyX cI cB cK cS) pF0 (landW Z cK f kv mv ++ R) [.ref (Z 0)] (sX2_likeness f kv) (fun u => some (.int u)) (fun _ => landW Z cK f kv mv ++ R) := by
  refine mx_intro (cc := cX2_likeness) (maxL := 1) (ret := (some .int)) (by decide) rfl (Nat.le_of_ble_eq_true rfl) ?_
  intro p e s m below meth c A ls H locs Qm hQm hx hb hr hml hts hown hlocks hA hS hP hK hD hF hl
  have hown : s.vm.findClass RX2 = some m.cls := hown
  have hl : lv_has ls 1 [(0, .ref (Z 0))] := hl
  have k37 := hts (.fieldLink RX2 37 "PigRounds$Land" "a" "I") (by decide +kernel)
  have k40 := hts (.fieldLink RX2 40 "PigRounds$Land" "b" "I") (by decide +kernel)
  have k43 := hts (.fieldLink RX2 43 "PigRounds$Land" "c" "I") (by decide +kernel)
  have iX2 : ∀ w ∈ u_ws RX2 TX2 12, w ∈ wsX2_likeness := by decide +kernel
  refine lv_aload_n hx hb dX2_likeness_0 rfl (lv_at hl 0 rfl) ?_
  refine va_get (D := D) (ci := 2) (v := .int (f 6)) (C := RX2) (T := TX2) (N := 12) hx hb hts iX2 hown hK hP 5 rfl rfl 6 (by decide) k37 (fun _ h9 => h9) rfl dX2_likeness_1 ?_
  refine lv_bipush (v := 100) hx hb dX2_likeness_4 (by decide) ?_
  refine lv_imul hx hb dX2_likeness_6 ?_
  refine lv_aload_n hx hb dX2_likeness_7 rfl (lv_at hl 0 rfl) ?_
  refine va_get (D := D) (ci := 2) (v := .int (f 7)) (C := RX2) (T := TX2) (N := 12) hx hb hts iX2 hown hK hP 5 rfl rfl 7 (by decide) k40 (fun _ h9 => h9) rfl dX2_likeness_8 ?_
  refine lv_iadd hx hb dX2_likeness_11 ?_
  refine lv_bipush (v := 100) hx hb dX2_likeness_12 (by decide) ?_
  refine lv_imul hx hb dX2_likeness_14 ?_
  refine lv_aload_n hx hb dX2_likeness_15 rfl (lv_at hl 0 rfl) ?_
  refine va_get (D := D) (ci := 2) (v := .int (f 8)) (C := RX2) (T := TX2) (N := 12) hx hb hts iX2 hown hK hP 5 rfl rfl 8 (by decide) k43 (fun _ h9 => h9) rfl dX2_likeness_16 ?_
  refine lv_iadd hx hb dX2_likeness_19 ?_
  refine lv_iconst (v := 5) hx hb dX2_likeness_20 (by decide) ?_
  refine lv_ishl hx hb dX2_likeness_21 ?_
  refine lv_aload_n hx hb dX2_likeness_22 rfl (lv_at hl 0 rfl) ?_
  refine mx_callV (As := []) (rest := [.int ((((((f 6) * 100) + (f 7)) * 100) + (f 8)) <<< (5 &&& 31))]) ⟨hx, hb, hml, hown, hts⟩ (mtX2_outBits l D cI cB cK cS Z R f kv mv) (cwV 0 hts gX2_likeness_X2_outBits rfl rfl rfl (by decide +kernel) ⟨Nat.le_of_ble_eq_true rfl, Nat.le_of_ble_eq_true rfl⟩) pF0_ok trivial hK hP hD hS hA 5 rfl rfl rfl rfl hl.1 rfl (Nat.le_of_ble_eq_true rfl) dX2_likeness_23 ⟨Nat.le_refl _, Nat.le_refl _⟩ (fun u_1 H locs eu_1 hP hD hS => ?_)
  refine W.eq (g2 := F0 m 26 ls [.int u_1, .int ((((((f 6) * 100) + (f 7)) * 100) + (f 8)) <<< (5 &&& 31))]) rfl ?_
  have hP : va_P D vwCl (landW Z cK f kv mv ++ R) H := hP
  have hD : va_D A (landW Z cK f kv mv ++ R) := hD
  refine lv_ior hx hb dX2_likeness_26 ?_
  rw [hQm]
  exact mx_iret (u0 := sX2_likeness f kv) (rv := (fun u => some (.int u))) (w1 := (fun _ => landW Z cK f kv mv ++ R)) (u := (((((((f 6) * 100) + (f 7)) * 100) + (f 8)) <<< (5 &&& 31)) ||| u_1)) hx hb hr hlocks hK hS (lt_eq eu_1 rfl) hP hD rfl dX2_likeness_27

def sX2_clear (f : Nat → Int32) (mv : Nat → Int32) : (Nat → Int32) × (Nat → Int32) := lt (sX3_order 0 0 0 mv) (fun u_1 : (Nat → Int32) => lt (sX3_forget u_1) (fun u_2 : (Nat → Int32) => (upd (upd (upd f 2 0) 10 0) 11 0, u_2)))
set_option maxHeartbeats 4000000 in
set_option maxRecDepth 100000 in
theorem mtX2_clear (l : Launch) (D : va_G) (cI cB cK cS : ClassId) (Z : Nat → Nat) (R : va_W) (f : Nat → Int32) (kv : Nat → Nat → Int32) (mv : Nat → Int32) : MX l yX2_clear wsX2_clear (rmX 2) D (tyX cI cB cK cS) pF0 (landW Z cK f kv mv ++ R) [.ref (Z 0)] (sX2_clear f mv) (fun _ => none) (fun u => landW Z cK u.1 kv u.2 ++ R) := by
  refine mx_intro (cc := cX2_clear) (maxL := 1) (ret := none) (by decide) rfl (Nat.le_of_ble_eq_true rfl) ?_
  intro p e s m below meth c A ls H locs Qm hQm hx hb hr hml hts hown hlocks hA hS hP hK hD hF hl
  have hown : s.vm.findClass RX2 = some m.cls := hown
  have hl : lv_has ls 1 [(0, .ref (Z 0))] := hl
  have k24 := hts (.fieldLink RX2 24 "PigRounds$Land" "kindCount" "I") (by decide +kernel)
  have k49 := hts (.fieldLink RX2 49 "PigRounds$Land" "pigs" "I") (by decide +kernel)
  have k52 := hts (.fieldLink RX2 52 "PigRounds$Land" "year" "I") (by decide +kernel)
  have k20 := hts (.fieldLink RX2 20 "PigRounds$Land" "ministry" "LPigRounds$Ministry;") (by decide +kernel)
  have iX2 : ∀ w ∈ u_ws RX2 TX2 12, w ∈ wsX2_clear := by decide +kernel
  refine lv_aload_n hx hb dX2_clear_0 rfl (lv_at hl 0 rfl) ?_
  refine lv_iconst (v := 0) hx hb dX2_clear_1 (by decide) ?_
  refine va_put (D := D) (ci := 2) (v := .int 0) (ty := .int) (C := RX2) (T := TX2) (N := 12) hx hb hts iX2 tyX2 tyX2_ok nmX2 hown hK hP hD hS 5 rfl rfl 2 (by decide) k24 (fun _ h9 => h9) rfl (by decide +kernel) rfl rfl (Nat.le_of_ble_eq_true rfl) dX2_clear_2 (fun H locs hP hD hS => ?_)
  have hP : va_P D vwCl (landW Z cK (upd f 2 0) kv mv ++ R) H := hP
  have hD : va_D A (landW Z cK (upd f 2 0) kv mv ++ R) := hD
  refine lv_aload_n hx hb dX2_clear_5 rfl (lv_at hl 0 rfl) ?_
  refine lv_iconst (v := 0) hx hb dX2_clear_6 (by decide) ?_
  refine va_put (D := D) (ci := 2) (v := .int 0) (ty := .int) (C := RX2) (T := TX2) (N := 12) hx hb hts iX2 tyX2 tyX2_ok nmX2 hown hK hP hD hS 5 rfl rfl 10 (by decide) k49 (fun _ h9 => h9) rfl (by decide +kernel) rfl rfl (Nat.le_of_ble_eq_true rfl) dX2_clear_7 (fun H locs hP hD hS => ?_)
  have hP : va_P D vwCl (landW Z cK (upd (upd f 2 0) 10 0) kv mv ++ R) H := hP
  have hD : va_D A (landW Z cK (upd (upd f 2 0) 10 0) kv mv ++ R) := hD
  refine lv_aload_n hx hb dX2_clear_10 rfl (lv_at hl 0 rfl) ?_
  refine lv_iconst (v := 0) hx hb dX2_clear_11 (by decide) ?_
  refine va_put (D := D) (ci := 2) (v := .int 0) (ty := .int) (C := RX2) (T := TX2) (N := 12) hx hb hts iX2 tyX2 tyX2_ok nmX2 hown hK hP hD hS 5 rfl rfl 11 (by decide) k52 (fun _ h9 => h9) rfl (by decide +kernel) rfl rfl (Nat.le_of_ble_eq_true rfl) dX2_clear_12 (fun H locs hP hD hS => ?_)
  have hP : va_P D vwCl (landW Z cK (upd (upd (upd f 2 0) 10 0) 11 0) kv mv ++ R) H := hP
  have hD : va_D A (landW Z cK (upd (upd (upd f 2 0) 10 0) 11 0) kv mv ++ R) := hD
  refine lv_aload_n hx hb dX2_clear_15 rfl (lv_at hl 0 rfl) ?_
  refine va_get (D := D) (ci := 2) (v := .ref (Z 2)) (C := RX2) (T := TX2) (N := 12) hx hb hts iX2 hown hK hP 5 rfl rfl 1 (by decide) k20 (fun _ h9 => h9) rfl dX2_clear_16 ?_
  refine lv_iconst (v := 0) hx hb dX2_clear_19 (by decide) ?_
  refine lv_iconst (v := 0) hx hb dX2_clear_20 (by decide) ?_
  refine lv_iconst (v := 0) hx hb dX2_clear_21 (by decide) ?_
  refine mx_callV (As := [.int 0, .int 0, .int 0]) (rest := []) ⟨hx, hb, hml, hown, hts⟩ (mtX3_order l D cI cB cK cS (landW Z cK (upd (upd (upd f 2 0) 10 0) 11 0) kv mv ++ R) (Z 2) 7 mv 0 0 0 rfl) (cwV 3 hts gX2_clear_X3_order rfl rfl rfl (by decide +kernel) ⟨Nat.le_of_ble_eq_true rfl, Nat.le_of_ble_eq_true rfl⟩) pF0_ok trivial hK hP hD hS hA 7 rfl rfl rfl rfl hl.1 rfl (Nat.le_of_ble_eq_true rfl) dX2_clear_22 ⟨Nat.le_refl _, Nat.le_refl _⟩ (fun u_1 H locs eu_1 hP hD hS => ?_)
  refine W.eq (g2 := F0 m 25 ls []) rfl ?_
  have hP : va_P D vwCl (landW Z cK (upd (upd (upd f 2 0) 10 0) 11 0) kv u_1 ++ R) H := hP
  have hD : va_D A (landW Z cK (upd (upd (upd f 2 0) 10 0) 11 0) kv u_1 ++ R) := hD
  refine lv_aload_n hx hb dX2_clear_25 rfl (lv_at hl 0 rfl) ?_
  refine va_get (D := D) (ci := 2) (v := .ref (Z 2)) (C := RX2) (T := TX2) (N := 12) hx hb hts iX2 hown hK hP 5 rfl rfl 1 (by decide) k20 (fun _ h9 => h9) rfl dX2_clear_26 ?_
  refine mx_callV (As := []) (rest := []) ⟨hx, hb, hml, hown, hts⟩ (mtX3_forget l D cI cB cK cS (landW Z cK (upd (upd (upd f 2 0) 10 0) 11 0) kv u_1 ++ R) (Z 2) 7 u_1 rfl) (cwV 0 hts gX2_clear_X3_forget rfl rfl rfl (by decide +kernel) ⟨Nat.le_of_ble_eq_true rfl, Nat.le_of_ble_eq_true rfl⟩) pF0_ok trivial hK hP hD hS hA 7 rfl rfl rfl rfl hl.1 rfl (Nat.le_of_ble_eq_true rfl) dX2_clear_29 ⟨Nat.le_refl _, Nat.le_refl _⟩ (fun u_2 H locs eu_2 hP hD hS => ?_)
  refine W.eq (g2 := F0 m 32 ls []) rfl ?_
  have hP : va_P D vwCl (landW Z cK (upd (upd (upd f 2 0) 10 0) 11 0) kv u_2 ++ R) H := hP
  have hD : va_D A (landW Z cK (upd (upd (upd f 2 0) 10 0) 11 0) kv u_2 ++ R) := hD
  rw [hQm]
  exact mx_vret (u0 := sX2_clear f mv) (rv := (fun _ => none)) (w1 := (fun u => landW Z cK u.1 kv u.2 ++ R)) (u := (upd (upd (upd f 2 0) 10 0) 11 0, u_2)) hx hb hr hlocks hK hS (lt_eq eu_1 (lt_eq eu_2 rfl)) hP hD rfl dX2_clear_32

def sX2_trendWeight (a : Int32) (b : Int32) : Int32 := if b = 0 then ((30 + a)) else (if b = 1 then ((-a)) else ((0)))
set_option maxHeartbeats 4000000 in
set_option maxRecDepth 100000 in
theorem mtX2_trendWeight (l : Launch) (D : va_G) (cI cB cK cS : ClassId) (ws : va_W)  (a : Int32) (b : Int32) : MX l yX2_trendWeight wsX2_trendWeight (rmX 1) D (tyX cI cB cK cS) pF0 (ws) [.int a, .int b] (sX2_trendWeight a b) (fun u => some (.int u)) (fun _ => ws) := by
  refine mx_intro (cc := cX2_trendWeight) (maxL := 2) (ret := (some .int)) (by decide) rfl (Nat.le_of_ble_eq_true rfl) ?_
  intro p e s m below meth c A ls H locs Qm hQm hx hb hr hml hts hown hlocks hA hS hP hK hD hF hl
  have hown : s.vm.findClass RX2 = some m.cls := hown
  have hl : lv_has ls 2 [(0, .int a), (1, .int b)] := hl
  refine lv_iload_n hx hb dX2_trendWeight_0 rfl (lv_at hl 1 rfl) ?_
  refine lv_if_ne (tgt := 9) hx hb dX2_trendWeight_1 (by decide) (fun c_1 => ?_) (fun c_1 => ?_)
  · refine lv_iload_n hx hb dX2_trendWeight_9 rfl (lv_at hl 1 rfl) ?_
    refine lv_iconst (v := 1) hx hb dX2_trendWeight_10 (by decide) ?_
    refine lv_icmp_ne (tgt := 19) hx hb dX2_trendWeight_11 (by decide) (fun c_2 => ?_) (fun c_2 => ?_)
    · refine lv_iconst (v := 0) hx hb dX2_trendWeight_19 (by decide) ?_
      rw [hQm]
      exact mx_iret (u0 := sX2_trendWeight a b) (rv := (fun u => some (.int u))) (w1 := (fun _ => ws)) (u := (0)) hx hb hr hlocks hK hS ((if_neg c_1).trans ((if_neg c_2).trans rfl)) hP hD rfl dX2_trendWeight_20
    · refine lv_iload_n hx hb dX2_trendWeight_14 rfl (lv_at hl 0 rfl) ?_
      refine lv_ineg hx hb dX2_trendWeight_15 ?_
      refine lv_goto (tgt := 20) hx hb dX2_trendWeight_16 (by decide) ?_
      rw [hQm]
      exact mx_iret (u0 := sX2_trendWeight a b) (rv := (fun u => some (.int u))) (w1 := (fun _ => ws)) (u := (-a)) hx hb hr hlocks hK hS ((if_neg c_1).trans ((if_pos c_2).trans rfl)) hP hD rfl dX2_trendWeight_20
  · refine lv_bipush (v := 30) hx hb dX2_trendWeight_4 (by decide) ?_
    refine lv_iload_n hx hb dX2_trendWeight_6 rfl (lv_at hl 0 rfl) ?_
    refine lv_iadd hx hb dX2_trendWeight_7 ?_
    rw [hQm]
    exact mx_iret (u0 := sX2_trendWeight a b) (rv := (fun u => some (.int u))) (w1 := (fun _ => ws)) (u := (30 + a)) hx hb hr hlocks hK hS ((if_pos c_1).trans rfl) hP hD rfl dX2_trendWeight_8

def sX2_weightOf (b : Int32) (v : Nat → Int32) : Int32 := if (v 0) = 1 then (if b = 0 then ((30)) else ((0))) else (if (v 0) = 2 then (if (v 1) ≤ b then ((0)) else (lt (if 1 < (v 1) then (v 1) else 1) (fun x_5 : Int32 => (30 / x_5)))) else (if (v 0) = 3 then (lt (sX2_trendWeight (3 * (v 1)) b) (fun u_7 : Int32 => (u_7))) else (if (v 0) = 4 then (if b = 0 then (((-10))) else ((20))) else ((0)))))
set_option maxHeartbeats 4000000 in
set_option maxRecDepth 100000 in
theorem mtX2_weightOf (l : Launch) (D : va_G) (cI cB cK cS : ClassId) (ws : va_W) (h q : Nat) (v : Nat → Int32) (b : Int32) (he : ws[q]? = some (h, .inr (1, kf v))) : MX l yX2_weightOf wsX2_weightOf (rmX 2) D (tyX cI cB cK cS) pF0 (ws) [.ref h, .int b] (sX2_weightOf b v) (fun u => some (.int u)) (fun _ => ws) := by
  refine mx_intro (cc := cX2_weightOf) (maxL := 2) (ret := (some .int)) (by decide) rfl (Nat.le_of_ble_eq_true rfl) ?_
  intro p e s m below meth c A ls H locs Qm hQm hx hb hr hml hts hown hlocks hA hS hP hK hD hF hl
  have hown : s.vm.findClass RX2 = some m.cls := hown
  have hl : lv_has ls 2 [(0, .ref h), (1, .int b)] := hl
  have k87 := hts (.fieldLink RX2 87 "PigRounds$Kind" "way" "I") (by decide +kernel)
  have k98 := hts (.fieldLink RX2 98 "PigRounds$Kind" "number" "I") (by decide +kernel)
  have k117 := hts (.methodLink RX2 117 Lib.Math.max.name) (by decide +kernel)
  have kS_max := hts (.static Lib.Math.max.name) (by decide +kernel)
  have kI_math := hts (.initialized "java/lang/Math") (by decide +kernel)
  have kC_max := hts (.code Lib.Math.max.name Lib.Math.max.code 2 (some .int)) (by decide +kernel)
  have iX1 : ∀ w ∈ u_ws RX1 TX1 9, w ∈ wsX2_weightOf := by decide +kernel
  refine lv_aload_n hx hb dX2_weightOf_0 rfl (lv_at hl 0 rfl) ?_
  refine va_get (D := D) (ci := 1) (v := .int (v 0)) (C := RX1) (T := TX1) (N := 9) hx hb hts iX1 hown hK hP q he rfl 0 (by decide) k87 (fun _ h9 => h9) rfl dX2_weightOf_1 ?_
  rcases Classical.em ((v 0) = 1) with c_1 | c_1
  · refine lv_tableIn (tgt := 36) hx hb dX2_weightOf_4 (by rw [c_1]; decide) (by rw [c_1]; decide) (by rw [c_1]; rfl) (by decide) ?_
    have d_1 := i_eq rfl (show (1 : Int32).toInt = 1 from by decide) c_1
    refine lv_iload_n hx hb dX2_weightOf_36 rfl (lv_at hl 1 rfl) ?_
    refine lv_if_ne (tgt := 45) hx hb dX2_weightOf_37 (by decide) (fun c_2 => ?_) (fun c_2 => ?_)
    · have d_2 := i_eqn rfl (show (0 : Int32).toInt = 0 from by decide) c_2
      refine lv_iconst (v := 0) hx hb dX2_weightOf_45 (by decide) ?_
      rw [hQm]
      exact mx_iret (u0 := sX2_weightOf b v) (rv := (fun u => some (.int u))) (w1 := (fun _ => ws)) (u := (0)) hx hb hr hlocks hK hS ((if_pos c_1).trans ((if_neg c_2).trans rfl)) hP hD rfl dX2_weightOf_46
    · have d_2 := i_eq rfl (show (0 : Int32).toInt = 0 from by decide) c_2
      refine lv_bipush (v := 30) hx hb dX2_weightOf_40 (by decide) ?_
      refine lv_goto (tgt := 46) hx hb dX2_weightOf_42 (by decide) ?_
      rw [hQm]
      exact mx_iret (u0 := sX2_weightOf b v) (rv := (fun u => some (.int u))) (w1 := (fun _ => ws)) (u := (30)) hx hb hr hlocks hK hS ((if_pos c_1).trans ((if_pos c_2).trans rfl)) hP hD rfl dX2_weightOf_46
  · rcases Classical.em ((v 0) = 2) with c_3 | c_3
    · refine lv_tableIn (tgt := 47) hx hb dX2_weightOf_4 (by rw [c_3]; decide) (by rw [c_3]; decide) (by rw [c_3]; rfl) (by decide) ?_
      have d_3 := i_eq rfl (show (2 : Int32).toInt = 2 from by decide) c_3
      refine lv_iload_n hx hb dX2_weightOf_47 rfl (lv_at hl 1 rfl) ?_
      refine lv_aload_n hx hb dX2_weightOf_48 rfl (lv_at hl 0 rfl) ?_
      refine va_get (D := D) (ci := 1) (v := .int (v 1)) (C := RX1) (T := TX1) (N := 9) hx hb hts iX1 hown hK hP q he rfl 1 (by decide) k98 (fun _ h9 => h9) rfl dX2_weightOf_49 ?_
      refine lv_icmp_ge (tgt := 69) hx hb dX2_weightOf_52 (by decide) (fun c_4 => ?_) (fun c_4 => ?_)
      · have d_4 := i_le rfl rfl c_4
        refine lv_iconst (v := 0) hx hb dX2_weightOf_69 (by decide) ?_
        rw [hQm]
        exact mx_iret (u0 := sX2_weightOf b v) (rv := (fun u => some (.int u))) (w1 := (fun _ => ws)) (u := (0)) hx hb hr hlocks hK hS ((if_neg c_1).trans ((if_pos c_3).trans ((if_pos c_4).trans rfl))) hP hD rfl dX2_weightOf_70
      · have d_4 := i_len rfl rfl c_4
        refine lv_bipush (v := 30) hx hb dX2_weightOf_55 (by decide) ?_
        refine lv_iconst (v := 1) hx hb dX2_weightOf_57 (by decide) ?_
        refine lv_aload_n hx hb dX2_weightOf_58 rfl (lv_at hl 0 rfl) ?_
        refine va_get (D := D) (ci := 1) (v := .int (v 1)) (C := RX1) (T := TX1) (N := 9) hx hb hts iX1 hown hK hP q he rfl 1 (by decide) k98 (fun _ h9 => h9) rfl dX2_weightOf_59 ?_
        refine va_mmax hx hb (by rw [hml]; exact hl.1.symm) hown k117 kS_max kI_math kC_max (Nat.le_of_ble_eq_true rfl) (Nat.le_of_ble_eq_true rfl) (Nat.le_refl _) (Nat.le_refl _) dX2_weightOf_62 ?_
        refine lv_topi (fun x_5 ex_5 => ?_)
        refine lv_idiv hx hb dX2_weightOf_65 (i_max1 ex_5) ?_
        refine lv_goto (tgt := 70) hx hb dX2_weightOf_66 (by decide) ?_
        rw [hQm]
        exact mx_iret (u0 := sX2_weightOf b v) (rv := (fun u => some (.int u))) (w1 := (fun _ => ws)) (u := (30 / x_5)) hx hb hr hlocks hK hS ((if_neg c_1).trans ((if_pos c_3).trans ((if_neg c_4).trans (lt_eq ex_5 rfl)))) hP hD rfl dX2_weightOf_70
    · rcases Classical.em ((v 0) = 3) with c_6 | c_6
      · refine lv_tableIn (tgt := 71) hx hb dX2_weightOf_4 (by rw [c_6]; decide) (by rw [c_6]; decide) (by rw [c_6]; rfl) (by decide) ?_
        have d_6 := i_eq rfl (show (3 : Int32).toInt = 3 from by decide) c_6
        refine lv_iconst (v := 3) hx hb dX2_weightOf_71 (by decide) ?_
        refine lv_aload_n hx hb dX2_weightOf_72 rfl (lv_at hl 0 rfl) ?_
        refine va_get (D := D) (ci := 1) (v := .int (v 1)) (C := RX1) (T := TX1) (N := 9) hx hb hts iX1 hown hK hP q he rfl 1 (by decide) k98 (fun _ h9 => h9) rfl dX2_weightOf_73 ?_
        refine lv_imul hx hb dX2_weightOf_76 ?_
        refine lv_iload_n hx hb dX2_weightOf_77 rfl (lv_at hl 1 rfl) ?_
        refine mx_callS (As := [.int (3 * (v 1)), .int b]) (rest := []) ⟨hx, hb, hml, hown, hts⟩ (mtX2_trendWeight l D cI cB cK cS (ws) (3 * (v 1)) b) (va_cwS 2 hts gX2_weightOf_X2_trendWeight rfl rfl rfl (by decide +kernel) ⟨Nat.le_of_ble_eq_true rfl, Nat.le_of_ble_eq_true rfl⟩) pF0_ok trivial hK hP hD hS hA rfl hl.1 rfl (Nat.le_of_ble_eq_true rfl) dX2_weightOf_78 ⟨Nat.le_refl _, Nat.le_refl _⟩ (fun u_7 H locs eu_7 hP hD hS => ?_)
        refine W.eq (g2 := F0 m 81 ls [.int u_7]) rfl ?_
        have hP : va_P D vwCl (ws) H := hP
        have hD : va_D A (ws) := hD
        rw [hQm]
        exact mx_iret (u0 := sX2_weightOf b v) (rv := (fun u => some (.int u))) (w1 := (fun _ => ws)) (u := (u_7)) hx hb hr hlocks hK hS ((if_neg c_1).trans ((if_neg c_3).trans ((if_pos c_6).trans (lt_eq eu_7 rfl)))) hP hD rfl dX2_weightOf_81
      · rcases Classical.em ((v 0) = 4) with c_8 | c_8
        · refine lv_tableIn (tgt := 82) hx hb dX2_weightOf_4 (by rw [c_8]; decide) (by rw [c_8]; decide) (by rw [c_8]; rfl) (by decide) ?_
          have d_8 := i_eq rfl (show (4 : Int32).toInt = 4 from by decide) c_8
          refine lv_iload_n hx hb dX2_weightOf_82 rfl (lv_at hl 1 rfl) ?_
          refine lv_if_ne (tgt := 91) hx hb dX2_weightOf_83 (by decide) (fun c_9 => ?_) (fun c_9 => ?_)
          · have d_9 := i_eqn rfl (show (0 : Int32).toInt = 0 from by decide) c_9
            refine lv_bipush (v := 20) hx hb dX2_weightOf_91 (by decide) ?_
            rw [hQm]
            exact mx_iret (u0 := sX2_weightOf b v) (rv := (fun u => some (.int u))) (w1 := (fun _ => ws)) (u := (20)) hx hb hr hlocks hK hS ((if_neg c_1).trans ((if_neg c_3).trans ((if_neg c_6).trans ((if_pos c_8).trans ((if_neg c_9).trans rfl))))) hP hD rfl dX2_weightOf_93
          · have d_9 := i_eq rfl (show (0 : Int32).toInt = 0 from by decide) c_9
            refine lv_bipush (v := (-10)) hx hb dX2_weightOf_86 (by decide) ?_
            refine lv_goto (tgt := 93) hx hb dX2_weightOf_88 (by decide) ?_
            rw [hQm]
            exact mx_iret (u0 := sX2_weightOf b v) (rv := (fun u => some (.int u))) (w1 := (fun _ => ws)) (u := ((-10))) hx hb hr hlocks hK hS ((if_neg c_1).trans ((if_neg c_3).trans ((if_neg c_6).trans ((if_pos c_8).trans ((if_pos c_9).trans rfl))))) hP hD rfl dX2_weightOf_93
        · refine lv_tableOut (tgt := 94) hx hb dX2_weightOf_4 (by have := lv_neT c_1 (show (1 : Int32).toInt = 1 from by decide); have := lv_neT c_3 (show (2 : Int32).toInt = 2 from by decide); have := lv_neT c_6 (show (3 : Int32).toInt = 3 from by decide); have := lv_neT c_8 (show (4 : Int32).toInt = 4 from by decide); omega) (by decide) ?_
          refine lv_iconst (v := 0) hx hb dX2_weightOf_94 (by decide) ?_
          rw [hQm]
          exact mx_iret (u0 := sX2_weightOf b v) (rv := (fun u => some (.int u))) (w1 := (fun _ => ws)) (u := (0)) hx hb hr hlocks hK hS ((if_neg c_1).trans ((if_neg c_3).trans ((if_neg c_6).trans ((if_neg c_8).trans rfl)))) hP hD rfl dX2_weightOf_95

def lX2_outlookAt_19 (f : Nat → Int32) (kv : Nat → Nat → Int32) : Nat → Int32 → Int64 → Int64 → Int64 → Int64 → Int32 × Int64 × Int64 × Int64 × Int64
  | 0, x10_19, x8_19, x6_19, x4_19, x2_19 => (x10_19, x8_19, x6_19, x4_19, x2_19)
  | n + 1, x10_19, x8_19, x6_19, x4_19, x2_19 => if (f 2) ≤ x10_19 then ((x10_19, x8_19, x6_19, x4_19, x2_19)) else (if 5 ≤ x10_19 then ((x10_19, x8_19, x6_19, x4_19, x2_19)) else (lt (if ((kv x10_19.toNatClampNeg) 7) = 0 then (lt (sX1_pull (kv x10_19.toNatClampNeg)) (fun u_7 : Int32 => lt (sX2_weightOf 0 (kv x10_19.toNatClampNeg)) (fun u_8 : Int32 => lt (x2_19 + ((u_7 * u_8).toInt64)) (fun x_9 : Int64 => lt (sX1_pull (kv x10_19.toNatClampNeg)) (fun u_10 : Int32 => lt (sX2_weightOf 1 (kv x10_19.toNatClampNeg)) (fun u_11 : Int32 => lt (x4_19 + ((u_10 * u_11).toInt64)) (fun x_12 : Int64 => lt (sX1_pull (kv x10_19.toNatClampNeg)) (fun u_13 : Int32 => lt (sX2_weightOf 2 (kv x10_19.toNatClampNeg)) (fun u_14 : Int32 => lt (x6_19 + ((u_13 * u_14).toInt64)) (fun x_15 : Int64 => lt (if ((kv x10_19.toNatClampNeg) 0) = 6 then (lt (sX1_pull (kv x10_19.toNatClampNeg)) (fun u_18 : Int32 => (30 * u_18.toInt64))) else (0)) (fun y_16 : Int64 => lt (x8_19 + y_16) (fun x_19 : Int64 => (x_19, x_15, x_12, x_9))))))))))))) else ((x8_19, x6_19, x4_19, x2_19))) (fun y_5 : Int64 × Int64 × Int64 × Int64 => lt (x10_19 + 1) (fun x_20 : Int32 => lX2_outlookAt_19 f kv n x_20 y_5.1 y_5.2.1 y_5.2.2.1 y_5.2.2.2))))

def sX2_outlookAt (g : Int32) (f : Nat → Int32) (kv : Nat → Nat → Int32) : Int32 := lt (300 * g.toInt64) (fun x_1 : Int64 => lt (lX2_outlookAt_19 f kv 6 0 x_1 0 0 0) (fun u_21 : Int32 × Int64 × Int64 × Int64 × Int64 => lt (if 0 < u_21.2.2.1 then u_21.2.2.1 else -u_21.2.2.1) (fun x_22 : Int64 => lt (u_21.2.1 - x_22) (fun x_23 : Int64 => lt (if 0 < (u_21.2.2.2.2 + u_21.2.2.1) then (u_21.2.2.2.2 + u_21.2.2.1) else -(u_21.2.2.2.2 + u_21.2.2.1)) (fun x_24 : Int64 => lt ((u_21.2.1 + u_21.2.2.2.1) - x_24) (fun x_25 : Int64 => lt (if 0 < ((u_21.2.2.2.1 * u_21.2.1) - (u_21.2.2.2.2 * u_21.2.2.1)) then ((u_21.2.2.2.1 * u_21.2.1) - (u_21.2.2.2.2 * u_21.2.2.1)) else -((u_21.2.2.2.1 * u_21.2.1) - (u_21.2.2.2.2 * u_21.2.2.1))) (fun x_26 : Int64 => lt (((u_21.2.1 * u_21.2.1) - (u_21.2.2.1 * u_21.2.2.1)) - x_26) (fun x_27 : Int64 => if (lg_cmp x_23 0) < 0 then ((2)) else (if (lg_cmp x_25 0) < 0 then ((2)) else (if 0 ≤ (lg_cmp x_27 0) then (if (lg_cmp x_23 0) ≤ 0 then ((1)) else (if (lg_cmp x_25 0) ≤ 0 then ((1)) else (if (lg_cmp x_27 0) ≤ 0 then ((1)) else ((0))))) else ((2))))))))))))
set_option maxHeartbeats 4000000 in
set_option maxRecDepth 100000 in
theorem mtX2_outlookAt (l : Launch) (D : va_G) (cI cB cK cS : ClassId) (Z : Nat → Nat) (R : va_W) (f : Nat → Int32) (kv : Nat → Nat → Int32) (mv : Nat → Int32) (g : Int32) : MX l yX2_outlookAt wsX2_outlookAt (rmX 3) D (tyX cI cB cK cS) pF0 (landW Z cK f kv mv ++ R) [.ref (Z 0), .int g] (sX2_outlookAt g f kv) (fun u => some (.int u)) (fun _ => landW Z cK f kv mv ++ R) := by
  refine mx_intro (cc := cX2_outlookAt) (maxL := 16) (ret := (some .int)) (by decide) rfl (Nat.le_of_ble_eq_true rfl) ?_
  intro p e s m below meth c A ls H locs Qm hQm hx hb hr hml hts hown hlocks hA hS hP hK hD hF hl
  have hown : s.vm.findClass RX2 = some m.cls := hown
  have hl : lv_has ls 16 [(0, .ref (Z 0)), (1, .int g)] := hl
  have k141 := hts (.constantLong RX2 141 (300)) (by decide +kernel)
  have k24 := hts (.fieldLink RX2 24 "PigRounds$Land" "kindCount" "I") (by decide +kernel)
  have k11 := hts (.fieldLink RX2 11 "PigRounds$Land" "kinds" "[LPigRounds$Kind;") (by decide +kernel)
  have k70 := hts (.fieldLink RX2 70 "PigRounds$Kind" "out" "Z") (by decide +kernel)
  have k87 := hts (.fieldLink RX2 87 "PigRounds$Kind" "way" "I") (by decide +kernel)
  have k150 := hts (.constantLong RX2 150 (30)) (by decide +kernel)
  have k152 := hts (.methodLink RX2 152 Lib.MathLoose.abs_long.x) (by decide +kernel)
  have kS_abs := hts (.static Lib.MathLoose.abs_long.x) (by decide +kernel)
  have kI_math := hts (.initialized "java/lang/Math") (by decide +kernel)
  have kC_abs := hts (.code Lib.MathLoose.abs_long.x Lib.MathLoose.abs_long.code 2 (some .long)) (by decide +kernel)
  have iX1 : ∀ w ∈ u_ws RX1 TX1 9, w ∈ wsX2_outlookAt := by decide +kernel
  have iX2 : ∀ w ∈ u_ws RX2 TX2 12, w ∈ wsX2_outlookAt := by decide +kernel
  refine lv_lconst (v := 0) hx hb dX2_outlookAt_0 (by decide) ?_
  refine lv_lstore_n (lv' := [(2, .long 0), (0, .ref (Z 0)), (1, .int g)]) hx hb dX2_outlookAt_1 rfl hl (by decide) rfl (fun ls hl => ?_)
  refine lv_lconst (v := 0) hx hb dX2_outlookAt_2 (by decide) ?_
  refine lv_lstore (lv' := [(4, .long 0), (2, .long 0), (0, .ref (Z 0)), (1, .int g)]) hx hb dX2_outlookAt_3 hl (by decide) rfl (fun ls hl => ?_)
  refine lv_lconst (v := 0) hx hb dX2_outlookAt_5 (by decide) ?_
  refine lv_lstore (lv' := [(6, .long 0), (4, .long 0), (2, .long 0), (0, .ref (Z 0)), (1, .int g)]) hx hb dX2_outlookAt_6 hl (by decide) rfl (fun ls hl => ?_)
  refine lv_ldc2 (v := 300) hx hb hown k141 dX2_outlookAt_8 ?_
  refine lv_iload_n hx hb dX2_outlookAt_11 rfl (lv_at hl 4 rfl) ?_
  refine lv_i2l (v := g.toInt64) hx hb dX2_outlookAt_12 rfl ?_
  refine lv_lmul hx hb dX2_outlookAt_13 ?_
  refine lv_topl (fun x_1 ex_1 => ?_)
  refine lv_lstore (lv' := [(8, .long x_1), (6, .long 0), (4, .long 0), (2, .long 0), (0, .ref (Z 0)), (1, .int g)]) hx hb dX2_outlookAt_14 hl (by decide) rfl (fun ls hl => ?_)
  refine lv_iconst (v := 0) hx hb dX2_outlookAt_16 (by decide) ?_
  refine lv_istore (lv' := [(10, .int 0), (8, .long x_1), (6, .long 0), (4, .long 0), (2, .long 0), (0, .ref (Z 0)), (1, .int g)]) hx hb dX2_outlookAt_17 hl (by decide) rfl (fun ls hl => ?_)
  have L_19 : ∀ (n : Nat) (x10_19 : Int32) (x8_19 : Int64) (x6_19 : Int64) (x4_19 : Int64) (x2_19 : Int64) (H : Heap) (locs : List Loc) (ls : Array Slot), 0 ≤ x10_19.toInt → x10_19.toInt ≤ 5 → (5 : Int) < x10_19.toInt + ((n : Nat) : Int) → va_P D vwCl (landW Z cK f kv mv ++ R) H → va_D A (landW Z cK f kv mv ++ R) → va_S A s.heap H locs → lv_has ls 16 [(10, .int x10_19), (8, .long x8_19), (6, .long x6_19), (4, .long x4_19), (2, .long x2_19), (0, .ref (Z 0))] → (∀ (u : Int32 × Int64 × Int64 × Int64 × Int64) (H : Heap) (locs : List Loc) (ls : Array Slot), u = lX2_outlookAt_19 f kv n x10_19 x8_19 x6_19 x4_19 x2_19 → va_P D vwCl (landW Z cK f kv mv ++ R) H → va_D A (landW Z cK f kv mv ++ R) → va_S A s.heap H locs → lv_has ls 16 [(8, .long u.2.1), (6, .long u.2.2.1), (4, .long u.2.2.2.1), (2, .long u.2.2.2.2)] → W p l e (rmX 3) s m ([.ref (Z 0), .int g] : List Value).toArray below meth c H locs 0 0 Qm (F0 m 142 ls [])) → W p l e (rmX 3) s m ([.ref (Z 0), .int g] : List Value).toArray below meth c H locs 0 0 Qm (F0 m 19 ls []) := by
    intro n
    induction n with
    | zero =>
      intro x10_19 x8_19 x6_19 x4_19 x2_19 H locs ls iv_19_0 iv_19_1 iv_19_2 hP hD hS hl kont_19
      exfalso; omega
    | succ n ih_19 =>
      intro x10_19 x8_19 x6_19 x4_19 x2_19 H locs ls iv_19_0 iv_19_1 iv_19_2 hP hD hS hl kont_19
      refine lv_iload hx hb dX2_outlookAt_19 (lv_at hl 0 rfl) ?_
      refine lv_aload_n hx hb dX2_outlookAt_21 rfl (lv_at hl 5 rfl) ?_
      refine va_get (D := D) (ci := 2) (v := .int (f 2)) (C := RX2) (T := TX2) (N := 12) hx hb hts iX2 hown hK hP 5 rfl rfl 2 (by decide) k24 (fun _ h9 => h9) rfl dX2_outlookAt_22 ?_
      refine lv_icmp_ge (tgt := 142) hx hb dX2_outlookAt_25 (by decide) (fun c_2 => ?_) (fun c_2 => ?_)
      · have d_2 := i_le rfl rfl c_2
        exact kont_19 (x10_19, x8_19, x6_19, x4_19, x2_19) H locs ls (show lX2_outlookAt_19 f kv (n + 1) x10_19 x8_19 x6_19 x4_19 x2_19 = (x10_19, x8_19, x6_19, x4_19, x2_19) from ((if_pos c_2).trans rfl)).symm  hP hD hS (lv_sub hl [1, 2, 3, 4] rfl)
      · have d_2 := i_len rfl rfl c_2
        refine lv_iload hx hb dX2_outlookAt_28 (lv_at hl 0 rfl) ?_
        refine lv_aload_n hx hb dX2_outlookAt_30 rfl (lv_at hl 5 rfl) ?_
        refine va_get (D := D) (ci := 2) (v := .ref (Z 1)) (C := RX2) (T := TX2) (N := 12) hx hb hts iX2 hown hK hP 5 rfl rfl 0 (by decide) k11 (fun _ h9 => h9) rfl dX2_outlookAt_31 ?_
        refine va_alen (v := 5) hx hb hK hP 6 2 rfl rfl rfl dX2_outlookAt_34 ?_
        refine lv_icmp_ge (tgt := 142) hx hb dX2_outlookAt_35 (by decide) (fun c_3 => ?_) (fun c_3 => ?_)
        · have d_3 := i_le (show (5 : Int32).toInt = 5 from by decide) rfl c_3
          exact kont_19 (x10_19, x8_19, x6_19, x4_19, x2_19) H locs ls (show lX2_outlookAt_19 f kv (n + 1) x10_19 x8_19 x6_19 x4_19 x2_19 = (x10_19, x8_19, x6_19, x4_19, x2_19) from ((if_neg c_2).trans ((if_pos c_3).trans rfl))).symm  hP hD hS (lv_sub hl [1, 2, 3, 4] rfl)
        · have d_3 := i_len (show (5 : Int32).toInt = 5 from by decide) rfl c_3
          refine lv_aload_n hx hb dX2_outlookAt_38 rfl (lv_at hl 5 rfl) ?_
          refine va_get (D := D) (ci := 2) (v := .ref (Z 1)) (C := RX2) (T := TX2) (N := 12) hx hb hts iX2 hown hK hP 5 rfl rfl 0 (by decide) k11 (fun _ h9 => h9) rfl dX2_outlookAt_39 ?_
          refine lv_iload hx hb dX2_outlookAt_42 (lv_at hl 0 rfl) ?_
          have q_4 : vp_in x10_19 5 := vp_in_iff.mpr ⟨by omega, by omega⟩
          refine va_aldq hx hb hK hP 6 2 rfl rfl q_4 dX2_outlookAt_44 ?_
          refine W.eq (g2 := F0 m 45 ls [.ref (Z (3 + x10_19.toNatClampNeg))]) rfl ?_
          have hq_4 : x10_19.toNatClampNeg < 5 := vp_lt q_4
          refine lv_astore (lv' := [(11, .ref (Z (3 + x10_19.toNatClampNeg))), (10, .int x10_19), (8, .long x8_19), (6, .long x6_19), (4, .long x4_19), (2, .long x2_19), (0, .ref (Z 0))]) hx hb dX2_outlookAt_45 hl (by decide) rfl (fun ls hl => ?_)
          refine lv_aload hx hb dX2_outlookAt_47 (lv_at hl 0 rfl) ?_
          refine va_get (D := D) (ci := 1) (v := .int ((kv x10_19.toNatClampNeg) 7)) (C := RX1) (T := TX1) (N := 9) hx hb hts iX1 hown hK hP x10_19.toNatClampNeg (kk_get hq_4) rfl 7 (by decide) k70 (fun _ h9 => h9) rfl dX2_outlookAt_49 ?_
          have J_5 : ∀ (y_5 : Int64 × Int64 × Int64 × Int64) (H : Heap) (locs : List Loc) (ls : Array Slot), y_5 = (if ((kv x10_19.toNatClampNeg) 7) = 0 then (lt (sX1_pull (kv x10_19.toNatClampNeg)) (fun u_7 : Int32 => lt (sX2_weightOf 0 (kv x10_19.toNatClampNeg)) (fun u_8 : Int32 => lt (x2_19 + ((u_7 * u_8).toInt64)) (fun x_9 : Int64 => lt (sX1_pull (kv x10_19.toNatClampNeg)) (fun u_10 : Int32 => lt (sX2_weightOf 1 (kv x10_19.toNatClampNeg)) (fun u_11 : Int32 => lt (x4_19 + ((u_10 * u_11).toInt64)) (fun x_12 : Int64 => lt (sX1_pull (kv x10_19.toNatClampNeg)) (fun u_13 : Int32 => lt (sX2_weightOf 2 (kv x10_19.toNatClampNeg)) (fun u_14 : Int32 => lt (x6_19 + ((u_13 * u_14).toInt64)) (fun x_15 : Int64 => lt (if ((kv x10_19.toNatClampNeg) 0) = 6 then (lt (sX1_pull (kv x10_19.toNatClampNeg)) (fun u_18 : Int32 => (30 * u_18.toInt64))) else (0)) (fun y_16 : Int64 => lt (x8_19 + y_16) (fun x_19 : Int64 => (x_19, x_15, x_12, x_9))))))))))))) else ((x8_19, x6_19, x4_19, x2_19))) → va_P D vwCl (landW Z cK f kv mv ++ R) H → va_D A (landW Z cK f kv mv ++ R) → va_S A s.heap H locs → lv_has ls 16 [(8, .long y_5.1), (6, .long y_5.2.1), (4, .long y_5.2.2.1), (2, .long y_5.2.2.2), (10, .int x10_19), (0, .ref (Z 0))] → W p l e (rmX 3) s m ([.ref (Z 0), .int g] : List Value).toArray below meth c H locs 0 0 Qm (F0 m 136 ls []) := by
            intro y_5 H locs ls ey_5 hP hD hS hl
            obtain ⟨x_20, ex_20⟩ : ∃ z : Int32, z = x10_19 + 1 := ⟨_, rfl⟩
            refine lv_iinc (v := x_20) (lv' := [(10, .int x_20), (8, .long y_5.1), (6, .long y_5.2.1), (4, .long y_5.2.2.1), (2, .long y_5.2.2.2), (0, .ref (Z 0))]) hx hb dX2_outlookAt_136 hl (k := 4) rfl (by rw [ex_20]; rfl) (by decide) rfl (fun ls hl => ?_)
            refine lv_goto (tgt := 19) hx hb dX2_outlookAt_139 (by decide) ?_
            have tx_20 : x_20.toInt = x10_19.toInt + 1 := i_inc ex_20 (by decide) (by omega) (by omega)
            refine ih_19 x_20 y_5.1 y_5.2.1 y_5.2.2.1 y_5.2.2.2 H locs ls (by omega) (by omega) (by omega) hP hD hS (lv_sub hl [0, 1, 2, 3, 4, 5] rfl) (fun u H locs ls eu  hP hD hS hl => ?_)
            exact kont_19 u H locs ls (eu.trans (show lX2_outlookAt_19 f kv (n + 1) x10_19 x8_19 x6_19 x4_19 x2_19 = lX2_outlookAt_19 f kv n x_20 y_5.1 y_5.2.1 y_5.2.2.1 y_5.2.2.2 from ((if_neg c_2).trans ((if_neg c_3).trans (lt_eq ey_5 (lt_eq ex_20 rfl))))).symm)  hP hD hS hl
          refine lv_if_ne (tgt := 136) hx hb dX2_outlookAt_52 (by decide) (fun c_6 => ?_) (fun c_6 => ?_)
          · have d_6 := i_eqn rfl (show (0 : Int32).toInt = 0 from by decide) c_6
            exact J_5 (x8_19, x6_19, x4_19, x2_19) H locs ls (Eq.symm ((if_neg c_6).trans rfl)) hP hD hS (lv_sub hl [2, 3, 4, 5, 1, 6] rfl)
          · have d_6 := i_eq rfl (show (0 : Int32).toInt = 0 from by decide) c_6
            refine lv_lload_n hx hb dX2_outlookAt_55 rfl (lv_at hl 5 rfl) ?_
            refine lv_aload hx hb dX2_outlookAt_56 (lv_at hl 0 rfl) ?_
            refine mx_callV (As := []) (rest := [.long x2_19]) ⟨hx, hb, hml, hown, hts⟩ (mtX1_pull l D cI cB cK cS (landW Z cK f kv mv ++ R) (Z (3 + x10_19.toNatClampNeg)) x10_19.toNatClampNeg (kv x10_19.toNatClampNeg) (kk_get hq_4)) (cwV 0 hts gX2_outlookAt_X1_pull rfl rfl rfl (by decide +kernel) ⟨Nat.le_of_ble_eq_true rfl, Nat.le_of_ble_eq_true rfl⟩) pF0_ok trivial hK hP hD hS hA x10_19.toNatClampNeg (kk_get hq_4) rfl rfl rfl hl.1 rfl (Nat.le_of_ble_eq_true rfl) dX2_outlookAt_58 ⟨Nat.le_refl _, Nat.le_refl _⟩ (fun u_7 H locs eu_7 hP hD hS => ?_)
            refine W.eq (g2 := F0 m 61 ls [.int u_7, .long x2_19]) rfl ?_
            have hP : va_P D vwCl (landW Z cK f kv mv ++ R) H := hP
            have hD : va_D A (landW Z cK f kv mv ++ R) := hD
            refine lv_aload hx hb dX2_outlookAt_61 (lv_at hl 0 rfl) ?_
            refine lv_iconst (v := 0) hx hb dX2_outlookAt_63 (by decide) ?_
            refine mx_callS (As := [.ref (Z (3 + x10_19.toNatClampNeg)), .int 0]) (rest := [.int u_7, .long x2_19]) ⟨hx, hb, hml, hown, hts⟩ (mtX2_weightOf l D cI cB cK cS (landW Z cK f kv mv ++ R) (Z (3 + x10_19.toNatClampNeg)) x10_19.toNatClampNeg (kv x10_19.toNatClampNeg) 0 (kk_get hq_4)) (va_cwS 2 hts gX2_outlookAt_X2_weightOf rfl rfl rfl (by decide +kernel) ⟨Nat.le_of_ble_eq_true rfl, Nat.le_of_ble_eq_true rfl⟩) pF0_ok trivial hK hP hD hS hA rfl hl.1 rfl (Nat.le_of_ble_eq_true rfl) dX2_outlookAt_64 ⟨Nat.le_refl _, Nat.le_refl _⟩ (fun u_8 H locs eu_8 hP hD hS => ?_)
            refine W.eq (g2 := F0 m 67 ls [.int u_8, .int u_7, .long x2_19]) rfl ?_
            have hP : va_P D vwCl (landW Z cK f kv mv ++ R) H := hP
            have hD : va_D A (landW Z cK f kv mv ++ R) := hD
            refine lv_imul hx hb dX2_outlookAt_67 ?_
            refine lv_i2l (v := (u_7 * u_8).toInt64) hx hb dX2_outlookAt_68 rfl ?_
            refine lv_ladd hx hb dX2_outlookAt_69 ?_
            refine lv_topl (fun x_9 ex_9 => ?_)
            refine lv_lstore_n (lv' := [(2, .long x_9), (11, .ref (Z (3 + x10_19.toNatClampNeg))), (10, .int x10_19), (8, .long x8_19), (6, .long x6_19), (4, .long x4_19), (0, .ref (Z 0))]) hx hb dX2_outlookAt_70 rfl hl (by decide) rfl (fun ls hl => ?_)
            refine lv_lload hx hb dX2_outlookAt_71 (lv_at hl 5 rfl) ?_
            refine lv_aload hx hb dX2_outlookAt_73 (lv_at hl 1 rfl) ?_
            refine mx_callV (As := []) (rest := [.long x4_19]) ⟨hx, hb, hml, hown, hts⟩ (mtX1_pull l D cI cB cK cS (landW Z cK f kv mv ++ R) (Z (3 + x10_19.toNatClampNeg)) x10_19.toNatClampNeg (kv x10_19.toNatClampNeg) (kk_get hq_4)) (cwV 0 hts gX2_outlookAt_X1_pull rfl rfl rfl (by decide +kernel) ⟨Nat.le_of_ble_eq_true rfl, Nat.le_of_ble_eq_true rfl⟩) pF0_ok trivial hK hP hD hS hA x10_19.toNatClampNeg (kk_get hq_4) rfl rfl rfl hl.1 rfl (Nat.le_of_ble_eq_true rfl) dX2_outlookAt_75 ⟨Nat.le_refl _, Nat.le_refl _⟩ (fun u_10 H locs eu_10 hP hD hS => ?_)
            refine W.eq (g2 := F0 m 78 ls [.int u_10, .long x4_19]) rfl ?_
            have hP : va_P D vwCl (landW Z cK f kv mv ++ R) H := hP
            have hD : va_D A (landW Z cK f kv mv ++ R) := hD
            refine lv_aload hx hb dX2_outlookAt_78 (lv_at hl 1 rfl) ?_
            refine lv_iconst (v := 1) hx hb dX2_outlookAt_80 (by decide) ?_
            refine mx_callS (As := [.ref (Z (3 + x10_19.toNatClampNeg)), .int 1]) (rest := [.int u_10, .long x4_19]) ⟨hx, hb, hml, hown, hts⟩ (mtX2_weightOf l D cI cB cK cS (landW Z cK f kv mv ++ R) (Z (3 + x10_19.toNatClampNeg)) x10_19.toNatClampNeg (kv x10_19.toNatClampNeg) 1 (kk_get hq_4)) (va_cwS 2 hts gX2_outlookAt_X2_weightOf rfl rfl rfl (by decide +kernel) ⟨Nat.le_of_ble_eq_true rfl, Nat.le_of_ble_eq_true rfl⟩) pF0_ok trivial hK hP hD hS hA rfl hl.1 rfl (Nat.le_of_ble_eq_true rfl) dX2_outlookAt_81 ⟨Nat.le_refl _, Nat.le_refl _⟩ (fun u_11 H locs eu_11 hP hD hS => ?_)
            refine W.eq (g2 := F0 m 84 ls [.int u_11, .int u_10, .long x4_19]) rfl ?_
            have hP : va_P D vwCl (landW Z cK f kv mv ++ R) H := hP
            have hD : va_D A (landW Z cK f kv mv ++ R) := hD
            refine lv_imul hx hb dX2_outlookAt_84 ?_
            refine lv_i2l (v := (u_10 * u_11).toInt64) hx hb dX2_outlookAt_85 rfl ?_
            refine lv_ladd hx hb dX2_outlookAt_86 ?_
            refine lv_topl (fun x_12 ex_12 => ?_)
            refine lv_lstore (lv' := [(4, .long x_12), (2, .long x_9), (11, .ref (Z (3 + x10_19.toNatClampNeg))), (10, .int x10_19), (8, .long x8_19), (6, .long x6_19), (0, .ref (Z 0))]) hx hb dX2_outlookAt_87 hl (by decide) rfl (fun ls hl => ?_)
            refine lv_lload hx hb dX2_outlookAt_89 (lv_at hl 5 rfl) ?_
            refine lv_aload hx hb dX2_outlookAt_91 (lv_at hl 2 rfl) ?_
            refine mx_callV (As := []) (rest := [.long x6_19]) ⟨hx, hb, hml, hown, hts⟩ (mtX1_pull l D cI cB cK cS (landW Z cK f kv mv ++ R) (Z (3 + x10_19.toNatClampNeg)) x10_19.toNatClampNeg (kv x10_19.toNatClampNeg) (kk_get hq_4)) (cwV 0 hts gX2_outlookAt_X1_pull rfl rfl rfl (by decide +kernel) ⟨Nat.le_of_ble_eq_true rfl, Nat.le_of_ble_eq_true rfl⟩) pF0_ok trivial hK hP hD hS hA x10_19.toNatClampNeg (kk_get hq_4) rfl rfl rfl hl.1 rfl (Nat.le_of_ble_eq_true rfl) dX2_outlookAt_93 ⟨Nat.le_refl _, Nat.le_refl _⟩ (fun u_13 H locs eu_13 hP hD hS => ?_)
            refine W.eq (g2 := F0 m 96 ls [.int u_13, .long x6_19]) rfl ?_
            have hP : va_P D vwCl (landW Z cK f kv mv ++ R) H := hP
            have hD : va_D A (landW Z cK f kv mv ++ R) := hD
            refine lv_aload hx hb dX2_outlookAt_96 (lv_at hl 2 rfl) ?_
            refine lv_iconst (v := 2) hx hb dX2_outlookAt_98 (by decide) ?_
            refine mx_callS (As := [.ref (Z (3 + x10_19.toNatClampNeg)), .int 2]) (rest := [.int u_13, .long x6_19]) ⟨hx, hb, hml, hown, hts⟩ (mtX2_weightOf l D cI cB cK cS (landW Z cK f kv mv ++ R) (Z (3 + x10_19.toNatClampNeg)) x10_19.toNatClampNeg (kv x10_19.toNatClampNeg) 2 (kk_get hq_4)) (va_cwS 2 hts gX2_outlookAt_X2_weightOf rfl rfl rfl (by decide +kernel) ⟨Nat.le_of_ble_eq_true rfl, Nat.le_of_ble_eq_true rfl⟩) pF0_ok trivial hK hP hD hS hA rfl hl.1 rfl (Nat.le_of_ble_eq_true rfl) dX2_outlookAt_99 ⟨Nat.le_refl _, Nat.le_refl _⟩ (fun u_14 H locs eu_14 hP hD hS => ?_)
            refine W.eq (g2 := F0 m 102 ls [.int u_14, .int u_13, .long x6_19]) rfl ?_
            have hP : va_P D vwCl (landW Z cK f kv mv ++ R) H := hP
            have hD : va_D A (landW Z cK f kv mv ++ R) := hD
            refine lv_imul hx hb dX2_outlookAt_102 ?_
            refine lv_i2l (v := (u_13 * u_14).toInt64) hx hb dX2_outlookAt_103 rfl ?_
            refine lv_ladd hx hb dX2_outlookAt_104 ?_
            refine lv_topl (fun x_15 ex_15 => ?_)
            refine lv_lstore (lv' := [(6, .long x_15), (4, .long x_12), (2, .long x_9), (11, .ref (Z (3 + x10_19.toNatClampNeg))), (10, .int x10_19), (8, .long x8_19), (0, .ref (Z 0))]) hx hb dX2_outlookAt_105 hl (by decide) rfl (fun ls hl => ?_)
            refine lv_lload hx hb dX2_outlookAt_107 (lv_at hl 5 rfl) ?_
            refine lv_aload hx hb dX2_outlookAt_109 (lv_at hl 3 rfl) ?_
            refine va_get (D := D) (ci := 1) (v := .int ((kv x10_19.toNatClampNeg) 0)) (C := RX1) (T := TX1) (N := 9) hx hb hts iX1 hown hK hP x10_19.toNatClampNeg (kk_get hq_4) rfl 0 (by decide) k87 (fun _ h9 => h9) rfl dX2_outlookAt_111 ?_
            refine lv_bipush (v := 6) hx hb dX2_outlookAt_114 (by decide) ?_
            have J_16 : ∀ (y_16 : Int64) (H : Heap) (locs : List Loc) (ls : Array Slot), y_16 = (if ((kv x10_19.toNatClampNeg) 0) = 6 then (lt (sX1_pull (kv x10_19.toNatClampNeg)) (fun u_18 : Int32 => (30 * u_18.toInt64))) else (0)) → va_P D vwCl (landW Z cK f kv mv ++ R) H → va_D A (landW Z cK f kv mv ++ R) → va_S A s.heap H locs → lv_has ls 16 [(6, .long x_15), (4, .long x_12), (2, .long x_9), (10, .int x10_19), (0, .ref (Z 0))] → W p l e (rmX 3) s m ([.ref (Z 0), .int g] : List Value).toArray below meth c H locs 0 0 Qm (F0 m 133 ls [.long y_16, .long x8_19]) := by
              intro y_16 H locs ls ey_16 hP hD hS hl
              refine lv_ladd hx hb dX2_outlookAt_133 ?_
              refine lv_topl (fun x_19 ex_19 => ?_)
              refine lv_lstore (lv' := [(8, .long x_19), (6, .long x_15), (4, .long x_12), (2, .long x_9), (10, .int x10_19), (0, .ref (Z 0))]) hx hb dX2_outlookAt_134 hl (by decide) rfl (fun ls hl => ?_)
              exact J_5 (x_19, x_15, x_12, x_9) H locs ls (Eq.symm ((if_pos c_6).trans (lt_eq eu_7 (lt_eq eu_8 (lt_eq ex_9 (lt_eq eu_10 (lt_eq eu_11 (lt_eq ex_12 (lt_eq eu_13 (lt_eq eu_14 (lt_eq ex_15 (lt_eq ey_16 (lt_eq ex_19 rfl))))))))))))) hP hD hS (lv_sub hl [0, 1, 2, 3, 4, 5] rfl)
            refine lv_icmp_ne (tgt := 132) hx hb dX2_outlookAt_116 (by decide) (fun c_17 => ?_) (fun c_17 => ?_)
            · have d_17 := i_eqn rfl (show (6 : Int32).toInt = 6 from by decide) c_17
              refine lv_lconst (v := 0) hx hb dX2_outlookAt_132 (by decide) ?_
              exact J_16 0 H locs ls (Eq.symm ((if_neg c_17).trans rfl)) hP hD hS (lv_sub hl [0, 1, 2, 4, 6] rfl)
            · have d_17 := i_eq rfl (show (6 : Int32).toInt = 6 from by decide) c_17
              refine lv_ldc2 (v := 30) hx hb hown k150 dX2_outlookAt_119 ?_
              refine lv_aload hx hb dX2_outlookAt_122 (lv_at hl 3 rfl) ?_
              refine mx_callV (As := []) (rest := [.long 30, .long x8_19]) ⟨hx, hb, hml, hown, hts⟩ (mtX1_pull l D cI cB cK cS (landW Z cK f kv mv ++ R) (Z (3 + x10_19.toNatClampNeg)) x10_19.toNatClampNeg (kv x10_19.toNatClampNeg) (kk_get hq_4)) (cwV 0 hts gX2_outlookAt_X1_pull rfl rfl rfl (by decide +kernel) ⟨Nat.le_of_ble_eq_true rfl, Nat.le_of_ble_eq_true rfl⟩) pF0_ok trivial hK hP hD hS hA x10_19.toNatClampNeg (kk_get hq_4) rfl rfl rfl hl.1 rfl (Nat.le_of_ble_eq_true rfl) dX2_outlookAt_124 ⟨Nat.le_refl _, Nat.le_refl _⟩ (fun u_18 H locs eu_18 hP hD hS => ?_)
              refine W.eq (g2 := F0 m 127 ls [.int u_18, .long 30, .long x8_19]) rfl ?_
              have hP : va_P D vwCl (landW Z cK f kv mv ++ R) H := hP
              have hD : va_D A (landW Z cK f kv mv ++ R) := hD
              refine lv_i2l (v := u_18.toInt64) hx hb dX2_outlookAt_127 rfl ?_
              refine lv_lmul hx hb dX2_outlookAt_128 ?_
              refine lv_goto (tgt := 133) hx hb dX2_outlookAt_129 (by decide) ?_
              exact J_16 (30 * u_18.toInt64) H locs ls (Eq.symm ((if_pos c_17).trans (lt_eq eu_18 rfl))) hP hD hS (lv_sub hl [0, 1, 2, 4, 6] rfl)
  refine L_19 6 0 x_1 0 0 0 H locs ls (by decide) (by decide) (by decide) hP hD hS (lv_sub hl [0, 1, 2, 3, 4, 5] rfl) (fun u_21 H locs ls eu_21  hP hD hS hl => ?_)
  have hP : va_P D vwCl (landW Z cK f kv mv ++ R) H := hP
  have hD : va_D A (landW Z cK f kv mv ++ R) := hD
  refine lv_lload hx hb dX2_outlookAt_142 (lv_at hl 0 rfl) ?_
  refine lv_lload hx hb dX2_outlookAt_144 (lv_at hl 1 rfl) ?_
  refine va_mabs_long hx hb (by rw [hml]; exact hl.1.symm) hown k152 kS_abs kI_math kC_abs (Nat.le_of_ble_eq_true rfl) (Nat.le_of_ble_eq_true rfl) (Nat.le_refl _) (Nat.le_refl _) dX2_outlookAt_146 ?_
  refine lv_topl (fun x_22 ex_22 => ?_)
  refine lv_lsub hx hb dX2_outlookAt_149 ?_
  refine lv_topl (fun x_23 ex_23 => ?_)
  refine lv_lstore (lv' := [(10, .long x_23), (8, .long u_21.2.1), (6, .long u_21.2.2.1), (4, .long u_21.2.2.2.1), (2, .long u_21.2.2.2.2)]) hx hb dX2_outlookAt_150 hl (by decide) rfl (fun ls hl => ?_)
  refine lv_lload hx hb dX2_outlookAt_152 (lv_at hl 1 rfl) ?_
  refine lv_lload hx hb dX2_outlookAt_154 (lv_at hl 3 rfl) ?_
  refine lv_ladd hx hb dX2_outlookAt_156 ?_
  refine lv_lload_n hx hb dX2_outlookAt_157 rfl (lv_at hl 4 rfl) ?_
  refine lv_lload hx hb dX2_outlookAt_158 (lv_at hl 2 rfl) ?_
  refine lv_ladd hx hb dX2_outlookAt_160 ?_
  refine va_mabs_long hx hb (by rw [hml]; exact hl.1.symm) hown k152 kS_abs kI_math kC_abs (Nat.le_of_ble_eq_true rfl) (Nat.le_of_ble_eq_true rfl) (Nat.le_refl _) (Nat.le_refl _) dX2_outlookAt_161 ?_
  refine lv_topl (fun x_24 ex_24 => ?_)
  refine lv_lsub hx hb dX2_outlookAt_164 ?_
  refine lv_topl (fun x_25 ex_25 => ?_)
  refine lv_lstore (lv' := [(12, .long x_25), (10, .long x_23), (8, .long u_21.2.1), (6, .long u_21.2.2.1), (4, .long u_21.2.2.2.1), (2, .long u_21.2.2.2.2)]) hx hb dX2_outlookAt_165 hl (by decide) rfl (fun ls hl => ?_)
  refine lv_lload hx hb dX2_outlookAt_167 (lv_at hl 2 rfl) ?_
  refine lv_lload hx hb dX2_outlookAt_169 (lv_at hl 2 rfl) ?_
  refine lv_lmul hx hb dX2_outlookAt_171 ?_
  refine lv_lload hx hb dX2_outlookAt_172 (lv_at hl 3 rfl) ?_
  refine lv_lload hx hb dX2_outlookAt_174 (lv_at hl 3 rfl) ?_
  refine lv_lmul hx hb dX2_outlookAt_176 ?_
  refine lv_lsub hx hb dX2_outlookAt_177 ?_
  refine lv_lload hx hb dX2_outlookAt_178 (lv_at hl 4 rfl) ?_
  refine lv_lload hx hb dX2_outlookAt_180 (lv_at hl 2 rfl) ?_
  refine lv_lmul hx hb dX2_outlookAt_182 ?_
  refine lv_lload_n hx hb dX2_outlookAt_183 rfl (lv_at hl 5 rfl) ?_
  refine lv_lload hx hb dX2_outlookAt_184 (lv_at hl 3 rfl) ?_
  refine lv_lmul hx hb dX2_outlookAt_186 ?_
  refine lv_lsub hx hb dX2_outlookAt_187 ?_
  refine va_mabs_long hx hb (by rw [hml]; exact hl.1.symm) hown k152 kS_abs kI_math kC_abs (Nat.le_of_ble_eq_true rfl) (Nat.le_of_ble_eq_true rfl) (Nat.le_refl _) (Nat.le_refl _) dX2_outlookAt_188 ?_
  refine lv_topl (fun x_26 ex_26 => ?_)
  refine lv_lsub hx hb dX2_outlookAt_191 ?_
  refine lv_topl (fun x_27 ex_27 => ?_)
  refine lv_lstore (lv' := [(14, .long x_27), (12, .long x_25), (10, .long x_23), (8, .long u_21.2.1), (6, .long u_21.2.2.1), (4, .long u_21.2.2.2.1), (2, .long u_21.2.2.2.2)]) hx hb dX2_outlookAt_192 hl (by decide) rfl (fun ls hl => ?_)
  refine lv_lload hx hb dX2_outlookAt_194 (lv_at hl 2 rfl) ?_
  refine lv_lconst (v := 0) hx hb dX2_outlookAt_196 (by decide) ?_
  refine W.lcmp hx hb dX2_outlookAt_197 ?_
  refine lv_if_lt (tgt := 215) hx hb dX2_outlookAt_198 (by decide) (fun c_28 => ?_) (fun c_28 => ?_)
  · have d_28 := i_lt rfl (show (0 : Int32).toInt = 0 from by decide) c_28
    refine lv_iconst (v := 2) hx hb dX2_outlookAt_215 (by decide) ?_
    rw [hQm]
    exact mx_iret (u0 := sX2_outlookAt g f kv) (rv := (fun u => some (.int u))) (w1 := (fun _ => landW Z cK f kv mv ++ R)) (u := (2)) hx hb hr hlocks hK hS (lt_eq ex_1 (lt_eq eu_21 (lt_eq ex_22 (lt_eq ex_23 (lt_eq ex_24 (lt_eq ex_25 (lt_eq ex_26 (lt_eq ex_27 ((if_pos c_28).trans rfl))))))))) hP hD rfl dX2_outlookAt_216
  · have d_28 := i_ltn rfl (show (0 : Int32).toInt = 0 from by decide) c_28
    refine lv_lload hx hb dX2_outlookAt_201 (lv_at hl 1 rfl) ?_
    refine lv_lconst (v := 0) hx hb dX2_outlookAt_203 (by decide) ?_
    refine W.lcmp hx hb dX2_outlookAt_204 ?_
    refine lv_if_lt (tgt := 215) hx hb dX2_outlookAt_205 (by decide) (fun c_29 => ?_) (fun c_29 => ?_)
    · have d_29 := i_lt rfl (show (0 : Int32).toInt = 0 from by decide) c_29
      refine lv_iconst (v := 2) hx hb dX2_outlookAt_215 (by decide) ?_
      rw [hQm]
      exact mx_iret (u0 := sX2_outlookAt g f kv) (rv := (fun u => some (.int u))) (w1 := (fun _ => landW Z cK f kv mv ++ R)) (u := (2)) hx hb hr hlocks hK hS (lt_eq ex_1 (lt_eq eu_21 (lt_eq ex_22 (lt_eq ex_23 (lt_eq ex_24 (lt_eq ex_25 (lt_eq ex_26 (lt_eq ex_27 ((if_neg c_28).trans ((if_pos c_29).trans rfl)))))))))) hP hD rfl dX2_outlookAt_216
    · have d_29 := i_ltn rfl (show (0 : Int32).toInt = 0 from by decide) c_29
      refine lv_lload hx hb dX2_outlookAt_208 (lv_at hl 0 rfl) ?_
      refine lv_lconst (v := 0) hx hb dX2_outlookAt_210 (by decide) ?_
      refine W.lcmp hx hb dX2_outlookAt_211 ?_
      refine lv_if_ge (tgt := 217) hx hb dX2_outlookAt_212 (by decide) (fun c_30 => ?_) (fun c_30 => ?_)
      · have d_30 := i_le (show (0 : Int32).toInt = 0 from by decide) rfl c_30
        refine lv_lload hx hb dX2_outlookAt_217 (lv_at hl 2 rfl) ?_
        refine lv_lconst (v := 0) hx hb dX2_outlookAt_219 (by decide) ?_
        refine W.lcmp hx hb dX2_outlookAt_220 ?_
        refine lv_if_le (tgt := 242) hx hb dX2_outlookAt_221 (by decide) (fun c_31 => ?_) (fun c_31 => ?_)
        · have d_31 := i_le rfl (show (0 : Int32).toInt = 0 from by decide) c_31
          refine lv_iconst (v := 1) hx hb dX2_outlookAt_242 (by decide) ?_
          rw [hQm]
          exact mx_iret (u0 := sX2_outlookAt g f kv) (rv := (fun u => some (.int u))) (w1 := (fun _ => landW Z cK f kv mv ++ R)) (u := (1)) hx hb hr hlocks hK hS (lt_eq ex_1 (lt_eq eu_21 (lt_eq ex_22 (lt_eq ex_23 (lt_eq ex_24 (lt_eq ex_25 (lt_eq ex_26 (lt_eq ex_27 ((if_neg c_28).trans ((if_neg c_29).trans ((if_pos c_30).trans ((if_pos c_31).trans rfl)))))))))))) hP hD rfl dX2_outlookAt_243
        · have d_31 := i_len rfl (show (0 : Int32).toInt = 0 from by decide) c_31
          refine lv_lload hx hb dX2_outlookAt_224 (lv_at hl 1 rfl) ?_
          refine lv_lconst (v := 0) hx hb dX2_outlookAt_226 (by decide) ?_
          refine W.lcmp hx hb dX2_outlookAt_227 ?_
          refine lv_if_le (tgt := 242) hx hb dX2_outlookAt_228 (by decide) (fun c_32 => ?_) (fun c_32 => ?_)
          · have d_32 := i_le rfl (show (0 : Int32).toInt = 0 from by decide) c_32
            refine lv_iconst (v := 1) hx hb dX2_outlookAt_242 (by decide) ?_
            rw [hQm]
            exact mx_iret (u0 := sX2_outlookAt g f kv) (rv := (fun u => some (.int u))) (w1 := (fun _ => landW Z cK f kv mv ++ R)) (u := (1)) hx hb hr hlocks hK hS (lt_eq ex_1 (lt_eq eu_21 (lt_eq ex_22 (lt_eq ex_23 (lt_eq ex_24 (lt_eq ex_25 (lt_eq ex_26 (lt_eq ex_27 ((if_neg c_28).trans ((if_neg c_29).trans ((if_pos c_30).trans ((if_neg c_31).trans ((if_pos c_32).trans rfl))))))))))))) hP hD rfl dX2_outlookAt_243
          · have d_32 := i_len rfl (show (0 : Int32).toInt = 0 from by decide) c_32
            refine lv_lload hx hb dX2_outlookAt_231 (lv_at hl 0 rfl) ?_
            refine lv_lconst (v := 0) hx hb dX2_outlookAt_233 (by decide) ?_
            refine W.lcmp hx hb dX2_outlookAt_234 ?_
            refine lv_if_le (tgt := 242) hx hb dX2_outlookAt_235 (by decide) (fun c_33 => ?_) (fun c_33 => ?_)
            · have d_33 := i_le rfl (show (0 : Int32).toInt = 0 from by decide) c_33
              refine lv_iconst (v := 1) hx hb dX2_outlookAt_242 (by decide) ?_
              rw [hQm]
              exact mx_iret (u0 := sX2_outlookAt g f kv) (rv := (fun u => some (.int u))) (w1 := (fun _ => landW Z cK f kv mv ++ R)) (u := (1)) hx hb hr hlocks hK hS (lt_eq ex_1 (lt_eq eu_21 (lt_eq ex_22 (lt_eq ex_23 (lt_eq ex_24 (lt_eq ex_25 (lt_eq ex_26 (lt_eq ex_27 ((if_neg c_28).trans ((if_neg c_29).trans ((if_pos c_30).trans ((if_neg c_31).trans ((if_neg c_32).trans ((if_pos c_33).trans rfl)))))))))))))) hP hD rfl dX2_outlookAt_243
            · have d_33 := i_len rfl (show (0 : Int32).toInt = 0 from by decide) c_33
              refine lv_iconst (v := 0) hx hb dX2_outlookAt_238 (by decide) ?_
              refine lv_goto (tgt := 243) hx hb dX2_outlookAt_239 (by decide) ?_
              rw [hQm]
              exact mx_iret (u0 := sX2_outlookAt g f kv) (rv := (fun u => some (.int u))) (w1 := (fun _ => landW Z cK f kv mv ++ R)) (u := (0)) hx hb hr hlocks hK hS (lt_eq ex_1 (lt_eq eu_21 (lt_eq ex_22 (lt_eq ex_23 (lt_eq ex_24 (lt_eq ex_25 (lt_eq ex_26 (lt_eq ex_27 ((if_neg c_28).trans ((if_neg c_29).trans ((if_pos c_30).trans ((if_neg c_31).trans ((if_neg c_32).trans ((if_neg c_33).trans rfl)))))))))))))) hP hD rfl dX2_outlookAt_243
      · have d_30 := i_len (show (0 : Int32).toInt = 0 from by decide) rfl c_30
        refine lv_iconst (v := 2) hx hb dX2_outlookAt_215 (by decide) ?_
        rw [hQm]
        exact mx_iret (u0 := sX2_outlookAt g f kv) (rv := (fun u => some (.int u))) (w1 := (fun _ => landW Z cK f kv mv ++ R)) (u := (2)) hx hb hr hlocks hK hS (lt_eq ex_1 (lt_eq eu_21 (lt_eq ex_22 (lt_eq ex_23 (lt_eq ex_24 (lt_eq ex_25 (lt_eq ex_26 (lt_eq ex_27 ((if_neg c_28).trans ((if_neg c_29).trans ((if_neg c_30).trans rfl))))))))))) hP hD rfl dX2_outlookAt_216

def lX2_takeAll_2 (kv2 : Nat → Nat → Int32) : Nat → Int32 → (Nat → Nat → Int32) → Int32 × (Nat → Nat → Int32)
  | 0, x2_2, kv_2 => (x2_2, kv_2)
  | n + 1, x2_2, kv_2 => if 5 ≤ x2_2 then ((x2_2, kv_2)) else (if 5 ≤ x2_2 then ((x2_2, kv_2)) else (lt (sX1_takeAll (kv_2 x2_2.toNatClampNeg) (kv2 x2_2.toNatClampNeg)) (fun u_5 : (Nat → Int32) => lt (va_up kv_2 x2_2.toNatClampNeg u_5) (fun kv_6 : Nat → Nat → Int32 => lt (x2_2 + 1) (fun x_7 : Int32 => lX2_takeAll_2 kv2 n x_7 kv_6)))))

def sX2_takeAll (f : Nat → Int32) (kv : Nat → Nat → Int32) (mv : Nat → Int32) (f2 : Nat → Int32) (kv2 : Nat → Nat → Int32) (mv2 : Nat → Int32) : (Nat → Int32) × (Nat → Nat → Int32) × (Nat → Int32) := lt (lX2_takeAll_2 kv2 6 0 kv) (fun u_8 : Int32 × (Nat → Nat → Int32) => lt (sX3_takeAll mv mv2) (fun u_9 : (Nat → Int32) => (upd (upd (upd (upd (upd (upd (upd (upd (upd (upd f 2 (f2 2)) 3 (f2 3)) 4 (f2 4)) 5 (f2 5)) 6 (f2 6)) 7 (f2 7)) 8 (f2 8)) 9 (f2 9)) 10 (f2 10)) 11 (f2 11), u_8.2, u_9)))
set_option maxHeartbeats 4000000 in
set_option maxRecDepth 100000 in
theorem mtX2_takeAll (l : Launch) (D : va_G) (cI cB cK cS : ClassId) (Z Z2 : Nat → Nat) (R : va_W) (f : Nat → Int32) (kv : Nat → Nat → Int32) (mv : Nat → Int32) (f2 : Nat → Int32) (kv2 : Nat → Nat → Int32) (mv2 : Nat → Int32) (hz : ∀ j, j < 5 → kv2 j 7 = 0 ∨ kv2 j 7 = 1) : MX l yX2_takeAll wsX2_takeAll (rmX 3) D (tyX cI cB cK cS) pF0 (landW Z cK f kv mv ++ (landW Z2 cK f2 kv2 mv2 ++ R)) [.ref (Z 0), .ref (Z2 0)] (sX2_takeAll f kv mv f2 kv2 mv2) (fun _ => none) (fun u => landW Z cK u.1 u.2.1 u.2.2 ++ (landW Z2 cK f2 kv2 mv2 ++ R)) := by
  refine mx_intro (cc := cX2_takeAll) (maxL := 3) (ret := none) (by decide) rfl (Nat.le_of_ble_eq_true rfl) ?_
  intro p e s m below meth c A ls H locs Qm hQm hx hb hr hml hts hown hlocks hA hS hP hK hD hF hl
  have hown : s.vm.findClass RX2 = some m.cls := hown
  have hl : lv_has ls 3 [(0, .ref (Z 0)), (1, .ref (Z2 0))] := hl
  have k11 := hts (.fieldLink RX2 11 "PigRounds$Land" "kinds" "[LPigRounds$Kind;") (by decide +kernel)
  have k20 := hts (.fieldLink RX2 20 "PigRounds$Land" "ministry" "LPigRounds$Ministry;") (by decide +kernel)
  have k24 := hts (.fieldLink RX2 24 "PigRounds$Land" "kindCount" "I") (by decide +kernel)
  have k28 := hts (.fieldLink RX2 28 "PigRounds$Land" "top" "I") (by decide +kernel)
  have k31 := hts (.fieldLink RX2 31 "PigRounds$Land" "depth" "I") (by decide +kernel)
  have k34 := hts (.fieldLink RX2 34 "PigRounds$Land" "feed" "I") (by decide +kernel)
  have k37 := hts (.fieldLink RX2 37 "PigRounds$Land" "a" "I") (by decide +kernel)
  have k40 := hts (.fieldLink RX2 40 "PigRounds$Land" "b" "I") (by decide +kernel)
  have k43 := hts (.fieldLink RX2 43 "PigRounds$Land" "c" "I") (by decide +kernel)
  have k46 := hts (.fieldLink RX2 46 "PigRounds$Land" "printed" "I") (by decide +kernel)
  have k49 := hts (.fieldLink RX2 49 "PigRounds$Land" "pigs" "I") (by decide +kernel)
  have k52 := hts (.fieldLink RX2 52 "PigRounds$Land" "year" "I") (by decide +kernel)
  have iX2 : ∀ w ∈ u_ws RX2 TX2 12, w ∈ wsX2_takeAll := by decide +kernel
  refine lv_iconst (v := 0) hx hb dX2_takeAll_0 (by decide) ?_
  refine lv_istore_n (lv' := [(2, .int 0), (0, .ref (Z 0)), (1, .ref (Z2 0))]) hx hb dX2_takeAll_1 rfl hl (by decide) rfl (fun ls hl => ?_)
  have L_2 : ∀ (n : Nat) (x2_2 : Int32) (kv_2 : Nat → Nat → Int32) (H : Heap) (locs : List Loc) (ls : Array Slot), 0 ≤ x2_2.toInt → x2_2.toInt ≤ 5 → (5 : Int) < x2_2.toInt + ((n : Nat) : Int) → va_P D vwCl (landW Z cK f kv_2 mv ++ (landW Z2 cK f2 kv2 mv2 ++ R)) H → va_D A (landW Z cK f kv_2 mv ++ (landW Z2 cK f2 kv2 mv2 ++ R)) → va_S A s.heap H locs → lv_has ls 3 [(2, .int x2_2), (0, .ref (Z 0)), (1, .ref (Z2 0))] → (∀ (u : Int32 × (Nat → Nat → Int32)) (H : Heap) (locs : List Loc) (ls : Array Slot), u = lX2_takeAll_2 kv2 n x2_2 kv_2 → va_P D vwCl (landW Z cK f u.2 mv ++ (landW Z2 cK f2 kv2 mv2 ++ R)) H → va_D A (landW Z cK f u.2 mv ++ (landW Z2 cK f2 kv2 mv2 ++ R)) → va_S A s.heap H locs → lv_has ls 3 [(0, .ref (Z 0)), (1, .ref (Z2 0))] → W p l e (rmX 3) s m ([.ref (Z 0), .ref (Z2 0)] : List Value).toArray below meth c H locs 0 0 Qm (F0 m 41 ls [])) → W p l e (rmX 3) s m ([.ref (Z 0), .ref (Z2 0)] : List Value).toArray below meth c H locs 0 0 Qm (F0 m 2 ls []) := by
    intro n
    induction n with
    | zero =>
      intro x2_2 kv_2 H locs ls iv_2_0 iv_2_1 iv_2_2 hP hD hS hl kont_2
      exfalso; omega
    | succ n ih_2 =>
      intro x2_2 kv_2 H locs ls iv_2_0 iv_2_1 iv_2_2 hP hD hS hl kont_2
      refine lv_iload_n hx hb dX2_takeAll_2 rfl (lv_at hl 0 rfl) ?_
      refine lv_aload_n hx hb dX2_takeAll_3 rfl (lv_at hl 1 rfl) ?_
      refine va_get (D := D) (ci := 2) (v := .ref (Z 1)) (C := RX2) (T := TX2) (N := 12) hx hb hts iX2 hown hK hP 5 rfl rfl 0 (by decide) k11 (fun _ h9 => h9) rfl dX2_takeAll_4 ?_
      refine va_alen (v := 5) hx hb hK hP 6 2 rfl rfl rfl dX2_takeAll_7 ?_
      refine lv_icmp_ge (tgt := 41) hx hb dX2_takeAll_8 (by decide) (fun c_1 => ?_) (fun c_1 => ?_)
      · have d_1 := i_le (show (5 : Int32).toInt = 5 from by decide) rfl c_1
        exact kont_2 (x2_2, kv_2) H locs ls (show lX2_takeAll_2 kv2 (n + 1) x2_2 kv_2 = (x2_2, kv_2) from ((if_pos c_1).trans rfl)).symm  hP hD hS (lv_sub hl [1, 2] rfl)
      · have d_1 := i_len (show (5 : Int32).toInt = 5 from by decide) rfl c_1
        refine lv_iload_n hx hb dX2_takeAll_11 rfl (lv_at hl 0 rfl) ?_
        refine lv_aload_n hx hb dX2_takeAll_12 rfl (lv_at hl 2 rfl) ?_
        refine va_get (D := D) (ci := 2) (v := .ref (Z2 1)) (C := RX2) (T := TX2) (N := 12) hx hb hts iX2 hown hK hP 13 rfl rfl 0 (by decide) k11 (fun _ h9 => h9) rfl dX2_takeAll_13 ?_
        refine va_alen (v := 5) hx hb hK hP 14 2 rfl rfl rfl dX2_takeAll_16 ?_
        refine lv_icmp_ge (tgt := 41) hx hb dX2_takeAll_17 (by decide) (fun c_2 => ?_) (fun c_2 => ?_)
        · have d_2 := i_le (show (5 : Int32).toInt = 5 from by decide) rfl c_2
          exact kont_2 (x2_2, kv_2) H locs ls (show lX2_takeAll_2 kv2 (n + 1) x2_2 kv_2 = (x2_2, kv_2) from ((if_neg c_1).trans ((if_pos c_2).trans rfl))).symm  hP hD hS (lv_sub hl [1, 2] rfl)
        · have d_2 := i_len (show (5 : Int32).toInt = 5 from by decide) rfl c_2
          refine lv_aload_n hx hb dX2_takeAll_20 rfl (lv_at hl 1 rfl) ?_
          refine va_get (D := D) (ci := 2) (v := .ref (Z 1)) (C := RX2) (T := TX2) (N := 12) hx hb hts iX2 hown hK hP 5 rfl rfl 0 (by decide) k11 (fun _ h9 => h9) rfl dX2_takeAll_21 ?_
          refine lv_iload_n hx hb dX2_takeAll_24 rfl (lv_at hl 0 rfl) ?_
          have q_3 : vp_in x2_2 5 := vp_in_iff.mpr ⟨by omega, by omega⟩
          refine va_aldq hx hb hK hP 6 2 rfl rfl q_3 dX2_takeAll_25 ?_
          refine W.eq (g2 := F0 m 26 ls [.ref (Z (3 + x2_2.toNatClampNeg))]) rfl ?_
          have hq_3 : x2_2.toNatClampNeg < 5 := vp_lt q_3
          refine lv_aload_n hx hb dX2_takeAll_26 rfl (lv_at hl 2 rfl) ?_
          refine va_get (D := D) (ci := 2) (v := .ref (Z2 1)) (C := RX2) (T := TX2) (N := 12) hx hb hts iX2 hown hK hP 13 rfl rfl 0 (by decide) k11 (fun _ h9 => h9) rfl dX2_takeAll_27 ?_
          refine lv_iload_n hx hb dX2_takeAll_30 rfl (lv_at hl 0 rfl) ?_
          have q_4 : vp_in x2_2 5 := vp_in_iff.mpr ⟨by omega, by omega⟩
          refine va_aldq hx hb hK hP 14 2 rfl rfl q_4 dX2_takeAll_31 ?_
          refine W.eq (g2 := F0 m 32 ls [.ref (Z2 (3 + x2_2.toNatClampNeg)), .ref (Z (3 + x2_2.toNatClampNeg))]) rfl ?_
          have hq_4 : x2_2.toNatClampNeg < 5 := vp_lt q_4
          refine mx_callV (As := [.ref (Z2 (3 + x2_2.toNatClampNeg))]) (rest := []) ⟨hx, hb, hml, hown, hts⟩ (mtX1_takeAll l D cI cB cK cS (landW Z cK f kv_2 mv ++ (landW Z2 cK f2 kv2 mv2 ++ R)) (Z (3 + x2_2.toNatClampNeg)) x2_2.toNatClampNeg (Z2 (3 + x2_2.toNatClampNeg)) (8 + x2_2.toNatClampNeg) (kv_2 x2_2.toNatClampNeg) (kv2 x2_2.toNatClampNeg) (kk_get hq_4) (kk_get8 hq_4) (by omega) (hz _ (by omega))) (cwV 1 hts gX2_takeAll_X1_takeAll rfl rfl rfl (by decide +kernel) ⟨Nat.le_of_ble_eq_true rfl, Nat.le_of_ble_eq_true rfl⟩) pF0_ok trivial hK hP hD hS hA x2_2.toNatClampNeg (kk_get hq_4) rfl rfl rfl hl.1 rfl (Nat.le_of_ble_eq_true rfl) dX2_takeAll_32 ⟨Nat.le_refl _, Nat.le_refl _⟩ (fun u_5 H locs eu_5 hP hD hS => ?_)
          have hP : va_P D vwCl ((landW Z cK f kv_2 mv ++ (landW Z2 cK f2 kv2 mv2 ++ R)).set x2_2.toNatClampNeg (Z (3 + x2_2.toNatClampNeg), .inr (1, kf u_5))) H := hP
          rw [kk_set hq_4] at hP
          have hD : va_D A ((landW Z cK f kv_2 mv ++ (landW Z2 cK f2 kv2 mv2 ++ R)).set x2_2.toNatClampNeg (Z (3 + x2_2.toNatClampNeg), .inr (1, kf u_5))) := hD
          rw [kk_set hq_4] at hD
          obtain ⟨kv_6, ekv_6⟩ : ∃ z : Nat → Nat → Int32, z = va_up kv_2 x2_2.toNatClampNeg u_5 := ⟨_, rfl⟩
          rw [← ekv_6] at hP hD
          refine W.eq (g2 := F0 m 35 ls []) rfl ?_
          have hP : va_P D vwCl (landW Z cK f kv_6 mv ++ (landW Z2 cK f2 kv2 mv2 ++ R)) H := hP
          have hD : va_D A (landW Z cK f kv_6 mv ++ (landW Z2 cK f2 kv2 mv2 ++ R)) := hD
          obtain ⟨x_7, ex_7⟩ : ∃ z : Int32, z = x2_2 + 1 := ⟨_, rfl⟩
          refine lv_iinc (v := x_7) (lv' := [(2, .int x_7), (0, .ref (Z 0)), (1, .ref (Z2 0))]) hx hb dX2_takeAll_35 hl (k := 0) rfl (by rw [ex_7]; rfl) (by decide) rfl (fun ls hl => ?_)
          refine lv_goto (tgt := 2) hx hb dX2_takeAll_38 (by decide) ?_
          have tx_7 : x_7.toInt = x2_2.toInt + 1 := i_inc ex_7 (by decide) (by omega) (by omega)
          refine ih_2 x_7 kv_6 H locs ls (by omega) (by omega) (by omega) hP hD hS (lv_sub hl [0, 1, 2] rfl) (fun u H locs ls eu  hP hD hS hl => ?_)
          exact kont_2 u H locs ls (eu.trans (show lX2_takeAll_2 kv2 (n + 1) x2_2 kv_2 = lX2_takeAll_2 kv2 n x_7 kv_6 from ((if_neg c_1).trans ((if_neg c_2).trans (lt_eq eu_5 (lt_eq ekv_6 (lt_eq ex_7 rfl)))))).symm)  hP hD hS hl
  refine L_2 6 0 kv H locs ls (by decide) (by decide) (by decide) hP hD hS (lv_sub hl [0, 1, 2] rfl) (fun u_8 H locs ls eu_8  hP hD hS hl => ?_)
  have hP : va_P D vwCl (landW Z cK f u_8.2 mv ++ (landW Z2 cK f2 kv2 mv2 ++ R)) H := hP
  have hD : va_D A (landW Z cK f u_8.2 mv ++ (landW Z2 cK f2 kv2 mv2 ++ R)) := hD
  refine lv_aload_n hx hb dX2_takeAll_41 rfl (lv_at hl 0 rfl) ?_
  refine va_get (D := D) (ci := 2) (v := .ref (Z 2)) (C := RX2) (T := TX2) (N := 12) hx hb hts iX2 hown hK hP 5 rfl rfl 1 (by decide) k20 (fun _ h9 => h9) rfl dX2_takeAll_42 ?_
  refine lv_aload_n hx hb dX2_takeAll_45 rfl (lv_at hl 1 rfl) ?_
  refine va_get (D := D) (ci := 2) (v := .ref (Z2 2)) (C := RX2) (T := TX2) (N := 12) hx hb hts iX2 hown hK hP 13 rfl rfl 1 (by decide) k20 (fun _ h9 => h9) rfl dX2_takeAll_46 ?_
  refine mx_callV (As := [.ref (Z2 2)]) (rest := []) ⟨hx, hb, hml, hown, hts⟩ (mtX3_takeAll l D cI cB cK cS (landW Z cK f u_8.2 mv ++ (landW Z2 cK f2 kv2 mv2 ++ R)) (Z 2) 7 (Z2 2) 15 mv mv2 rfl rfl (by decide)) (cwV 1 hts gX2_takeAll_X3_takeAll rfl rfl rfl (by decide +kernel) ⟨Nat.le_of_ble_eq_true rfl, Nat.le_of_ble_eq_true rfl⟩) pF0_ok trivial hK hP hD hS hA 7 rfl rfl rfl rfl hl.1 rfl (Nat.le_of_ble_eq_true rfl) dX2_takeAll_49 ⟨Nat.le_refl _, Nat.le_refl _⟩ (fun u_9 H locs eu_9 hP hD hS => ?_)
  refine W.eq (g2 := F0 m 52 ls []) rfl ?_
  have hP : va_P D vwCl (landW Z cK f u_8.2 u_9 ++ (landW Z2 cK f2 kv2 mv2 ++ R)) H := hP
  have hD : va_D A (landW Z cK f u_8.2 u_9 ++ (landW Z2 cK f2 kv2 mv2 ++ R)) := hD
  refine lv_aload_n hx hb dX2_takeAll_52 rfl (lv_at hl 0 rfl) ?_
  refine lv_aload_n hx hb dX2_takeAll_53 rfl (lv_at hl 1 rfl) ?_
  refine va_get (D := D) (ci := 2) (v := .int (f2 2)) (C := RX2) (T := TX2) (N := 12) hx hb hts iX2 hown hK hP 13 rfl rfl 2 (by decide) k24 (fun _ h9 => h9) rfl dX2_takeAll_54 ?_
  refine va_put (D := D) (ci := 2) (v := .int (f2 2)) (ty := .int) (C := RX2) (T := TX2) (N := 12) hx hb hts iX2 tyX2 tyX2_ok nmX2 hown hK hP hD hS 5 rfl rfl 2 (by decide) k24 (fun _ h9 => h9) rfl (by decide +kernel) rfl rfl (Nat.le_of_ble_eq_true rfl) dX2_takeAll_57 (fun H locs hP hD hS => ?_)
  have hP : va_P D vwCl (landW Z cK (upd f 2 (f2 2)) u_8.2 u_9 ++ (landW Z2 cK f2 kv2 mv2 ++ R)) H := hP
  have hD : va_D A (landW Z cK (upd f 2 (f2 2)) u_8.2 u_9 ++ (landW Z2 cK f2 kv2 mv2 ++ R)) := hD
  refine lv_aload_n hx hb dX2_takeAll_60 rfl (lv_at hl 0 rfl) ?_
  refine lv_aload_n hx hb dX2_takeAll_61 rfl (lv_at hl 1 rfl) ?_
  refine va_get (D := D) (ci := 2) (v := .int (f2 3)) (C := RX2) (T := TX2) (N := 12) hx hb hts iX2 hown hK hP 13 rfl rfl 3 (by decide) k28 (fun _ h9 => h9) rfl dX2_takeAll_62 ?_
  refine va_put (D := D) (ci := 2) (v := .int (f2 3)) (ty := .int) (C := RX2) (T := TX2) (N := 12) hx hb hts iX2 tyX2 tyX2_ok nmX2 hown hK hP hD hS 5 rfl rfl 3 (by decide) k28 (fun _ h9 => h9) rfl (by decide +kernel) rfl rfl (Nat.le_of_ble_eq_true rfl) dX2_takeAll_65 (fun H locs hP hD hS => ?_)
  have hP : va_P D vwCl (landW Z cK (upd (upd f 2 (f2 2)) 3 (f2 3)) u_8.2 u_9 ++ (landW Z2 cK f2 kv2 mv2 ++ R)) H := hP
  have hD : va_D A (landW Z cK (upd (upd f 2 (f2 2)) 3 (f2 3)) u_8.2 u_9 ++ (landW Z2 cK f2 kv2 mv2 ++ R)) := hD
  refine lv_aload_n hx hb dX2_takeAll_68 rfl (lv_at hl 0 rfl) ?_
  refine lv_aload_n hx hb dX2_takeAll_69 rfl (lv_at hl 1 rfl) ?_
  refine va_get (D := D) (ci := 2) (v := .int (f2 4)) (C := RX2) (T := TX2) (N := 12) hx hb hts iX2 hown hK hP 13 rfl rfl 4 (by decide) k31 (fun _ h9 => h9) rfl dX2_takeAll_70 ?_
  refine va_put (D := D) (ci := 2) (v := .int (f2 4)) (ty := .int) (C := RX2) (T := TX2) (N := 12) hx hb hts iX2 tyX2 tyX2_ok nmX2 hown hK hP hD hS 5 rfl rfl 4 (by decide) k31 (fun _ h9 => h9) rfl (by decide +kernel) rfl rfl (Nat.le_of_ble_eq_true rfl) dX2_takeAll_73 (fun H locs hP hD hS => ?_)
  have hP : va_P D vwCl (landW Z cK (upd (upd (upd f 2 (f2 2)) 3 (f2 3)) 4 (f2 4)) u_8.2 u_9 ++ (landW Z2 cK f2 kv2 mv2 ++ R)) H := hP
  have hD : va_D A (landW Z cK (upd (upd (upd f 2 (f2 2)) 3 (f2 3)) 4 (f2 4)) u_8.2 u_9 ++ (landW Z2 cK f2 kv2 mv2 ++ R)) := hD
  refine lv_aload_n hx hb dX2_takeAll_76 rfl (lv_at hl 0 rfl) ?_
  refine lv_aload_n hx hb dX2_takeAll_77 rfl (lv_at hl 1 rfl) ?_
  refine va_get (D := D) (ci := 2) (v := .int (f2 5)) (C := RX2) (T := TX2) (N := 12) hx hb hts iX2 hown hK hP 13 rfl rfl 5 (by decide) k34 (fun _ h9 => h9) rfl dX2_takeAll_78 ?_
  refine va_put (D := D) (ci := 2) (v := .int (f2 5)) (ty := .int) (C := RX2) (T := TX2) (N := 12) hx hb hts iX2 tyX2 tyX2_ok nmX2 hown hK hP hD hS 5 rfl rfl 5 (by decide) k34 (fun _ h9 => h9) rfl (by decide +kernel) rfl rfl (Nat.le_of_ble_eq_true rfl) dX2_takeAll_81 (fun H locs hP hD hS => ?_)
  have hP : va_P D vwCl (landW Z cK (upd (upd (upd (upd f 2 (f2 2)) 3 (f2 3)) 4 (f2 4)) 5 (f2 5)) u_8.2 u_9 ++ (landW Z2 cK f2 kv2 mv2 ++ R)) H := hP
  have hD : va_D A (landW Z cK (upd (upd (upd (upd f 2 (f2 2)) 3 (f2 3)) 4 (f2 4)) 5 (f2 5)) u_8.2 u_9 ++ (landW Z2 cK f2 kv2 mv2 ++ R)) := hD
  refine lv_aload_n hx hb dX2_takeAll_84 rfl (lv_at hl 0 rfl) ?_
  refine lv_aload_n hx hb dX2_takeAll_85 rfl (lv_at hl 1 rfl) ?_
  refine va_get (D := D) (ci := 2) (v := .int (f2 6)) (C := RX2) (T := TX2) (N := 12) hx hb hts iX2 hown hK hP 13 rfl rfl 6 (by decide) k37 (fun _ h9 => h9) rfl dX2_takeAll_86 ?_
  refine va_put (D := D) (ci := 2) (v := .int (f2 6)) (ty := .int) (C := RX2) (T := TX2) (N := 12) hx hb hts iX2 tyX2 tyX2_ok nmX2 hown hK hP hD hS 5 rfl rfl 6 (by decide) k37 (fun _ h9 => h9) rfl (by decide +kernel) rfl rfl (Nat.le_of_ble_eq_true rfl) dX2_takeAll_89 (fun H locs hP hD hS => ?_)
  have hP : va_P D vwCl (landW Z cK (upd (upd (upd (upd (upd f 2 (f2 2)) 3 (f2 3)) 4 (f2 4)) 5 (f2 5)) 6 (f2 6)) u_8.2 u_9 ++ (landW Z2 cK f2 kv2 mv2 ++ R)) H := hP
  have hD : va_D A (landW Z cK (upd (upd (upd (upd (upd f 2 (f2 2)) 3 (f2 3)) 4 (f2 4)) 5 (f2 5)) 6 (f2 6)) u_8.2 u_9 ++ (landW Z2 cK f2 kv2 mv2 ++ R)) := hD
  refine lv_aload_n hx hb dX2_takeAll_92 rfl (lv_at hl 0 rfl) ?_
  refine lv_aload_n hx hb dX2_takeAll_93 rfl (lv_at hl 1 rfl) ?_
  refine va_get (D := D) (ci := 2) (v := .int (f2 7)) (C := RX2) (T := TX2) (N := 12) hx hb hts iX2 hown hK hP 13 rfl rfl 7 (by decide) k40 (fun _ h9 => h9) rfl dX2_takeAll_94 ?_
  refine va_put (D := D) (ci := 2) (v := .int (f2 7)) (ty := .int) (C := RX2) (T := TX2) (N := 12) hx hb hts iX2 tyX2 tyX2_ok nmX2 hown hK hP hD hS 5 rfl rfl 7 (by decide) k40 (fun _ h9 => h9) rfl (by decide +kernel) rfl rfl (Nat.le_of_ble_eq_true rfl) dX2_takeAll_97 (fun H locs hP hD hS => ?_)
  have hP : va_P D vwCl (landW Z cK (upd (upd (upd (upd (upd (upd f 2 (f2 2)) 3 (f2 3)) 4 (f2 4)) 5 (f2 5)) 6 (f2 6)) 7 (f2 7)) u_8.2 u_9 ++ (landW Z2 cK f2 kv2 mv2 ++ R)) H := hP
  have hD : va_D A (landW Z cK (upd (upd (upd (upd (upd (upd f 2 (f2 2)) 3 (f2 3)) 4 (f2 4)) 5 (f2 5)) 6 (f2 6)) 7 (f2 7)) u_8.2 u_9 ++ (landW Z2 cK f2 kv2 mv2 ++ R)) := hD
  refine lv_aload_n hx hb dX2_takeAll_100 rfl (lv_at hl 0 rfl) ?_
  refine lv_aload_n hx hb dX2_takeAll_101 rfl (lv_at hl 1 rfl) ?_
  refine va_get (D := D) (ci := 2) (v := .int (f2 8)) (C := RX2) (T := TX2) (N := 12) hx hb hts iX2 hown hK hP 13 rfl rfl 8 (by decide) k43 (fun _ h9 => h9) rfl dX2_takeAll_102 ?_
  refine va_put (D := D) (ci := 2) (v := .int (f2 8)) (ty := .int) (C := RX2) (T := TX2) (N := 12) hx hb hts iX2 tyX2 tyX2_ok nmX2 hown hK hP hD hS 5 rfl rfl 8 (by decide) k43 (fun _ h9 => h9) rfl (by decide +kernel) rfl rfl (Nat.le_of_ble_eq_true rfl) dX2_takeAll_105 (fun H locs hP hD hS => ?_)
  have hP : va_P D vwCl (landW Z cK (upd (upd (upd (upd (upd (upd (upd f 2 (f2 2)) 3 (f2 3)) 4 (f2 4)) 5 (f2 5)) 6 (f2 6)) 7 (f2 7)) 8 (f2 8)) u_8.2 u_9 ++ (landW Z2 cK f2 kv2 mv2 ++ R)) H := hP
  have hD : va_D A (landW Z cK (upd (upd (upd (upd (upd (upd (upd f 2 (f2 2)) 3 (f2 3)) 4 (f2 4)) 5 (f2 5)) 6 (f2 6)) 7 (f2 7)) 8 (f2 8)) u_8.2 u_9 ++ (landW Z2 cK f2 kv2 mv2 ++ R)) := hD
  refine lv_aload_n hx hb dX2_takeAll_108 rfl (lv_at hl 0 rfl) ?_
  refine lv_aload_n hx hb dX2_takeAll_109 rfl (lv_at hl 1 rfl) ?_
  refine va_get (D := D) (ci := 2) (v := .int (f2 9)) (C := RX2) (T := TX2) (N := 12) hx hb hts iX2 hown hK hP 13 rfl rfl 9 (by decide) k46 (fun _ h9 => h9) rfl dX2_takeAll_110 ?_
  refine va_put (D := D) (ci := 2) (v := .int (f2 9)) (ty := .int) (C := RX2) (T := TX2) (N := 12) hx hb hts iX2 tyX2 tyX2_ok nmX2 hown hK hP hD hS 5 rfl rfl 9 (by decide) k46 (fun _ h9 => h9) rfl (by decide +kernel) rfl rfl (Nat.le_of_ble_eq_true rfl) dX2_takeAll_113 (fun H locs hP hD hS => ?_)
  have hP : va_P D vwCl (landW Z cK (upd (upd (upd (upd (upd (upd (upd (upd f 2 (f2 2)) 3 (f2 3)) 4 (f2 4)) 5 (f2 5)) 6 (f2 6)) 7 (f2 7)) 8 (f2 8)) 9 (f2 9)) u_8.2 u_9 ++ (landW Z2 cK f2 kv2 mv2 ++ R)) H := hP
  have hD : va_D A (landW Z cK (upd (upd (upd (upd (upd (upd (upd (upd f 2 (f2 2)) 3 (f2 3)) 4 (f2 4)) 5 (f2 5)) 6 (f2 6)) 7 (f2 7)) 8 (f2 8)) 9 (f2 9)) u_8.2 u_9 ++ (landW Z2 cK f2 kv2 mv2 ++ R)) := hD
  refine lv_aload_n hx hb dX2_takeAll_116 rfl (lv_at hl 0 rfl) ?_
  refine lv_aload_n hx hb dX2_takeAll_117 rfl (lv_at hl 1 rfl) ?_
  refine va_get (D := D) (ci := 2) (v := .int (f2 10)) (C := RX2) (T := TX2) (N := 12) hx hb hts iX2 hown hK hP 13 rfl rfl 10 (by decide) k49 (fun _ h9 => h9) rfl dX2_takeAll_118 ?_
  refine va_put (D := D) (ci := 2) (v := .int (f2 10)) (ty := .int) (C := RX2) (T := TX2) (N := 12) hx hb hts iX2 tyX2 tyX2_ok nmX2 hown hK hP hD hS 5 rfl rfl 10 (by decide) k49 (fun _ h9 => h9) rfl (by decide +kernel) rfl rfl (Nat.le_of_ble_eq_true rfl) dX2_takeAll_121 (fun H locs hP hD hS => ?_)
  have hP : va_P D vwCl (landW Z cK (upd (upd (upd (upd (upd (upd (upd (upd (upd f 2 (f2 2)) 3 (f2 3)) 4 (f2 4)) 5 (f2 5)) 6 (f2 6)) 7 (f2 7)) 8 (f2 8)) 9 (f2 9)) 10 (f2 10)) u_8.2 u_9 ++ (landW Z2 cK f2 kv2 mv2 ++ R)) H := hP
  have hD : va_D A (landW Z cK (upd (upd (upd (upd (upd (upd (upd (upd (upd f 2 (f2 2)) 3 (f2 3)) 4 (f2 4)) 5 (f2 5)) 6 (f2 6)) 7 (f2 7)) 8 (f2 8)) 9 (f2 9)) 10 (f2 10)) u_8.2 u_9 ++ (landW Z2 cK f2 kv2 mv2 ++ R)) := hD
  refine lv_aload_n hx hb dX2_takeAll_124 rfl (lv_at hl 0 rfl) ?_
  refine lv_aload_n hx hb dX2_takeAll_125 rfl (lv_at hl 1 rfl) ?_
  refine va_get (D := D) (ci := 2) (v := .int (f2 11)) (C := RX2) (T := TX2) (N := 12) hx hb hts iX2 hown hK hP 13 rfl rfl 11 (by decide) k52 (fun _ h9 => h9) rfl dX2_takeAll_126 ?_
  refine va_put (D := D) (ci := 2) (v := .int (f2 11)) (ty := .int) (C := RX2) (T := TX2) (N := 12) hx hb hts iX2 tyX2 tyX2_ok nmX2 hown hK hP hD hS 5 rfl rfl 11 (by decide) k52 (fun _ h9 => h9) rfl (by decide +kernel) rfl rfl (Nat.le_of_ble_eq_true rfl) dX2_takeAll_129 (fun H locs hP hD hS => ?_)
  have hP : va_P D vwCl (landW Z cK (upd (upd (upd (upd (upd (upd (upd (upd (upd (upd f 2 (f2 2)) 3 (f2 3)) 4 (f2 4)) 5 (f2 5)) 6 (f2 6)) 7 (f2 7)) 8 (f2 8)) 9 (f2 9)) 10 (f2 10)) 11 (f2 11)) u_8.2 u_9 ++ (landW Z2 cK f2 kv2 mv2 ++ R)) H := hP
  have hD : va_D A (landW Z cK (upd (upd (upd (upd (upd (upd (upd (upd (upd (upd f 2 (f2 2)) 3 (f2 3)) 4 (f2 4)) 5 (f2 5)) 6 (f2 6)) 7 (f2 7)) 8 (f2 8)) 9 (f2 9)) 10 (f2 10)) 11 (f2 11)) u_8.2 u_9 ++ (landW Z2 cK f2 kv2 mv2 ++ R)) := hD
  rw [hQm]
  exact mx_vret (u0 := sX2_takeAll f kv mv f2 kv2 mv2) (rv := (fun _ => none)) (w1 := (fun u => landW Z cK u.1 u.2.1 u.2.2 ++ (landW Z2 cK f2 kv2 mv2 ++ R))) (u := (upd (upd (upd (upd (upd (upd (upd (upd (upd (upd f 2 (f2 2)) 3 (f2 3)) 4 (f2 4)) 5 (f2 5)) 6 (f2 6)) 7 (f2 7)) 8 (f2 8)) 9 (f2 9)) 10 (f2 10)) 11 (f2 11), u_8.2, u_9)) hx hb hr hlocks hK hS (lt_eq eu_8 (lt_eq eu_9 rfl)) hP hD rfl dX2_takeAll_132
