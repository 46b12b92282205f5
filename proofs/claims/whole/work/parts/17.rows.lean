def sJ6_bitCount_0f7a4 (x : Int32) : Int32 := lt (x - (((x.toUInt32 >>> ((1 : Int32).toUInt32 &&& Int32.toUInt32 31)).toInt32) &&& 1431655765)) (fun x_1 : Int32 => lt ((x_1 &&& 858993459) + (((x_1.toUInt32 >>> ((2 : Int32).toUInt32 &&& Int32.toUInt32 31)).toInt32) &&& 858993459)) (fun x_2 : Int32 => lt ((x_2 + ((x_2.toUInt32 >>> ((4 : Int32).toUInt32 &&& Int32.toUInt32 31)).toInt32)) &&& 252645135) (fun x_3 : Int32 => lt (x_3 + ((x_3.toUInt32 >>> ((8 : Int32).toUInt32 &&& Int32.toUInt32 31)).toInt32)) (fun x_4 : Int32 => lt (x_4 + ((x_4.toUInt32 >>> ((16 : Int32).toUInt32 &&& Int32.toUInt32 31)).toInt32)) (fun x_5 : Int32 => (x_5 &&& 63))))))
set_option maxHeartbeats 4000000 in
set_option maxRecDepth 100000 in
theorem mtJ6_bitCount_0f7a4 (l : Launch) (D : va_G) (cI cB cK cS : ClassId) (ws : va_W)  (x : Int32) : MX l yJ6_bitCount_0f7a4 wsJ6_bitCount_0f7a4 (rmX 1) D (tyX cI cB cK cS) pF0 (ws) [.int x] (sJ6_bitCount_0f7a4 x) (fun u => some (.int u)) (fun _ => ws) := by
  refine mx_intro (cc := cJ6_bitCount_0f7a4) (maxL := 1) (ret := (some .int)) (by decide) rfl (Nat.le_of_ble_eq_true rfl) ?_
  intro p e s m below meth c A ls H locs Qm hQm hx hb hr hml hts hown hlocks hA hS hP hK hD hF hl
  have hown : s.vm.findClass RJ6 = some m.cls := hown
  have hl : lv_has ls 1 [(0, .int x)] := hl
  have k265 := hts (.constant RJ6 265 (1431655765)) (by decide +kernel)
  have k266 := hts (.constant RJ6 266 (858993459)) (by decide +kernel)
  have k267 := hts (.constant RJ6 267 (252645135)) (by decide +kernel)
  refine lv_iload_n hx hb dJ6_bitCount_0f7a4_0 rfl (lv_at hl 0 rfl) ?_
  refine lv_iload_n hx hb dJ6_bitCount_0f7a4_1 rfl (lv_at hl 0 rfl) ?_
  refine lv_iconst (v := 1) hx hb dJ6_bitCount_0f7a4_2 (by decide) ?_
  refine lv_iushr (v := (x.toUInt32 >>> ((1 : Int32).toUInt32 &&& Int32.toUInt32 31)).toInt32) hx hb dJ6_bitCount_0f7a4_3 rfl ?_
  refine lv_ldcw (v := 1431655765) hx hb hown k265 dJ6_bitCount_0f7a4_4 ?_
  refine lv_iand hx hb dJ6_bitCount_0f7a4_7 ?_
  refine lv_isub hx hb dJ6_bitCount_0f7a4_8 ?_
  refine lv_topi (fun x_1 ex_1 => ?_)
  refine lv_istore_n (lv' := [(0, .int x_1)]) hx hb dJ6_bitCount_0f7a4_9 rfl hl (by decide) rfl (fun ls hl => ?_)
  refine lv_iload_n hx hb dJ6_bitCount_0f7a4_10 rfl (lv_at hl 0 rfl) ?_
  refine lv_ldcw (v := 858993459) hx hb hown k266 dJ6_bitCount_0f7a4_11 ?_
  refine lv_iand hx hb dJ6_bitCount_0f7a4_14 ?_
  refine lv_iload_n hx hb dJ6_bitCount_0f7a4_15 rfl (lv_at hl 0 rfl) ?_
  refine lv_iconst (v := 2) hx hb dJ6_bitCount_0f7a4_16 (by decide) ?_
  refine lv_iushr (v := (x_1.toUInt32 >>> ((2 : Int32).toUInt32 &&& Int32.toUInt32 31)).toInt32) hx hb dJ6_bitCount_0f7a4_17 rfl ?_
  refine lv_ldcw (v := 858993459) hx hb hown k266 dJ6_bitCount_0f7a4_18 ?_
  refine lv_iand hx hb dJ6_bitCount_0f7a4_21 ?_
  refine lv_iadd hx hb dJ6_bitCount_0f7a4_22 ?_
  refine lv_topi (fun x_2 ex_2 => ?_)
  refine lv_istore_n (lv' := [(0, .int x_2)]) hx hb dJ6_bitCount_0f7a4_23 rfl hl (by decide) rfl (fun ls hl => ?_)
  refine lv_iload_n hx hb dJ6_bitCount_0f7a4_24 rfl (lv_at hl 0 rfl) ?_
  refine lv_iload_n hx hb dJ6_bitCount_0f7a4_25 rfl (lv_at hl 0 rfl) ?_
  refine lv_iconst (v := 4) hx hb dJ6_bitCount_0f7a4_26 (by decide) ?_
  refine lv_iushr (v := (x_2.toUInt32 >>> ((4 : Int32).toUInt32 &&& Int32.toUInt32 31)).toInt32) hx hb dJ6_bitCount_0f7a4_27 rfl ?_
  refine lv_iadd hx hb dJ6_bitCount_0f7a4_28 ?_
  refine lv_ldcw (v := 252645135) hx hb hown k267 dJ6_bitCount_0f7a4_29 ?_
  refine lv_iand hx hb dJ6_bitCount_0f7a4_32 ?_
  refine lv_topi (fun x_3 ex_3 => ?_)
  refine lv_istore_n (lv' := [(0, .int x_3)]) hx hb dJ6_bitCount_0f7a4_33 rfl hl (by decide) rfl (fun ls hl => ?_)
  refine lv_iload_n hx hb dJ6_bitCount_0f7a4_34 rfl (lv_at hl 0 rfl) ?_
  refine lv_iload_n hx hb dJ6_bitCount_0f7a4_35 rfl (lv_at hl 0 rfl) ?_
  refine lv_bipush (v := 8) hx hb dJ6_bitCount_0f7a4_36 (by decide) ?_
  refine lv_iushr (v := (x_3.toUInt32 >>> ((8 : Int32).toUInt32 &&& Int32.toUInt32 31)).toInt32) hx hb dJ6_bitCount_0f7a4_38 rfl ?_
  refine lv_iadd hx hb dJ6_bitCount_0f7a4_39 ?_
  refine lv_topi (fun x_4 ex_4 => ?_)
  refine lv_istore_n (lv' := [(0, .int x_4)]) hx hb dJ6_bitCount_0f7a4_40 rfl hl (by decide) rfl (fun ls hl => ?_)
  refine lv_iload_n hx hb dJ6_bitCount_0f7a4_41 rfl (lv_at hl 0 rfl) ?_
  refine lv_iload_n hx hb dJ6_bitCount_0f7a4_42 rfl (lv_at hl 0 rfl) ?_
  refine lv_bipush (v := 16) hx hb dJ6_bitCount_0f7a4_43 (by decide) ?_
  refine lv_iushr (v := (x_4.toUInt32 >>> ((16 : Int32).toUInt32 &&& Int32.toUInt32 31)).toInt32) hx hb dJ6_bitCount_0f7a4_45 rfl ?_
  refine lv_iadd hx hb dJ6_bitCount_0f7a4_46 ?_
  refine lv_topi (fun x_5 ex_5 => ?_)
  refine lv_istore_n (lv' := [(0, .int x_5)]) hx hb dJ6_bitCount_0f7a4_47 rfl hl (by decide) rfl (fun ls hl => ?_)
  refine lv_iload_n hx hb dJ6_bitCount_0f7a4_48 rfl (lv_at hl 0 rfl) ?_
  refine lv_bipush (v := 63) hx hb dJ6_bitCount_0f7a4_49 (by decide) ?_
  refine lv_iand hx hb dJ6_bitCount_0f7a4_51 ?_
  rw [hQm]
  exact mx_iret (u0 := sJ6_bitCount_0f7a4 x) (rv := (fun u => some (.int u))) (w1 := (fun _ => ws)) (u := (x_5 &&& 63)) hx hb hr hlocks hK hS (lt_eq ex_1 (lt_eq ex_2 (lt_eq ex_3 (lt_eq ex_4 (lt_eq ex_5 rfl))))) hP hD rfl dJ6_bitCount_0f7a4_52
def sX2_outCount (f : Nat → Int32) (kv : Nat → Nat → Int32) : Int32 := lt (sX2_outBits f kv) (fun u_1 : Int32 => lt (sJ6_bitCount_0f7a4 u_1) (fun u_2 : Int32 => (u_2)))
set_option maxHeartbeats 4000000 in
set_option maxRecDepth 100000 in
theorem mtX2_outCount (l : Launch) (D : va_G) (cI cB cK cS : ClassId) (Z : Nat → Nat) (R : va_W) (f : Nat → Int32) (kv : Nat → Nat → Int32) (mv : Nat → Int32) : MX l yX2_outCount wsX2_outCount (rmX 2) D (tyX cI cB cK cS) pF0 (landW Z cK f kv mv ++ R) [.ref (Z 0)] (sX2_outCount f kv) (fun u => some (.int u)) (fun _ => landW Z cK f kv mv ++ R) := by
  refine mx_intro (cc := cX2_outCount) (maxL := 1) (ret := (some .int)) (by decide) rfl (Nat.le_of_ble_eq_true rfl) ?_
  intro p e s m below meth c A ls H locs Qm hQm hx hb hr hml hts hown hlocks hA hS hP hK hD hF hl
  have hown : s.vm.findClass RX2 = some m.cls := hown
  have hl : lv_has ls 1 [(0, .ref (Z 0))] := hl
  refine lv_aload_n hx hb dX2_outCount_0 rfl (lv_at hl 0 rfl) ?_
  refine mx_callV (As := []) (rest := []) ⟨hx, hb, hml, hown, hts⟩ (mtX2_outBits l D cI cB cK cS Z R f kv mv) (cwV 0 hts gX2_outCount_X2_outBits rfl rfl rfl (by decide +kernel) ⟨Nat.le_of_ble_eq_true rfl, Nat.le_of_ble_eq_true rfl⟩) pF0_ok trivial hK hP hD hS hA 5 rfl rfl rfl rfl hl.1 rfl (Nat.le_of_ble_eq_true rfl) dX2_outCount_1 ⟨Nat.le_refl _, Nat.le_refl _⟩ (fun u_1 H locs eu_1 hP hD hS => ?_)
  refine W.eq (g2 := F0 m 4 ls [.int u_1]) rfl ?_
  have hP : va_P D vwCl (landW Z cK f kv mv ++ R) H := hP
  have hD : va_D A (landW Z cK f kv mv ++ R) := hD
  refine mx_callS (As := [.int u_1]) (rest := []) ⟨hx, hb, hml, hown, hts⟩ (mtJ6_bitCount_0f7a4 l D cI cB cK cS (landW Z cK f kv mv ++ R) u_1) (va_cwS 1 hts gX2_outCount_J6_bitCount_0f7a4 rfl rfl rfl (by decide +kernel) ⟨Nat.le_of_ble_eq_true rfl, Nat.le_of_ble_eq_true rfl⟩) pF0_ok trivial hK hP hD hS hA rfl hl.1 rfl (Nat.le_of_ble_eq_true rfl) dX2_outCount_4 ⟨Nat.le_refl _, Nat.le_refl _⟩ (fun u_2 H locs eu_2 hP hD hS => ?_)
  refine W.eq (g2 := F0 m 7 ls [.int u_2]) rfl ?_
  have hP : va_P D vwCl (landW Z cK f kv mv ++ R) H := hP
  have hD : va_D A (landW Z cK f kv mv ++ R) := hD
  rw [hQm]
  exact mx_iret (u0 := sX2_outCount f kv) (rv := (fun u => some (.int u))) (w1 := (fun _ => landW Z cK f kv mv ++ R)) (u := (u_2)) hx hb hr hlocks hK hS (lt_eq eu_1 (lt_eq eu_2 rfl)) hP hD rfl dX2_outCount_7
def lJ7_fill_53178_5 (x : Int32) : Nat → Int32 → (Nat → Int32) → Int32 × (Nat → Int32)
  | 0, x2_5, v_5 => (x2_5, v_5)
  | n + 1, x2_5, v_5 => if 60 ≤ x2_5 then ((x2_5, v_5)) else (lt (upd v_5 x2_5.toNatClampNeg x) (fun ar_3 : Nat → Int32 => lt (x2_5 + 1) (fun x_4 : Int32 => lJ7_fill_53178_5 x n x_4 ar_3)))

def sJ7_fill_53178 (x : Int32) (a : Nat → Int32) : (Nat → Int32) := lt (lJ7_fill_53178_5 x 61 0 a) (fun u_5 : Int32 × (Nat → Int32) => (u_5.2))
set_option maxHeartbeats 4000000 in
set_option maxRecDepth 100000 in
theorem mtJ7_fill_53178 (l : Launch) (D : va_G) (cI cB cK cS : ClassId) (ws : va_W) (h q : Nat) (a : Nat → Int32) (x : Int32) (he : ws[q]? = some (h, .inl (cI, 60, .inl a))) : MX l yJ7_fill_53178 wsJ7_fill_53178 (rmX 1) D (tyX cI cB cK cS) pF0 (ws) [.ref h, .int x] (sJ7_fill_53178 x a) (fun _ => none) (fun u => ws.set q (h, .inl (cI, 60, .inl u))) := by
  refine mx_intro (cc := cJ7_fill_53178) (maxL := 4) (ret := none) (by decide) rfl (Nat.le_of_ble_eq_true rfl) ?_
  intro p e s m below meth c A ls H locs Qm hQm hx hb hr hml hts hown hlocks hA hS hP hK hD hF hl
  have hown : s.vm.findClass RJ7 = some m.cls := hown
  have hl : lv_has ls 4 [(0, .ref h), (1, .int x)] := hl
  refine lv_iconst (v := 0) hx hb dJ7_fill_53178_0 (by decide) ?_
  refine lv_istore_n (lv' := [(2, .int 0), (0, .ref h), (1, .int x)]) hx hb dJ7_fill_53178_1 rfl hl (by decide) rfl (fun ls hl => ?_)
  refine lv_aload_n hx hb dJ7_fill_53178_2 rfl (lv_at hl 1 rfl) ?_
  refine va_alen (v := 60) hx hb hK hP q 0 he rfl rfl dJ7_fill_53178_3 ?_
  refine lv_istore_n (lv' := [(3, .int 60), (2, .int 0), (0, .ref h), (1, .int x)]) hx hb dJ7_fill_53178_4 rfl hl (by decide) rfl (fun ls hl => ?_)
  have L_5 : ∀ (n : Nat) (x2_5 : Int32) (v_5 : Nat → Int32) (H : Heap) (locs : List Loc) (ls : Array Slot), 0 ≤ x2_5.toInt → x2_5.toInt ≤ 60 → (60 : Int) < x2_5.toInt + ((n : Nat) : Int) → va_P D vwCl (ws.set q (h, .inl (cI, 60, .inl v_5))) H → va_D A (ws.set q (h, .inl (cI, 60, .inl v_5))) → va_S A s.heap H locs → lv_has ls 4 [(3, .int 60), (2, .int x2_5), (0, .ref h), (1, .int x)] → (∀ (u : Int32 × (Nat → Int32)) (H : Heap) (locs : List Loc) (ls : Array Slot), u = lJ7_fill_53178_5 x n x2_5 v_5 → va_P D vwCl (ws.set q (h, .inl (cI, 60, .inl u.2))) H → va_D A (ws.set q (h, .inl (cI, 60, .inl u.2))) → va_S A s.heap H locs → lv_has ls 4 [] → W p l e (rmX 1) s m ([.ref h, .int x] : List Value).toArray below meth c H locs 0 0 Qm (F0 m 20 ls [])) → W p l e (rmX 1) s m ([.ref h, .int x] : List Value).toArray below meth c H locs 0 0 Qm (F0 m 5 ls []) := by
    intro n
    induction n with
    | zero =>
      intro x2_5 v_5 H locs ls iv_5_0 iv_5_1 iv_5_2 hP hD hS hl kont_5
      exfalso; omega
    | succ n ih_5 =>
      intro x2_5 v_5 H locs ls iv_5_0 iv_5_1 iv_5_2 hP hD hS hl kont_5
      refine lv_iload_n hx hb dJ7_fill_53178_5 rfl (lv_at hl 1 rfl) ?_
      refine lv_iload_n hx hb dJ7_fill_53178_6 rfl (lv_at hl 0 rfl) ?_
      refine lv_icmp_ge (tgt := 20) hx hb dJ7_fill_53178_7 (by decide) (fun c_1 => ?_) (fun c_1 => ?_)
      · have d_1 := i_le (show (60 : Int32).toInt = 60 from by decide) rfl c_1
        exact kont_5 (x2_5, v_5) H locs ls (show lJ7_fill_53178_5 x (n + 1) x2_5 v_5 = (x2_5, v_5) from ((if_pos c_1).trans rfl)).symm  hP hD hS (lv_sub hl [] rfl)
      · have d_1 := i_len (show (60 : Int32).toInt = 60 from by decide) rfl c_1
        refine lv_aload_n hx hb dJ7_fill_53178_10 rfl (lv_at hl 2 rfl) ?_
        refine lv_iload_n hx hb dJ7_fill_53178_11 rfl (lv_at hl 1 rfl) ?_
        refine lv_iload_n hx hb dJ7_fill_53178_12 rfl (lv_at hl 3 rfl) ?_
        have q_2 : vp_in x2_5 60 := vp_in_iff.mpr ⟨by omega, by omega⟩
        refine va_iast hx hb hK hP hD hS q 0 (gs_same (he)) rfl q_2 dJ7_fill_53178_13 (fun H locs hP hD hS => ?_)
        obtain ⟨ar_3, ear_3⟩ : ∃ z : Nat → Int32, z = upd v_5 x2_5.toNatClampNeg x := ⟨_, rfl⟩
        rw [gs_set] at hP hD
        have hP : va_P D vwCl (ws.set q (h, .inl (cI, 60, .inl (upd v_5 x2_5.toNatClampNeg x)))) H := hP
        have hD : va_D A (ws.set q (h, .inl (cI, 60, .inl (upd v_5 x2_5.toNatClampNeg x)))) := hD
        rw [← ear_3] at hP hD
        have hP : va_P D vwCl (ws.set q (h, .inl (cI, 60, .inl ar_3))) H := hP
        have hD : va_D A (ws.set q (h, .inl (cI, 60, .inl ar_3))) := hD
        obtain ⟨x_4, ex_4⟩ : ∃ z : Int32, z = x2_5 + 1 := ⟨_, rfl⟩
        refine lv_iinc (v := x_4) (lv' := [(2, .int x_4), (3, .int 60), (0, .ref h), (1, .int x)]) hx hb dJ7_fill_53178_14 hl (k := 1) rfl (by rw [ex_4]; rfl) (by decide) rfl (fun ls hl => ?_)
        refine lv_goto (tgt := 5) hx hb dJ7_fill_53178_17 (by decide) ?_
        try have tx_4 : x_4.toInt = x2_5.toInt + 1 := i_inc ex_4 (by decide) (by omega) (by omega)
        refine ih_5 x_4 ar_3 H locs ls (by first | omega | assumption) (by first | omega | assumption) (by first | omega | assumption) hP hD hS (lv_sub hl [1, 0, 2, 3] rfl) (fun u H locs ls eu  hP hD hS hl => ?_)
        exact kont_5 u H locs ls (eu.trans (show lJ7_fill_53178_5 x (n + 1) x2_5 v_5 = lJ7_fill_53178_5 x n x_4 ar_3 from ((if_neg c_1).trans (lt_eq ear_3 (lt_eq ex_4 rfl)))).symm)  hP hD hS hl
  rw [← gs_id (he)] at hP hD
  refine L_5 61 0 a H locs ls (by decide) (by decide) (by decide) hP hD hS (lv_sub hl [0, 1, 2, 3] rfl) (fun u_5 H locs ls eu_5  hP hD hS hl => ?_)
  have hP : va_P D vwCl (ws.set q (h, .inl (cI, 60, .inl u_5.2))) H := hP
  have hD : va_D A (ws.set q (h, .inl (cI, 60, .inl u_5.2))) := hD
  rw [hQm]
  exact mx_vret (u0 := sJ7_fill_53178 x a) (rv := (fun _ => none)) (w1 := (fun u => ws.set q (h, .inl (cI, 60, .inl u)))) (u := (u_5.2)) hx hb hr hlocks hK hS (lt_eq eu_5 rfl) hP hD rfl dJ7_fill_53178_20
def sX5_guessOfBit (k : Int32) (a : Int32) (b : Int32) (d : Int32) : Int32 := if k = 1 then (lt (sX9_guessBy 2 ((k - 1) + 2) a b d 0) (fun u_2 : Int32 => (u_2))) else (if k = 2 then (lt (sX9_guessBy 2 ((k - 1) + 2) a b d 0) (fun u_13 : Int32 => (u_13))) else (if k < 3 then (lt (if k = 12 then (4) else (1)) (fun y_5 : Int32 => lt (sX9_guessBy y_5 0 a b d 0) (fun u_7 : Int32 => (u_7)))) else (if 11 < k then (lt (if k = 12 then (4) else (1)) (fun y_9 : Int32 => lt (sX9_guessBy y_9 0 a b d 0) (fun u_11 : Int32 => (u_11)))) else (lt (sX9_guessBy 3 ((k - 3) + 1) a b d 0) (fun u_12 : Int32 => (u_12))))))
set_option maxHeartbeats 4000000 in
set_option maxRecDepth 100000 in
theorem mtX5_guessOfBit (l : Launch) (D : va_G) (cI cB cK cS : ClassId) (ws : va_W)  (k : Int32) (a : Int32) (b : Int32) (d : Int32) : MX l yX5_guessOfBit wsX5_guessOfBit (rmX 3) D (tyX cI cB cK cS) pF0 (ws) [.int k, .int a, .int b, .int d] (sX5_guessOfBit k a b d) (fun u => some (.int u)) (fun _ => ws) := by
  refine mx_intro (cc := cX5_guessOfBit) (maxL := 4) (ret := (some .int)) (by decide) rfl (Nat.le_of_ble_eq_true rfl) ?_
  intro p e s m below meth c A ls H locs Qm hQm hx hb hr hml hts hown hlocks hA hS hP hK hD hF hl
  have hown : s.vm.findClass RX5 = some m.cls := hown
  have hl : lv_has ls 4 [(0, .int k), (1, .int a), (2, .int b), (3, .int d)] := hl
  refine lv_iload_n hx hb dX5_guessOfBit_0 rfl (lv_at hl 0 rfl) ?_
  refine lv_iconst (v := 1) hx hb dX5_guessOfBit_1 (by decide) ?_
  refine lv_icmp_eq (tgt := 10) hx hb dX5_guessOfBit_2 (by decide) (fun c_1 => ?_) (fun c_1 => ?_)
  · refine lv_iconst (v := 2) hx hb dX5_guessOfBit_10 (by decide) ?_
    refine lv_iload_n hx hb dX5_guessOfBit_11 rfl (lv_at hl 0 rfl) ?_
    refine lv_iconst (v := 1) hx hb dX5_guessOfBit_12 (by decide) ?_
    refine lv_isub hx hb dX5_guessOfBit_13 ?_
    refine lv_iconst (v := 2) hx hb dX5_guessOfBit_14 (by decide) ?_
    refine lv_iadd hx hb dX5_guessOfBit_15 ?_
    refine lv_iload_n hx hb dX5_guessOfBit_16 rfl (lv_at hl 1 rfl) ?_
    refine lv_iload_n hx hb dX5_guessOfBit_17 rfl (lv_at hl 2 rfl) ?_
    refine lv_iload_n hx hb dX5_guessOfBit_18 rfl (lv_at hl 3 rfl) ?_
    refine lv_iconst (v := 0) hx hb dX5_guessOfBit_19 (by decide) ?_
    refine mx_callS (As := [.int 2, .int ((k - 1) + 2), .int a, .int b, .int d, .int 0]) (rest := []) ⟨hx, hb, hml, hown, hts⟩ (mtX9_guessBy l D cI cB cK cS (ws) 2 ((k - 1) + 2) a b d 0) (va_cwS 6 hts gX5_guessOfBit_X9_guessBy rfl rfl rfl (by decide +kernel) ⟨Nat.le_of_ble_eq_true rfl, Nat.le_of_ble_eq_true rfl⟩) pF0_ok trivial hK hP hD hS hA rfl hl.1 rfl (Nat.le_of_ble_eq_true rfl) dX5_guessOfBit_20 ⟨Nat.le_refl _, Nat.le_refl _⟩ (fun u_2 H locs eu_2 hP hD hS => ?_)
    refine W.eq (g2 := F0 m 23 ls [.int u_2]) rfl ?_
    have hP : va_P D vwCl (ws) H := hP
    have hD : va_D A (ws) := hD
    rw [hQm]
    exact mx_iret (u0 := sX5_guessOfBit k a b d) (rv := (fun u => some (.int u))) (w1 := (fun _ => ws)) (u := (u_2)) hx hb hr hlocks hK hS ((if_pos c_1).trans (lt_eq eu_2 rfl)) hP hD rfl dX5_guessOfBit_23
  · refine lv_iload_n hx hb dX5_guessOfBit_5 rfl (lv_at hl 0 rfl) ?_
    refine lv_iconst (v := 2) hx hb dX5_guessOfBit_6 (by decide) ?_
    refine lv_icmp_ne (tgt := 24) hx hb dX5_guessOfBit_7 (by decide) (fun c_3 => ?_) (fun c_3 => ?_)
    · refine lv_iload_n hx hb dX5_guessOfBit_24 rfl (lv_at hl 0 rfl) ?_
      refine lv_iconst (v := 3) hx hb dX5_guessOfBit_25 (by decide) ?_
      refine lv_icmp_lt (tgt := 49) hx hb dX5_guessOfBit_26 (by decide) (fun c_4 => ?_) (fun c_4 => ?_)
      · refine lv_iload_n hx hb dX5_guessOfBit_49 rfl (lv_at hl 0 rfl) ?_
        refine lv_bipush (v := 12) hx hb dX5_guessOfBit_50 (by decide) ?_
        have J_5 : ∀ (y_5 : Int32) (H : Heap) (locs : List Loc) (ls : Array Slot), y_5 = (if k = 12 then (4) else (1)) → va_P D vwCl (ws) H → va_D A (ws) → va_S A s.heap H locs → lv_has ls 4 [(1, .int a), (2, .int b), (3, .int d)] → W p l e (rmX 3) s m ([.int k, .int a, .int b, .int d] : List Value).toArray below meth c H locs 0 0 Qm (F0 m 60 ls [.int y_5]) := by
          intro y_5 H locs ls ey_5 hP hD hS hl
          refine lv_iconst (v := 0) hx hb dX5_guessOfBit_60 (by decide) ?_
          refine lv_iload_n hx hb dX5_guessOfBit_61 rfl (lv_at hl 0 rfl) ?_
          refine lv_iload_n hx hb dX5_guessOfBit_62 rfl (lv_at hl 1 rfl) ?_
          refine lv_iload_n hx hb dX5_guessOfBit_63 rfl (lv_at hl 2 rfl) ?_
          refine lv_iconst (v := 0) hx hb dX5_guessOfBit_64 (by decide) ?_
          refine mx_callS (As := [.int y_5, .int 0, .int a, .int b, .int d, .int 0]) (rest := []) ⟨hx, hb, hml, hown, hts⟩ (mtX9_guessBy l D cI cB cK cS (ws) y_5 0 a b d 0) (va_cwS 6 hts gX5_guessOfBit_X9_guessBy rfl rfl rfl (by decide +kernel) ⟨Nat.le_of_ble_eq_true rfl, Nat.le_of_ble_eq_true rfl⟩) pF0_ok trivial hK hP hD hS hA rfl hl.1 rfl (Nat.le_of_ble_eq_true rfl) dX5_guessOfBit_65 ⟨Nat.le_refl _, Nat.le_refl _⟩ (fun u_7 H locs eu_7 hP hD hS => ?_)
          refine W.eq (g2 := F0 m 68 ls [.int u_7]) rfl ?_
          have hP : va_P D vwCl (ws) H := hP
          have hD : va_D A (ws) := hD
          rw [hQm]
          exact mx_iret (u0 := sX5_guessOfBit k a b d) (rv := (fun u => some (.int u))) (w1 := (fun _ => ws)) (u := (u_7)) hx hb hr hlocks hK hS ((if_neg c_1).trans ((if_neg c_3).trans ((if_pos c_4).trans (lt_eq ey_5 (lt_eq eu_7 rfl))))) hP hD rfl dX5_guessOfBit_68
        refine lv_icmp_ne (tgt := 59) hx hb dX5_guessOfBit_52 (by decide) (fun c_6 => ?_) (fun c_6 => ?_)
        · refine lv_iconst (v := 1) hx hb dX5_guessOfBit_59 (by decide) ?_
          exact J_5 1 H locs ls (Eq.symm ((if_neg c_6).trans rfl)) hP hD hS (lv_sub hl [1, 2, 3] rfl)
        · refine lv_iconst (v := 4) hx hb dX5_guessOfBit_55 (by decide) ?_
          refine lv_goto (tgt := 60) hx hb dX5_guessOfBit_56 (by decide) ?_
          exact J_5 4 H locs ls (Eq.symm ((if_pos c_6).trans rfl)) hP hD hS (lv_sub hl [1, 2, 3] rfl)
      · refine lv_iload_n hx hb dX5_guessOfBit_29 rfl (lv_at hl 0 rfl) ?_
        refine lv_bipush (v := 11) hx hb dX5_guessOfBit_30 (by decide) ?_
        refine lv_icmp_gt (tgt := 49) hx hb dX5_guessOfBit_32 (by decide) (fun c_8 => ?_) (fun c_8 => ?_)
        · refine lv_iload_n hx hb dX5_guessOfBit_49 rfl (lv_at hl 0 rfl) ?_
          refine lv_bipush (v := 12) hx hb dX5_guessOfBit_50 (by decide) ?_
          have J_9 : ∀ (y_9 : Int32) (H : Heap) (locs : List Loc) (ls : Array Slot), y_9 = (if k = 12 then (4) else (1)) → va_P D vwCl (ws) H → va_D A (ws) → va_S A s.heap H locs → lv_has ls 4 [(1, .int a), (2, .int b), (3, .int d)] → W p l e (rmX 3) s m ([.int k, .int a, .int b, .int d] : List Value).toArray below meth c H locs 0 0 Qm (F0 m 60 ls [.int y_9]) := by
            intro y_9 H locs ls ey_9 hP hD hS hl
            refine lv_iconst (v := 0) hx hb dX5_guessOfBit_60 (by decide) ?_
            refine lv_iload_n hx hb dX5_guessOfBit_61 rfl (lv_at hl 0 rfl) ?_
            refine lv_iload_n hx hb dX5_guessOfBit_62 rfl (lv_at hl 1 rfl) ?_
            refine lv_iload_n hx hb dX5_guessOfBit_63 rfl (lv_at hl 2 rfl) ?_
            refine lv_iconst (v := 0) hx hb dX5_guessOfBit_64 (by decide) ?_
            refine mx_callS (As := [.int y_9, .int 0, .int a, .int b, .int d, .int 0]) (rest := []) ⟨hx, hb, hml, hown, hts⟩ (mtX9_guessBy l D cI cB cK cS (ws) y_9 0 a b d 0) (va_cwS 6 hts gX5_guessOfBit_X9_guessBy rfl rfl rfl (by decide +kernel) ⟨Nat.le_of_ble_eq_true rfl, Nat.le_of_ble_eq_true rfl⟩) pF0_ok trivial hK hP hD hS hA rfl hl.1 rfl (Nat.le_of_ble_eq_true rfl) dX5_guessOfBit_65 ⟨Nat.le_refl _, Nat.le_refl _⟩ (fun u_11 H locs eu_11 hP hD hS => ?_)
            refine W.eq (g2 := F0 m 68 ls [.int u_11]) rfl ?_
            have hP : va_P D vwCl (ws) H := hP
            have hD : va_D A (ws) := hD
            rw [hQm]
            exact mx_iret (u0 := sX5_guessOfBit k a b d) (rv := (fun u => some (.int u))) (w1 := (fun _ => ws)) (u := (u_11)) hx hb hr hlocks hK hS ((if_neg c_1).trans ((if_neg c_3).trans ((if_neg c_4).trans ((if_pos c_8).trans (lt_eq ey_9 (lt_eq eu_11 rfl)))))) hP hD rfl dX5_guessOfBit_68
          refine lv_icmp_ne (tgt := 59) hx hb dX5_guessOfBit_52 (by decide) (fun c_10 => ?_) (fun c_10 => ?_)
          · refine lv_iconst (v := 1) hx hb dX5_guessOfBit_59 (by decide) ?_
            exact J_9 1 H locs ls (Eq.symm ((if_neg c_10).trans rfl)) hP hD hS (lv_sub hl [1, 2, 3] rfl)
          · refine lv_iconst (v := 4) hx hb dX5_guessOfBit_55 (by decide) ?_
            refine lv_goto (tgt := 60) hx hb dX5_guessOfBit_56 (by decide) ?_
            exact J_9 4 H locs ls (Eq.symm ((if_pos c_10).trans rfl)) hP hD hS (lv_sub hl [1, 2, 3] rfl)
        · refine lv_iconst (v := 3) hx hb dX5_guessOfBit_35 (by decide) ?_
          refine lv_iload_n hx hb dX5_guessOfBit_36 rfl (lv_at hl 0 rfl) ?_
          refine lv_iconst (v := 3) hx hb dX5_guessOfBit_37 (by decide) ?_
          refine lv_isub hx hb dX5_guessOfBit_38 ?_
          refine lv_iconst (v := 1) hx hb dX5_guessOfBit_39 (by decide) ?_
          refine lv_iadd hx hb dX5_guessOfBit_40 ?_
          refine lv_iload_n hx hb dX5_guessOfBit_41 rfl (lv_at hl 1 rfl) ?_
          refine lv_iload_n hx hb dX5_guessOfBit_42 rfl (lv_at hl 2 rfl) ?_
          refine lv_iload_n hx hb dX5_guessOfBit_43 rfl (lv_at hl 3 rfl) ?_
          refine lv_iconst (v := 0) hx hb dX5_guessOfBit_44 (by decide) ?_
          refine mx_callS (As := [.int 3, .int ((k - 3) + 1), .int a, .int b, .int d, .int 0]) (rest := []) ⟨hx, hb, hml, hown, hts⟩ (mtX9_guessBy l D cI cB cK cS (ws) 3 ((k - 3) + 1) a b d 0) (va_cwS 6 hts gX5_guessOfBit_X9_guessBy rfl rfl rfl (by decide +kernel) ⟨Nat.le_of_ble_eq_true rfl, Nat.le_of_ble_eq_true rfl⟩) pF0_ok trivial hK hP hD hS hA rfl hl.1 rfl (Nat.le_of_ble_eq_true rfl) dX5_guessOfBit_45 ⟨Nat.le_refl _, Nat.le_refl _⟩ (fun u_12 H locs eu_12 hP hD hS => ?_)
          refine W.eq (g2 := F0 m 48 ls [.int u_12]) rfl ?_
          have hP : va_P D vwCl (ws) H := hP
          have hD : va_D A (ws) := hD
          rw [hQm]
          exact mx_iret (u0 := sX5_guessOfBit k a b d) (rv := (fun u => some (.int u))) (w1 := (fun _ => ws)) (u := (u_12)) hx hb hr hlocks hK hS ((if_neg c_1).trans ((if_neg c_3).trans ((if_neg c_4).trans ((if_neg c_8).trans (lt_eq eu_12 rfl))))) hP hD rfl dX5_guessOfBit_48
    · refine lv_iconst (v := 2) hx hb dX5_guessOfBit_10 (by decide) ?_
      refine lv_iload_n hx hb dX5_guessOfBit_11 rfl (lv_at hl 0 rfl) ?_
      refine lv_iconst (v := 1) hx hb dX5_guessOfBit_12 (by decide) ?_
      refine lv_isub hx hb dX5_guessOfBit_13 ?_
      refine lv_iconst (v := 2) hx hb dX5_guessOfBit_14 (by decide) ?_
      refine lv_iadd hx hb dX5_guessOfBit_15 ?_
      refine lv_iload_n hx hb dX5_guessOfBit_16 rfl (lv_at hl 1 rfl) ?_
      refine lv_iload_n hx hb dX5_guessOfBit_17 rfl (lv_at hl 2 rfl) ?_
      refine lv_iload_n hx hb dX5_guessOfBit_18 rfl (lv_at hl 3 rfl) ?_
      refine lv_iconst (v := 0) hx hb dX5_guessOfBit_19 (by decide) ?_
      refine mx_callS (As := [.int 2, .int ((k - 1) + 2), .int a, .int b, .int d, .int 0]) (rest := []) ⟨hx, hb, hml, hown, hts⟩ (mtX9_guessBy l D cI cB cK cS (ws) 2 ((k - 1) + 2) a b d 0) (va_cwS 6 hts gX5_guessOfBit_X9_guessBy rfl rfl rfl (by decide +kernel) ⟨Nat.le_of_ble_eq_true rfl, Nat.le_of_ble_eq_true rfl⟩) pF0_ok trivial hK hP hD hS hA rfl hl.1 rfl (Nat.le_of_ble_eq_true rfl) dX5_guessOfBit_20 ⟨Nat.le_refl _, Nat.le_refl _⟩ (fun u_13 H locs eu_13 hP hD hS => ?_)
      refine W.eq (g2 := F0 m 23 ls [.int u_13]) rfl ?_
      have hP : va_P D vwCl (ws) H := hP
      have hD : va_D A (ws) := hD
      rw [hQm]
      exact mx_iret (u0 := sX5_guessOfBit k a b d) (rv := (fun u => some (.int u))) (w1 := (fun _ => ws)) (u := (u_13)) hx hb hr hlocks hK hS ((if_neg c_1).trans ((if_pos c_3).trans (lt_eq eu_13 rfl))) hP hD rfl dX5_guessOfBit_23

def lX5_waysOfRow_18 (k : Int32) (a : Nat → Int32) : Nat → Int32 → Int32 → Int32 × Int32
  | 0, x3_18, x2_18 => (x3_18, x2_18)
  | n + 1, x3_18, x2_18 => if 13 ≤ x3_18 then ((x3_18, x2_18)) else (lt (sX5_guessOfBit x3_18 (a k.toNatClampNeg) (a (k + 1).toNatClampNeg) (a (k + 2).toNatClampNeg)) (fun u_7 : Int32 => lt (if u_7 = (a (k + 3).toNatClampNeg) then (lt (x2_18 ||| ((1 : Int32) <<< (x3_18 &&& 31))) (fun x_11 : Int32 => x_11)) else (x2_18)) (fun y_9 : Int32 => lt (x3_18 + 1) (fun x_12 : Int32 => lX5_waysOfRow_18 k a n x_12 y_9))))

def sX5_waysOfRow (k : Int32) (a : Nat → Int32) : Int32 := if k < 0 then ((0)) else (if k ≤ (60 - 4) then (lt (lX5_waysOfRow_18 k a 14 0 0) (fun u_13 : Int32 × Int32 => (u_13.2))) else ((0)))
set_option maxHeartbeats 4000000 in
set_option maxRecDepth 100000 in
theorem mtX5_waysOfRow (l : Launch) (D : va_G) (cI cB cK cS : ClassId) (ws : va_W) (h q : Nat) (a : Nat → Int32) (k : Int32) (he : ws[q]? = some (h, .inl (cI, 60, .inl a))) : MX l yX5_waysOfRow wsX5_waysOfRow (rmX 4) D (tyX cI cB cK cS) pF0 (ws) [.ref h, .int k] (sX5_waysOfRow k a) (fun u => some (.int u)) (fun _ => ws) := by
  refine mx_intro (cc := cX5_waysOfRow) (maxL := 4) (ret := (some .int)) (by decide) rfl (Nat.le_of_ble_eq_true rfl) ?_
  intro p e s m below meth c A ls H locs Qm hQm hx hb hr hml hts hown hlocks hA hS hP hK hD hF hl
  have hown : s.vm.findClass RX5 = some m.cls := hown
  have hl : lv_has ls 4 [(0, .ref h), (1, .int k)] := hl
  refine lv_iload_n hx hb dX5_waysOfRow_0 rfl (lv_at hl 1 rfl) ?_
  refine lv_if_lt (tgt := 12) hx hb dX5_waysOfRow_1 (by decide) (fun c_1 => ?_) (fun c_1 => ?_)
  · have d_1 := i_lt rfl (show (0 : Int32).toInt = 0 from by decide) c_1
    refine lv_iconst (v := 0) hx hb dX5_waysOfRow_12 (by decide) ?_
    rw [hQm]
    exact mx_iret (u0 := sX5_waysOfRow k a) (rv := (fun u => some (.int u))) (w1 := (fun _ => ws)) (u := (0)) hx hb hr hlocks hK hS ((if_pos c_1).trans rfl) hP hD rfl dX5_waysOfRow_13
  · have d_1 := i_ltn rfl (show (0 : Int32).toInt = 0 from by decide) c_1
    refine lv_iload_n hx hb dX5_waysOfRow_4 rfl (lv_at hl 1 rfl) ?_
    refine lv_aload_n hx hb dX5_waysOfRow_5 rfl (lv_at hl 0 rfl) ?_
    refine va_alen (v := 60) hx hb hK hP q 0 he rfl rfl dX5_waysOfRow_6 ?_
    refine lv_iconst (v := 4) hx hb dX5_waysOfRow_7 (by decide) ?_
    refine lv_isub hx hb dX5_waysOfRow_8 ?_
    refine lv_icmp_le (tgt := 14) hx hb dX5_waysOfRow_9 (by decide) (fun c_2 => ?_) (fun c_2 => ?_)
    · have d_2 := i_le rfl (i_subv (show (60 : Int32).toInt = 60 from by decide) (show (4 : Int32).toInt = 4 from by decide) (by omega) (by omega)) c_2
      refine lv_iconst (v := 0) hx hb dX5_waysOfRow_14 (by decide) ?_
      refine lv_istore_n (lv' := [(2, .int 0), (0, .ref h), (1, .int k)]) hx hb dX5_waysOfRow_15 rfl hl (by decide) rfl (fun ls hl => ?_)
      refine lv_iconst (v := 0) hx hb dX5_waysOfRow_16 (by decide) ?_
      refine lv_istore_n (lv' := [(3, .int 0), (2, .int 0), (0, .ref h), (1, .int k)]) hx hb dX5_waysOfRow_17 rfl hl (by decide) rfl (fun ls hl => ?_)
      have L_18 : ∀ (n : Nat) (x3_18 : Int32) (x2_18 : Int32) (H : Heap) (locs : List Loc) (ls : Array Slot), 0 ≤ x3_18.toInt → x3_18.toInt ≤ 13 → (13 : Int) < x3_18.toInt + ((n : Nat) : Int) → va_P D vwCl (ws) H → va_D A (ws) → va_S A s.heap H locs → lv_has ls 4 [(3, .int x3_18), (2, .int x2_18), (0, .ref h), (1, .int k)] → (∀ (u : Int32 × Int32) (H : Heap) (locs : List Loc) (ls : Array Slot), u = lX5_waysOfRow_18 k a n x3_18 x2_18 → va_P D vwCl (ws) H → va_D A (ws) → va_S A s.heap H locs → lv_has ls 4 [(2, .int u.2)] → W p l e (rmX 4) s m ([.ref h, .int k] : List Value).toArray below meth c H locs 0 0 Qm (F0 m 61 ls [])) → W p l e (rmX 4) s m ([.ref h, .int k] : List Value).toArray below meth c H locs 0 0 Qm (F0 m 18 ls []) := by
        intro n
        induction n with
        | zero =>
          intro x3_18 x2_18 H locs ls iv_18_0 iv_18_1 iv_18_2 hP hD hS hl kont_18
          exfalso; omega
        | succ n ih_18 =>
          intro x3_18 x2_18 H locs ls iv_18_0 iv_18_1 iv_18_2 hP hD hS hl kont_18
          refine lv_iload_n hx hb dX5_waysOfRow_18 rfl (lv_at hl 0 rfl) ?_
          refine lv_bipush (v := 13) hx hb dX5_waysOfRow_19 (by decide) ?_
          refine lv_icmp_ge (tgt := 61) hx hb dX5_waysOfRow_21 (by decide) (fun c_3 => ?_) (fun c_3 => ?_)
          · have d_3 := i_le (show (13 : Int32).toInt = 13 from by decide) rfl c_3
            exact kont_18 (x3_18, x2_18) H locs ls (show lX5_waysOfRow_18 k a (n + 1) x3_18 x2_18 = (x3_18, x2_18) from ((if_pos c_3).trans rfl)).symm  hP hD hS (lv_sub hl [1] rfl)
          · have d_3 := i_len (show (13 : Int32).toInt = 13 from by decide) rfl c_3
            refine lv_iload_n hx hb dX5_waysOfRow_24 rfl (lv_at hl 0 rfl) ?_
            refine lv_aload_n hx hb dX5_waysOfRow_25 rfl (lv_at hl 2 rfl) ?_
            refine lv_iload_n hx hb dX5_waysOfRow_26 rfl (lv_at hl 3 rfl) ?_
            have q_4 : vp_in k 60 := vp_in_iff.mpr ⟨by omega, by omega⟩
            refine va_iald hx hb hK hP q 0 he rfl q_4 dX5_waysOfRow_27 ?_
            refine lv_aload_n hx hb dX5_waysOfRow_28 rfl (lv_at hl 2 rfl) ?_
            refine lv_iload_n hx hb dX5_waysOfRow_29 rfl (lv_at hl 3 rfl) ?_
            refine lv_iconst (v := 1) hx hb dX5_waysOfRow_30 (by decide) ?_
            refine lv_iadd hx hb dX5_waysOfRow_31 ?_
            have q_5 : vp_in (k + 1) 60 := vp_in_iff.mpr (by rw [show (k + 1).toInt = (k.toInt + 1) from (i_addv rfl (show (1 : Int32).toInt = 1 from by decide) (by omega) (by omega))]; constructor <;> omega)
            refine va_iald hx hb hK hP q 0 he rfl q_5 dX5_waysOfRow_32 ?_
            refine lv_aload_n hx hb dX5_waysOfRow_33 rfl (lv_at hl 2 rfl) ?_
            refine lv_iload_n hx hb dX5_waysOfRow_34 rfl (lv_at hl 3 rfl) ?_
            refine lv_iconst (v := 2) hx hb dX5_waysOfRow_35 (by decide) ?_
            refine lv_iadd hx hb dX5_waysOfRow_36 ?_
            have q_6 : vp_in (k + 2) 60 := vp_in_iff.mpr (by rw [show (k + 2).toInt = (k.toInt + 2) from (i_addv rfl (show (2 : Int32).toInt = 2 from by decide) (by omega) (by omega))]; constructor <;> omega)
            refine va_iald hx hb hK hP q 0 he rfl q_6 dX5_waysOfRow_37 ?_
            refine mx_callS (As := [.int x3_18, .int (a k.toNatClampNeg), .int (a (k + 1).toNatClampNeg), .int (a (k + 2).toNatClampNeg)]) (rest := []) ⟨hx, hb, hml, hown, hts⟩ (mtX5_guessOfBit l D cI cB cK cS (ws) x3_18 (a k.toNatClampNeg) (a (k + 1).toNatClampNeg) (a (k + 2).toNatClampNeg)) (va_cwS 4 hts gX5_waysOfRow_X5_guessOfBit rfl rfl rfl (by decide +kernel) ⟨Nat.le_of_ble_eq_true rfl, Nat.le_of_ble_eq_true rfl⟩) pF0_ok trivial hK hP hD hS hA rfl hl.1 rfl (Nat.le_of_ble_eq_true rfl) dX5_waysOfRow_38 ⟨Nat.le_refl _, Nat.le_refl _⟩ (fun u_7 H locs eu_7 hP hD hS => ?_)
            refine W.eq (g2 := F0 m 41 ls [.int u_7]) rfl ?_
            have hP : va_P D vwCl (ws) H := hP
            have hD : va_D A (ws) := hD
            refine lv_aload_n hx hb dX5_waysOfRow_41 rfl (lv_at hl 2 rfl) ?_
            refine lv_iload_n hx hb dX5_waysOfRow_42 rfl (lv_at hl 3 rfl) ?_
            refine lv_iconst (v := 3) hx hb dX5_waysOfRow_43 (by decide) ?_
            refine lv_iadd hx hb dX5_waysOfRow_44 ?_
            have q_8 : vp_in (k + 3) 60 := vp_in_iff.mpr (by rw [show (k + 3).toInt = (k.toInt + 3) from (i_addv rfl (show (3 : Int32).toInt = 3 from by decide) (by omega) (by omega))]; constructor <;> omega)
            refine va_iald hx hb hK hP q 0 he rfl q_8 dX5_waysOfRow_45 ?_
            have J_9 : ∀ (y_9 : Int32) (H : Heap) (locs : List Loc) (ls : Array Slot), y_9 = (if u_7 = (a (k + 3).toNatClampNeg) then (lt (x2_18 ||| ((1 : Int32) <<< (x3_18 &&& 31))) (fun x_11 : Int32 => x_11)) else (x2_18)) → va_P D vwCl (ws) H → va_D A (ws) → va_S A s.heap H locs → lv_has ls 4 [(2, .int y_9), (3, .int x3_18), (0, .ref h), (1, .int k)] → W p l e (rmX 4) s m ([.ref h, .int k] : List Value).toArray below meth c H locs 0 0 Qm (F0 m 55 ls []) := by
              intro y_9 H locs ls ey_9 hP hD hS hl
              obtain ⟨x_12, ex_12⟩ : ∃ z : Int32, z = x3_18 + 1 := ⟨_, rfl⟩
              refine lv_iinc (v := x_12) (lv' := [(3, .int x_12), (2, .int y_9), (0, .ref h), (1, .int k)]) hx hb dX5_waysOfRow_55 hl (k := 1) rfl (by rw [ex_12]; rfl) (by decide) rfl (fun ls hl => ?_)
              refine lv_goto (tgt := 18) hx hb dX5_waysOfRow_58 (by decide) ?_
              try have tx_12 : x_12.toInt = x3_18.toInt + 1 := i_inc ex_12 (by decide) (by omega) (by omega)
              refine ih_18 x_12 y_9 H locs ls (by first | omega | assumption) (by first | omega | assumption) (by first | omega | assumption) hP hD hS (lv_sub hl [0, 1, 2, 3] rfl) (fun u H locs ls eu  hP hD hS hl => ?_)
              exact kont_18 u H locs ls (eu.trans (show lX5_waysOfRow_18 k a (n + 1) x3_18 x2_18 = lX5_waysOfRow_18 k a n x_12 y_9 from ((if_neg c_3).trans (lt_eq eu_7 (lt_eq ey_9 (lt_eq ex_12 rfl))))).symm)  hP hD hS hl
            refine lv_icmp_ne (tgt := 55) hx hb dX5_waysOfRow_46 (by decide) (fun c_10 => ?_) (fun c_10 => ?_)
            · have d_10 := i_eqn rfl rfl c_10
              exact J_9 x2_18 H locs ls (Eq.symm ((if_neg c_10).trans rfl)) hP hD hS (lv_sub hl [1, 0, 2, 3] rfl)
            · have d_10 := i_eq rfl rfl c_10
              refine lv_iload_n hx hb dX5_waysOfRow_49 rfl (lv_at hl 1 rfl) ?_
              refine lv_iconst (v := 1) hx hb dX5_waysOfRow_50 (by decide) ?_
              refine lv_iload_n hx hb dX5_waysOfRow_51 rfl (lv_at hl 0 rfl) ?_
              refine lv_ishl hx hb dX5_waysOfRow_52 ?_
              refine lv_ior hx hb dX5_waysOfRow_53 ?_
              refine lv_topi (fun x_11 ex_11 => ?_)
              refine lv_istore_n (lv' := [(2, .int x_11), (3, .int x3_18), (0, .ref h), (1, .int k)]) hx hb dX5_waysOfRow_54 rfl hl (by decide) rfl (fun ls hl => ?_)
              exact J_9 x_11 H locs ls (Eq.symm ((if_pos c_10).trans (lt_eq ex_11 rfl))) hP hD hS (lv_sub hl [0, 1, 2, 3] rfl)
      refine L_18 14 0 0 H locs ls (by decide) (by decide) (by decide) hP hD hS (lv_sub hl [0, 1, 2, 3] rfl) (fun u_13 H locs ls eu_13  hP hD hS hl => ?_)
      have hP : va_P D vwCl (ws) H := hP
      have hD : va_D A (ws) := hD
      refine lv_iload_n hx hb dX5_waysOfRow_61 rfl (lv_at hl 0 rfl) ?_
      rw [hQm]
      exact mx_iret (u0 := sX5_waysOfRow k a) (rv := (fun u => some (.int u))) (w1 := (fun _ => ws)) (u := (u_13.2)) hx hb hr hlocks hK hS ((if_neg c_1).trans ((if_pos c_2).trans (lt_eq eu_13 rfl))) hP hD rfl dX5_waysOfRow_62
    · have d_2 := i_len rfl (i_subv (show (60 : Int32).toInt = 60 from by decide) (show (4 : Int32).toInt = 4 from by decide) (by omega) (by omega)) c_2
      refine lv_iconst (v := 0) hx hb dX5_waysOfRow_12 (by decide) ?_
      rw [hQm]
      exact mx_iret (u0 := sX5_waysOfRow k a) (rv := (fun u => some (.int u))) (w1 := (fun _ => ws)) (u := (0)) hx hb hr hlocks hK hS ((if_neg c_1).trans ((if_neg c_2).trans rfl)) hP hD rfl dX5_waysOfRow_13

def lX5_waysShown_7 (k : Int32) (nn : Int32) (a : Nat → Int32) : Nat → Int32 → Int32 → Int32 × Int32
  | 0, x4_7, x3_7 => (x4_7, x3_7)
  | n + 1, x4_7, x3_7 => if nn ≤ x4_7 then ((x4_7, x3_7)) else (lt (sX5_waysOfRow (k + (x4_7 * 4)) a) (fun u_2 : Int32 => lt (x3_7 &&& u_2) (fun x_3 : Int32 => lt (x4_7 + 1) (fun x_4 : Int32 => lX5_waysShown_7 k nn a n x_4 x_3))))

def sX5_waysShown (k : Int32) (nn : Int32) (a : Nat → Int32) : Int32 := lt (lX5_waysShown_7 k nn a 16 0 8191) (fun u_5 : Int32 × Int32 => (u_5.2))
set_option maxHeartbeats 4000000 in
set_option maxRecDepth 100000 in
theorem mtX5_waysShown (l : Launch) (D : va_G) (cI cB cK cS : ClassId) (ws : va_W) (h q : Nat) (a : Nat → Int32) (k : Int32) (nn : Int32) (he : ws[q]? = some (h, .inl (cI, 60, .inl a))) (hn : nn.toInt ≤ 15) : MX l yX5_waysShown wsX5_waysShown (rmX 5) D (tyX cI cB cK cS) pF0 (ws) [.ref h, .int k, .int nn] (sX5_waysShown k nn a) (fun u => some (.int u)) (fun _ => ws) := by
  refine mx_intro (cc := cX5_waysShown) (maxL := 5) (ret := (some .int)) (by decide) rfl (Nat.le_of_ble_eq_true rfl) ?_
  intro p e s m below meth c A ls H locs Qm hQm hx hb hr hml hts hown hlocks hA hS hP hK hD hF hl
  have hown : s.vm.findClass RX5 = some m.cls := hown
  have hl : lv_has ls 5 [(0, .ref h), (1, .int k), (2, .int nn)] := hl
  refine lv_sipush (v := 8191) hx hb dX5_waysShown_0 (by decide) ?_
  refine lv_istore_n (lv' := [(3, .int 8191), (0, .ref h), (1, .int k), (2, .int nn)]) hx hb dX5_waysShown_3 rfl hl (by decide) rfl (fun ls hl => ?_)
  refine lv_iconst (v := 0) hx hb dX5_waysShown_4 (by decide) ?_
  refine lv_istore (lv' := [(4, .int 0), (3, .int 8191), (0, .ref h), (1, .int k), (2, .int nn)]) hx hb dX5_waysShown_5 hl (by decide) rfl (fun ls hl => ?_)
  have L_7 : ∀ (n : Nat) (x4_7 : Int32) (x3_7 : Int32) (H : Heap) (locs : List Loc) (ls : Array Slot), 0 ≤ x4_7.toInt → x4_7.toInt ≤ 15 → (15 : Int) < x4_7.toInt + ((n : Nat) : Int) → va_P D vwCl (ws) H → va_D A (ws) → va_S A s.heap H locs → lv_has ls 5 [(4, .int x4_7), (3, .int x3_7), (0, .ref h), (1, .int k), (2, .int nn)] → (∀ (u : Int32 × Int32) (H : Heap) (locs : List Loc) (ls : Array Slot), u = lX5_waysShown_7 k nn a n x4_7 x3_7 → va_P D vwCl (ws) H → va_D A (ws) → va_S A s.heap H locs → lv_has ls 5 [(3, .int u.2)] → W p l e (rmX 5) s m ([.ref h, .int k, .int nn] : List Value).toArray below meth c H locs 0 0 Qm (F0 m 32 ls [])) → W p l e (rmX 5) s m ([.ref h, .int k, .int nn] : List Value).toArray below meth c H locs 0 0 Qm (F0 m 7 ls []) := by
    intro n
    induction n with
    | zero =>
      intro x4_7 x3_7 H locs ls iv_7_0 iv_7_1 iv_7_2 hP hD hS hl kont_7
      exfalso; omega
    | succ n ih_7 =>
      intro x4_7 x3_7 H locs ls iv_7_0 iv_7_1 iv_7_2 hP hD hS hl kont_7
      refine lv_iload hx hb dX5_waysShown_7 (lv_at hl 0 rfl) ?_
      refine lv_iload_n hx hb dX5_waysShown_9 rfl (lv_at hl 4 rfl) ?_
      refine lv_icmp_ge (tgt := 32) hx hb dX5_waysShown_10 (by decide) (fun c_1 => ?_) (fun c_1 => ?_)
      · have d_1 := i_le rfl rfl c_1
        exact kont_7 (x4_7, x3_7) H locs ls (show lX5_waysShown_7 k nn a (n + 1) x4_7 x3_7 = (x4_7, x3_7) from ((if_pos c_1).trans rfl)).symm  hP hD hS (lv_sub hl [1] rfl)
      · have d_1 := i_len rfl rfl c_1
        refine lv_iload_n hx hb dX5_waysShown_13 rfl (lv_at hl 1 rfl) ?_
        refine lv_aload_n hx hb dX5_waysShown_14 rfl (lv_at hl 2 rfl) ?_
        refine lv_iload_n hx hb dX5_waysShown_15 rfl (lv_at hl 3 rfl) ?_
        refine lv_iload hx hb dX5_waysShown_16 (lv_at hl 0 rfl) ?_
        refine lv_iconst (v := 4) hx hb dX5_waysShown_18 (by decide) ?_
        refine lv_imul hx hb dX5_waysShown_19 ?_
        refine lv_iadd hx hb dX5_waysShown_20 ?_
        refine mx_callS (As := [.ref h, .int (k + (x4_7 * 4))]) (rest := [.int x3_7]) ⟨hx, hb, hml, hown, hts⟩ (mtX5_waysOfRow l D cI cB cK cS (ws) h q a (k + (x4_7 * 4)) he) (va_cwS 2 hts gX5_waysShown_X5_waysOfRow rfl rfl rfl (by decide +kernel) ⟨Nat.le_of_ble_eq_true rfl, Nat.le_of_ble_eq_true rfl⟩) pF0_ok trivial hK hP hD hS hA rfl hl.1 rfl (Nat.le_of_ble_eq_true rfl) dX5_waysShown_21 ⟨Nat.le_refl _, Nat.le_refl _⟩ (fun u_2 H locs eu_2 hP hD hS => ?_)
        refine W.eq (g2 := F0 m 24 ls [.int u_2, .int x3_7]) rfl ?_
        have hP : va_P D vwCl (ws) H := hP
        have hD : va_D A (ws) := hD
        refine lv_iand hx hb dX5_waysShown_24 ?_
        refine lv_topi (fun x_3 ex_3 => ?_)
        refine lv_istore_n (lv' := [(3, .int x_3), (4, .int x4_7), (0, .ref h), (1, .int k), (2, .int nn)]) hx hb dX5_waysShown_25 rfl hl (by decide) rfl (fun ls hl => ?_)
        obtain ⟨x_4, ex_4⟩ : ∃ z : Int32, z = x4_7 + 1 := ⟨_, rfl⟩
        refine lv_iinc (v := x_4) (lv' := [(4, .int x_4), (3, .int x_3), (0, .ref h), (1, .int k), (2, .int nn)]) hx hb dX5_waysShown_26 hl (k := 1) rfl (by rw [ex_4]; rfl) (by decide) rfl (fun ls hl => ?_)
        refine lv_goto (tgt := 7) hx hb dX5_waysShown_29 (by decide) ?_
        try have tx_4 : x_4.toInt = x4_7.toInt + 1 := i_inc ex_4 (by decide) (by omega) (by omega)
        refine ih_7 x_4 x_3 H locs ls (by first | omega | assumption) (by first | omega | assumption) (by first | omega | assumption) hP hD hS (lv_sub hl [0, 1, 2, 3, 4] rfl) (fun u H locs ls eu  hP hD hS hl => ?_)
        exact kont_7 u H locs ls (eu.trans (show lX5_waysShown_7 k nn a (n + 1) x4_7 x3_7 = lX5_waysShown_7 k nn a n x_4 x_3 from ((if_neg c_1).trans (lt_eq eu_2 (lt_eq ex_3 (lt_eq ex_4 rfl))))).symm)  hP hD hS hl
  refine L_7 16 0 8191 H locs ls (by decide) (by decide) (by decide) hP hD hS (lv_sub hl [0, 1, 2, 3, 4] rfl) (fun u_5 H locs ls eu_5  hP hD hS hl => ?_)
  have hP : va_P D vwCl (ws) H := hP
  have hD : va_D A (ws) := hD
  refine lv_iload_n hx hb dX5_waysShown_32 rfl (lv_at hl 0 rfl) ?_
  rw [hQm]
  exact mx_iret (u0 := sX5_waysShown k nn a) (rv := (fun u => some (.int u))) (w1 := (fun _ => ws)) (u := (u_5.2)) hx hb hr hlocks hK hS (lt_eq eu_5 rfl) hP hD rfl dX5_waysShown_33

def lX5_arePrices_6 (k : Int32) (nn : Int32) (a : Nat → Int32) : Nat → Int32 → Int32
  | 0, x3_6 => (0)
  | n + 1, x3_6 => if (k + (nn * 4)) ≤ x3_6 then ((1)) else (if 60 ≤ x3_6 then ((1)) else (if (a x3_6.toNatClampNeg) < 0 then ((0)) else (if (a x3_6.toNatClampNeg) ≤ 99 then (lt (x3_6 + 1) (fun x_8 : Int32 => lX5_arePrices_6 k nn a n x_8)) else ((0)))))

def sX5_arePrices (k : Int32) (nn : Int32) (a : Nat → Int32) : Int32 := lt (if 0 < k then k else 0) (fun x_1 : Int32 => lX5_arePrices_6 k nn a 61 x_1)
set_option maxHeartbeats 4000000 in
set_option maxRecDepth 100000 in
theorem mtX5_arePrices (l : Launch) (D : va_G) (cI cB cK cS : ClassId) (ws : va_W) (h q : Nat) (a : Nat → Int32) (k : Int32) (nn : Int32) (he : ws[q]? = some (h, .inl (cI, 60, .inl a))) (hk0 : 0 ≤ k.toInt) (hk1 : k.toInt ≤ 60) : MX l yX5_arePrices wsX5_arePrices (rmX 2) D (tyX cI cB cK cS) pF0 (ws) [.ref h, .int k, .int nn] (sX5_arePrices k nn a) (fun u => some (.int u)) (fun _ => ws) := by
  refine mx_intro (cc := cX5_arePrices) (maxL := 4) (ret := (some .boolean)) (by decide) rfl (Nat.le_of_ble_eq_true rfl) ?_
  intro p e s m below meth c A ls H locs Qm hQm hx hb hr hml hts hown hlocks hA hS hP hK hD hF hl
  have hown : s.vm.findClass RX5 = some m.cls := hown
  have hl : lv_has ls 4 [(0, .ref h), (1, .int k), (2, .int nn)] := hl
  have k9 := hts (.methodLink RX5 9 Lib.Math.max.name) (by decide +kernel)
  have kS_max := hts (.static Lib.Math.max.name) (by decide +kernel)
  have kI_math := hts (.initialized "java/lang/Math") (by decide +kernel)
  have kC_max := hts (.code Lib.Math.max.name Lib.Math.max.code 2 (some .int)) (by decide +kernel)
  refine lv_iconst (v := 0) hx hb dX5_arePrices_0 (by decide) ?_
  refine lv_iload_n hx hb dX5_arePrices_1 rfl (lv_at hl 1 rfl) ?_
  refine va_mmax hx hb (by rw [hml]; exact hl.1.symm) hown k9 kS_max kI_math kC_max (Nat.le_of_ble_eq_true rfl) (Nat.le_of_ble_eq_true rfl) (Nat.le_refl _) (Nat.le_refl _) dX5_arePrices_2 ?_
  refine lv_topi (fun x_1 ex_1 => ?_)
  refine lv_istore_n (lv' := [(3, .int x_1), (0, .ref h), (1, .int k), (2, .int nn)]) hx hb dX5_arePrices_5 rfl hl (by decide) rfl (fun ls hl => ?_)
  have L_6 : ∀ (n : Nat) (x3_6 : Int32) (H : Heap) (locs : List Loc) (ls : Array Slot), 0 ≤ x3_6.toInt → x3_6.toInt ≤ 60 → (60 : Int) < x3_6.toInt + ((n : Nat) : Int) → (sX5_arePrices k nn a = lX5_arePrices_6 k nn a n x3_6) → va_P D vwCl (ws) H → va_D A (ws) → va_S A s.heap H locs → lv_has ls 4 [(3, .int x3_6), (0, .ref h), (1, .int k), (2, .int nn)] → W p l e (rmX 2) s m ([.ref h, .int k, .int nn] : List Value).toArray below meth c H locs 0 0 Qm (F0 m 6 ls []) := by
    intro n
    induction n with
    | zero =>
      intro x3_6 H locs ls iv_6_0 iv_6_1 iv_6_2 hT_6 hP hD hS hl
      exfalso; omega
    | succ n ih_6 =>
      intro x3_6 H locs ls iv_6_0 iv_6_1 iv_6_2 hT_6 hP hD hS hl
      refine lv_iload_n hx hb dX5_arePrices_6 rfl (lv_at hl 0 rfl) ?_
      refine lv_iload_n hx hb dX5_arePrices_7 rfl (lv_at hl 2 rfl) ?_
      refine lv_iload_n hx hb dX5_arePrices_8 rfl (lv_at hl 3 rfl) ?_
      refine lv_iconst (v := 4) hx hb dX5_arePrices_9 (by decide) ?_
      refine lv_imul hx hb dX5_arePrices_10 ?_
      refine lv_iadd hx hb dX5_arePrices_11 ?_
      refine lv_icmp_ge (tgt := 43) hx hb dX5_arePrices_12 (by decide) (fun c_2 => ?_) (fun c_2 => ?_)
      · have d_2 := i_le rfl rfl c_2
        refine lv_iconst (v := 1) hx hb dX5_arePrices_43 (by decide) ?_
        rw [hQm]
        exact mx_zret (u0 := sX5_arePrices k nn a) (rv := (fun u => some (.int u))) (w1 := (fun _ => ws)) (u := (1)) hx hb hr hlocks hK hS (hT_6.trans ((if_pos c_2).trans rfl)) hP hD rfl rfl dX5_arePrices_44
      · have d_2 := i_len rfl rfl c_2
        refine lv_iload_n hx hb dX5_arePrices_15 rfl (lv_at hl 0 rfl) ?_
        refine lv_aload_n hx hb dX5_arePrices_16 rfl (lv_at hl 1 rfl) ?_
        refine va_alen (v := 60) hx hb hK hP q 0 he rfl rfl dX5_arePrices_17 ?_
        refine lv_icmp_ge (tgt := 43) hx hb dX5_arePrices_18 (by decide) (fun c_3 => ?_) (fun c_3 => ?_)
        · have d_3 := i_le (show (60 : Int32).toInt = 60 from by decide) rfl c_3
          refine lv_iconst (v := 1) hx hb dX5_arePrices_43 (by decide) ?_
          rw [hQm]
          exact mx_zret (u0 := sX5_arePrices k nn a) (rv := (fun u => some (.int u))) (w1 := (fun _ => ws)) (u := (1)) hx hb hr hlocks hK hS (hT_6.trans ((if_neg c_2).trans ((if_pos c_3).trans rfl))) hP hD rfl rfl dX5_arePrices_44
        · have d_3 := i_len (show (60 : Int32).toInt = 60 from by decide) rfl c_3
          refine lv_aload_n hx hb dX5_arePrices_21 rfl (lv_at hl 1 rfl) ?_
          refine lv_iload_n hx hb dX5_arePrices_22 rfl (lv_at hl 0 rfl) ?_
          have q_4 : vp_in x3_6 60 := vp_in_iff.mpr ⟨by omega, by omega⟩
          refine va_iald hx hb hK hP q 0 he rfl q_4 dX5_arePrices_23 ?_
          refine lv_if_lt (tgt := 35) hx hb dX5_arePrices_24 (by decide) (fun c_5 => ?_) (fun c_5 => ?_)
          · have d_5 := i_lt rfl (show (0 : Int32).toInt = 0 from by decide) c_5
            refine lv_iconst (v := 0) hx hb dX5_arePrices_35 (by decide) ?_
            rw [hQm]
            exact mx_zret (u0 := sX5_arePrices k nn a) (rv := (fun u => some (.int u))) (w1 := (fun _ => ws)) (u := (0)) hx hb hr hlocks hK hS (hT_6.trans ((if_neg c_2).trans ((if_neg c_3).trans ((if_pos c_5).trans rfl)))) hP hD rfl rfl dX5_arePrices_36
          · have d_5 := i_ltn rfl (show (0 : Int32).toInt = 0 from by decide) c_5
            refine lv_aload_n hx hb dX5_arePrices_27 rfl (lv_at hl 1 rfl) ?_
            refine lv_iload_n hx hb dX5_arePrices_28 rfl (lv_at hl 0 rfl) ?_
            have q_6 : vp_in x3_6 60 := vp_in_iff.mpr ⟨by omega, by omega⟩
            refine va_iald hx hb hK hP q 0 he rfl q_6 dX5_arePrices_29 ?_
            refine lv_bipush (v := 99) hx hb dX5_arePrices_30 (by decide) ?_
            refine lv_icmp_le (tgt := 37) hx hb dX5_arePrices_32 (by decide) (fun c_7 => ?_) (fun c_7 => ?_)
            · have d_7 := i_le rfl (show (99 : Int32).toInt = 99 from by decide) c_7
              obtain ⟨x_8, ex_8⟩ : ∃ z : Int32, z = x3_6 + 1 := ⟨_, rfl⟩
              refine lv_iinc (v := x_8) (lv' := [(3, .int x_8), (0, .ref h), (1, .int k), (2, .int nn)]) hx hb dX5_arePrices_37 hl (k := 0) rfl (by rw [ex_8]; rfl) (by decide) rfl (fun ls hl => ?_)
              refine lv_goto (tgt := 6) hx hb dX5_arePrices_40 (by decide) ?_
              try have tx_8 : x_8.toInt = x3_6.toInt + 1 := i_inc ex_8 (by decide) (by omega) (by omega)
              exact ih_6 x_8 H locs ls (by first | omega | assumption) (by first | omega | assumption) (by first | omega | assumption) (hT_6.trans ((if_neg c_2).trans ((if_neg c_3).trans ((if_neg c_5).trans ((if_pos c_7).trans (lt_eq ex_8 rfl)))))) hP hD hS (lv_sub hl [0, 1, 2, 3] rfl)
            · have d_7 := i_len rfl (show (99 : Int32).toInt = 99 from by decide) c_7
              refine lv_iconst (v := 0) hx hb dX5_arePrices_35 (by decide) ?_
              rw [hQm]
              exact mx_zret (u0 := sX5_arePrices k nn a) (rv := (fun u => some (.int u))) (w1 := (fun _ => ws)) (u := (0)) hx hb hr hlocks hK hS (hT_6.trans ((if_neg c_2).trans ((if_neg c_3).trans ((if_neg c_5).trans ((if_neg c_7).trans rfl))))) hP hD rfl rfl dX5_arePrices_36
  exact L_6 61 x_1 H locs ls (by rw [ex_1]; split <;> first | decide | omega) (by rw [ex_1]; split <;> first | decide | omega) (by rw [ex_1]; split <;> first | decide | omega) (lt_eq ex_1 rfl) hP hD hS (lv_sub hl [0, 1, 2, 3] rfl)
abbrev sf (it : Nat) (v : Nat → Int32) : List Value := [.ref it, .int (v 1), .int (v 2), .int (v 3)]
def sX6_holds (a : Int32) (b : Int32) (v : Nat → Int32) : Int32 := if b < 0 then ((0)) else (if a < 0 then ((0)) else (if ((v 3) - b) < a then ((0)) else ((1))))
set_option maxHeartbeats 4000000 in
set_option maxRecDepth 100000 in
theorem mtX6_holds (l : Launch) (D : va_G) (cI cB cK cS : ClassId) (ws : va_W) (h q it : Nat) (v : Nat → Int32) (a : Int32) (b : Int32) (he : ws[q]? = some (h, .inr (5, sf it v))) : MX l yX6_holds wsX6_holds (rmX 1) D (tyX cI cB cK cS) pF0 (ws) [.ref h, .int a, .int b] (sX6_holds a b v) (fun u => some (.int u)) (fun _ => ws) := by
  refine mx_intro (cc := cX6_holds) (maxL := 3) (ret := (some .boolean)) (by decide) rfl (Nat.le_of_ble_eq_true rfl) ?_
  intro p e s m below meth c A ls H locs Qm hQm hx hb hr hml hts hown hlocks hA hS hP hK hD hF hl
  have hown : s.vm.findClass RX6 = some m.cls := hown
  have hl : lv_has ls 3 [(0, .ref h), (1, .int a), (2, .int b)] := hl
  have k21 := hts (.fieldLink RX6 21 "PigRounds$Sheet" "size" "I") (by decide +kernel)
  have iX6 : ∀ w ∈ u_ws RX6 TX6 4, w ∈ wsX6_holds := by decide +kernel
  refine lv_iload_n hx hb dX6_holds_0 rfl (lv_at hl 2 rfl) ?_
  refine lv_if_lt (tgt := 22) hx hb dX6_holds_1 (by decide) (fun c_1 => ?_) (fun c_1 => ?_)
  · refine lv_iconst (v := 0) hx hb dX6_holds_22 (by decide) ?_
    rw [hQm]
    exact mx_zret (u0 := sX6_holds a b v) (rv := (fun u => some (.int u))) (w1 := (fun _ => ws)) (u := (0)) hx hb hr hlocks hK hS ((if_pos c_1).trans rfl) hP hD rfl rfl dX6_holds_23
  · refine lv_iload_n hx hb dX6_holds_4 rfl (lv_at hl 1 rfl) ?_
    refine lv_if_lt (tgt := 22) hx hb dX6_holds_5 (by decide) (fun c_2 => ?_) (fun c_2 => ?_)
    · refine lv_iconst (v := 0) hx hb dX6_holds_22 (by decide) ?_
      rw [hQm]
      exact mx_zret (u0 := sX6_holds a b v) (rv := (fun u => some (.int u))) (w1 := (fun _ => ws)) (u := (0)) hx hb hr hlocks hK hS ((if_neg c_1).trans ((if_pos c_2).trans rfl)) hP hD rfl rfl dX6_holds_23
    · refine lv_iload_n hx hb dX6_holds_8 rfl (lv_at hl 1 rfl) ?_
      refine lv_aload_n hx hb dX6_holds_9 rfl (lv_at hl 0 rfl) ?_
      refine va_get (D := D) (ci := 5) (v := .int (v 3)) (C := RX6) (T := TX6) (N := 4) hx hb hts iX6 hown hK hP q he rfl 3 (by decide) k21 (fun _ h9 => h9) rfl dX6_holds_10 ?_
      refine lv_iload_n hx hb dX6_holds_13 rfl (lv_at hl 2 rfl) ?_
      refine lv_isub hx hb dX6_holds_14 ?_
      refine lv_icmp_gt (tgt := 22) hx hb dX6_holds_15 (by decide) (fun c_3 => ?_) (fun c_3 => ?_)
      · refine lv_iconst (v := 0) hx hb dX6_holds_22 (by decide) ?_
        rw [hQm]
        exact mx_zret (u0 := sX6_holds a b v) (rv := (fun u => some (.int u))) (w1 := (fun _ => ws)) (u := (0)) hx hb hr hlocks hK hS ((if_neg c_1).trans ((if_neg c_2).trans ((if_pos c_3).trans rfl))) hP hD rfl rfl dX6_holds_23
      · refine lv_iconst (v := 1) hx hb dX6_holds_18 (by decide) ?_
        refine lv_goto (tgt := 23) hx hb dX6_holds_19 (by decide) ?_
        rw [hQm]
        exact mx_zret (u0 := sX6_holds a b v) (rv := (fun u => some (.int u))) (w1 := (fun _ => ws)) (u := (1)) hx hb hr hlocks hK hS ((if_neg c_1).trans ((if_neg c_2).trans ((if_neg c_3).trans rfl))) hP hD rfl rfl dX6_holds_23

def sX6_cutToLane (a : Int32) (v : Nat → Int32) : Int32 := if (v 2) = 0 then ((a.toInt8.toInt32)) else (if (v 2) = 1 then ((a.toInt16.toInt32)) else ((a)))
set_option maxHeartbeats 4000000 in
set_option maxRecDepth 100000 in
theorem mtX6_cutToLane (l : Launch) (D : va_G) (cI cB cK cS : ClassId) (ws : va_W) (h q it : Nat) (v : Nat → Int32) (a : Int32) (he : ws[q]? = some (h, .inr (5, sf it v))) : MX l yX6_cutToLane wsX6_cutToLane (rmX 1) D (tyX cI cB cK cS) pF0 (ws) [.ref h, .int a] (sX6_cutToLane a v) (fun u => some (.int u)) (fun _ => ws) := by
  refine mx_intro (cc := cX6_cutToLane) (maxL := 2) (ret := (some .int)) (by decide) rfl (Nat.le_of_ble_eq_true rfl) ?_
  intro p e s m below meth c A ls H locs Qm hQm hx hb hr hml hts hown hlocks hA hS hP hK hD hF hl
  have hown : s.vm.findClass RX6 = some m.cls := hown
  have hl : lv_has ls 2 [(0, .ref h), (1, .int a)] := hl
  have k17 := hts (.fieldLink RX6 17 "PigRounds$Sheet" "lane" "I") (by decide +kernel)
  have iX6 : ∀ w ∈ u_ws RX6 TX6 4, w ∈ wsX6_cutToLane := by decide +kernel
  refine lv_aload_n hx hb dX6_cutToLane_0 rfl (lv_at hl 0 rfl) ?_
  refine va_get (D := D) (ci := 5) (v := .int (v 2)) (C := RX6) (T := TX6) (N := 4) hx hb hts iX6 hown hK hP q he rfl 2 (by decide) k17 (fun _ h9 => h9) rfl dX6_cutToLane_1 ?_
  refine lv_if_ne (tgt := 10) hx hb dX6_cutToLane_4 (by decide) (fun c_1 => ?_) (fun c_1 => ?_)
  · refine lv_aload_n hx hb dX6_cutToLane_10 rfl (lv_at hl 0 rfl) ?_
    refine va_get (D := D) (ci := 5) (v := .int (v 2)) (C := RX6) (T := TX6) (N := 4) hx hb hts iX6 hown hK hP q he rfl 2 (by decide) k17 (fun _ h9 => h9) rfl dX6_cutToLane_11 ?_
    refine lv_iconst (v := 1) hx hb dX6_cutToLane_14 (by decide) ?_
    refine lv_icmp_ne (tgt := 23) hx hb dX6_cutToLane_15 (by decide) (fun c_2 => ?_) (fun c_2 => ?_)
    · refine lv_iload_n hx hb dX6_cutToLane_23 rfl (lv_at hl 1 rfl) ?_
      rw [hQm]
      exact mx_iret (u0 := sX6_cutToLane a v) (rv := (fun u => some (.int u))) (w1 := (fun _ => ws)) (u := (a)) hx hb hr hlocks hK hS ((if_neg c_1).trans ((if_neg c_2).trans rfl)) hP hD rfl dX6_cutToLane_24
    · refine lv_iload_n hx hb dX6_cutToLane_18 rfl (lv_at hl 1 rfl) ?_
      refine lv_i2s (v := a.toInt16.toInt32) hx hb dX6_cutToLane_19 rfl ?_
      refine lv_goto (tgt := 24) hx hb dX6_cutToLane_20 (by decide) ?_
      rw [hQm]
      exact mx_iret (u0 := sX6_cutToLane a v) (rv := (fun u => some (.int u))) (w1 := (fun _ => ws)) (u := (a.toInt16.toInt32)) hx hb hr hlocks hK hS ((if_neg c_1).trans ((if_pos c_2).trans rfl)) hP hD rfl dX6_cutToLane_24
  · refine lv_iload_n hx hb dX6_cutToLane_7 rfl (lv_at hl 1 rfl) ?_
    refine lv_i2b (v := a.toInt8.toInt32) hx hb dX6_cutToLane_8 rfl ?_
    rw [hQm]
    exact mx_iret (u0 := sX6_cutToLane a v) (rv := (fun u => some (.int u))) (w1 := (fun _ => ws)) (u := (a.toInt8.toInt32)) hx hb hr hlocks hK hS ((if_pos c_1).trans rfl) hP hD rfl dX6_cutToLane_9

def sX6_begin (w : Int32) (nn : Int32) (v : Nat → Int32) (a : Nat → Int32) : (Nat → Int32) × (Nat → Int32) := lt (sJ7_fill_53178 0 a) (fun u_1 : (Nat → Int32) => (upd (upd (upd v 1 0) 2 w) 3 nn, u_1))
set_option maxHeartbeats 4000000 in
set_option maxRecDepth 100000 in
theorem mtX6_begin (l : Launch) (D : va_G) (cI cB cK cS : ClassId) (ws : va_W) (h q it q2 : Nat) (v : Nat → Int32) (a : Nat → Int32) (w : Int32) (nn : Int32) (he : ws[q]? = some (h, .inr (5, sf it v))) (he2 : ws[q2]? = some (it, .inl (cI, 60, .inl a))) (hne : q ≠ q2) : MX l yX6_begin wsX6_begin (rmX 2) D (tyX cI cB cK cS) pF0 (ws) [.ref h, .int w, .int nn] (sX6_begin w nn v a) (fun _ => none) (fun u => (ws.set q (h, .inr (5, sf it u.1))).set q2 (it, .inl (cI, 60, .inl u.2))) := by
  refine mx_intro (cc := cX6_begin) (maxL := 3) (ret := none) (by decide) rfl (Nat.le_of_ble_eq_true rfl) ?_
  intro p e s m below meth c A ls H locs Qm hQm hx hb hr hml hts hown hlocks hA hS hP hK hD hF hl
  have hown : s.vm.findClass RX6 = some m.cls := hown
  have hl : lv_has ls 3 [(0, .ref h), (1, .int w), (2, .int nn)] := hl
  have k13 := hts (.fieldLink RX6 13 "PigRounds$Sheet" "missing" "Z") (by decide +kernel)
  have k17 := hts (.fieldLink RX6 17 "PigRounds$Sheet" "lane" "I") (by decide +kernel)
  have k21 := hts (.fieldLink RX6 21 "PigRounds$Sheet" "size" "I") (by decide +kernel)
  have k9 := hts (.fieldLink RX6 9 "PigRounds$Sheet" "items" "[I") (by decide +kernel)
  have iX6 : ∀ w ∈ u_ws RX6 TX6 4, w ∈ wsX6_begin := by decide +kernel
  refine lv_aload_n hx hb dX6_begin_0 rfl (lv_at hl 0 rfl) ?_
  refine lv_iconst (v := 0) hx hb dX6_begin_1 (by decide) ?_
  refine va_put (D := D) (ci := 5) (v := .int 0) (ty := .boolean) (C := RX6) (T := TX6) (N := 4) hx hb hts iX6 tyX6 tyX6_ok nmX6 hown hK hP hD hS q he rfl 1 (by decide) k13 (fun _ h9 => h9) rfl (by decide +kernel) rfl rfl (Nat.le_of_ble_eq_true rfl) dX6_begin_2 (fun H locs hP hD hS => ?_)
  have hP : va_P D vwCl (ws.set q (h, .inr (5, sf it (upd v 1 0)))) H := hP
  have hD : va_D A (ws.set q (h, .inr (5, sf it (upd v 1 0)))) := hD
  refine lv_aload_n hx hb dX6_begin_5 rfl (lv_at hl 0 rfl) ?_
  refine lv_iload_n hx hb dX6_begin_6 rfl (lv_at hl 1 rfl) ?_
  refine va_put (D := D) (ci := 5) (v := .int w) (ty := .int) (C := RX6) (T := TX6) (N := 4) hx hb hts iX6 tyX6 tyX6_ok nmX6 hown hK hP hD hS q (gs_same (he)) rfl 2 (by decide) k17 (fun _ h9 => h9) rfl (by decide +kernel) rfl rfl (Nat.le_of_ble_eq_true rfl) dX6_begin_7 (fun H locs hP hD hS => ?_)
  rw [gs_set] at hP hD
  have hP : va_P D vwCl (ws.set q (h, .inr (5, sf it (upd (upd v 1 0) 2 w)))) H := hP
  have hD : va_D A (ws.set q (h, .inr (5, sf it (upd (upd v 1 0) 2 w)))) := hD
  refine lv_aload_n hx hb dX6_begin_10 rfl (lv_at hl 0 rfl) ?_
  refine lv_iload_n hx hb dX6_begin_11 rfl (lv_at hl 2 rfl) ?_
  refine va_put (D := D) (ci := 5) (v := .int nn) (ty := .int) (C := RX6) (T := TX6) (N := 4) hx hb hts iX6 tyX6 tyX6_ok nmX6 hown hK hP hD hS q (gs_same (he)) rfl 3 (by decide) k21 (fun _ h9 => h9) rfl (by decide +kernel) rfl rfl (Nat.le_of_ble_eq_true rfl) dX6_begin_12 (fun H locs hP hD hS => ?_)
  rw [gs_set] at hP hD
  have hP : va_P D vwCl (ws.set q (h, .inr (5, sf it (upd (upd (upd v 1 0) 2 w) 3 nn)))) H := hP
  have hD : va_D A (ws.set q (h, .inr (5, sf it (upd (upd (upd v 1 0) 2 w) 3 nn)))) := hD
  refine lv_aload_n hx hb dX6_begin_15 rfl (lv_at hl 0 rfl) ?_
  refine va_get (D := D) (ci := 5) (v := .ref it) (C := RX6) (T := TX6) (N := 4) hx hb hts iX6 hown hK hP q (gs_same (he)) rfl 0 (by decide) k9 (fun _ h9 => h9) rfl dX6_begin_16 ?_
  refine lv_iconst (v := 0) hx hb dX6_begin_19 (by decide) ?_
  refine mx_callS (As := [.ref it, .int 0]) (rest := []) ⟨hx, hb, hml, hown, hts⟩ (mtJ7_fill_53178 l D cI cB cK cS (ws.set q (h, .inr (5, sf it (upd (upd (upd v 1 0) 2 w) 3 nn)))) it q2 a 0 (gs_other hne (he2))) (va_cwS 2 hts gX6_begin_J7_fill_53178 rfl rfl rfl (by decide +kernel) ⟨Nat.le_of_ble_eq_true rfl, Nat.le_of_ble_eq_true rfl⟩) pF0_ok trivial hK hP hD hS hA rfl hl.1 rfl (Nat.le_of_ble_eq_true rfl) dX6_begin_20 ⟨Nat.le_refl _, Nat.le_refl _⟩ (fun u_1 H locs eu_1 hP hD hS => ?_)
  refine W.eq (g2 := F0 m 23 ls []) rfl ?_
  have hP : va_P D vwCl ((ws.set q (h, .inr (5, sf it (upd (upd (upd v 1 0) 2 w) 3 nn)))).set q2 (it, .inl (cI, 60, .inl u_1))) H := hP
  have hD : va_D A ((ws.set q (h, .inr (5, sf it (upd (upd (upd v 1 0) 2 w) 3 nn)))).set q2 (it, .inl (cI, 60, .inl u_1))) := hD
  rw [hQm]
  exact mx_vret (u0 := sX6_begin w nn v a) (rv := (fun _ => none)) (w1 := (fun u => (ws.set q (h, .inr (5, sf it u.1))).set q2 (it, .inl (cI, 60, .inl u.2)))) (u := (upd (upd (upd v 1 0) 2 w) 3 nn, u_1)) hx hb hr hlocks hK hS (lt_eq eu_1 rfl) hP hD rfl dX6_begin_23
