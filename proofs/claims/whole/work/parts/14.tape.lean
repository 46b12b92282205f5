/-- the tape: U 0 itself, U 1 its bytes -/
def tpW (U : Nat → Nat) (cB : ClassId) (p_len : Int32) (p_bytes : Nat → Int32) : va_W := [(U 0, .inr (6, [.ref (U 1), .int p_len])), (U 1, .inl (cB, 400, .inl p_bytes))]
def sX7_hasRoomFor (k : Int32) (p_len : Int32) : Int32 := if (400 - p_len) < k then ((0)) else ((1))
set_option maxHeartbeats 4000000 in
set_option maxRecDepth 100000 in
theorem mtX7_hasRoomFor (l : Launch) (D : va_G) (cI cB cK cS : ClassId) (U : Nat → Nat) (R : va_W) (p_len : Int32) (p_bytes : Nat → Int32) (k : Int32) : MX l yX7_hasRoomFor wsX7_hasRoomFor (rmX 1) D (tyX cI cB cK cS) pF0 (tpW U cB p_len p_bytes ++ R) [.ref (U 0), .int k] (sX7_hasRoomFor k p_len) (fun u => some (.int u)) (fun _ => tpW U cB p_len p_bytes ++ R) := by
  refine mx_intro (cc := cX7_hasRoomFor) (maxL := 2) (ret := (some .boolean)) (by decide) rfl (Nat.le_of_ble_eq_true rfl) ?_
  intro p e s m below meth c A ls H locs Qm hQm hx hb hr hml hts hown hlocks hA hS hP hK hD hF hl
  have hown : s.vm.findClass RX7 = some m.cls := hown
  have hl : lv_has ls 2 [(0, .ref (U 0)), (1, .int k)] := hl
  have k9 := hts (.fieldLink RX7 9 "PigRounds$Tape" "bytes" "[B") (by decide +kernel)
  have k13 := hts (.fieldLink RX7 13 "PigRounds$Tape" "length" "I") (by decide +kernel)
  have iX7 : ∀ w ∈ u_ws RX7 TX7 2, w ∈ wsX7_hasRoomFor := by decide +kernel
  refine lv_iload_n hx hb dX7_hasRoomFor_0 rfl (lv_at hl 1 rfl) ?_
  refine lv_aload_n hx hb dX7_hasRoomFor_1 rfl (lv_at hl 0 rfl) ?_
  refine va_get (D := D) (ci := 6) (v := .ref (U 1)) (C := RX7) (T := TX7) (N := 2) hx hb hts iX7 hown hK hP 0 rfl rfl 0 (by decide) k9 (fun _ h9 => h9) rfl dX7_hasRoomFor_2 ?_
  refine va_alen (v := 400) hx hb hK hP 1 1 rfl rfl rfl dX7_hasRoomFor_5 ?_
  refine lv_aload_n hx hb dX7_hasRoomFor_6 rfl (lv_at hl 0 rfl) ?_
  refine va_get (D := D) (ci := 6) (v := .int p_len) (C := RX7) (T := TX7) (N := 2) hx hb hts iX7 hown hK hP 0 rfl rfl 1 (by decide) k13 (fun _ h9 => h9) rfl dX7_hasRoomFor_7 ?_
  refine lv_isub hx hb dX7_hasRoomFor_10 ?_
  refine lv_icmp_gt (tgt := 18) hx hb dX7_hasRoomFor_11 (by decide) (fun c_1 => ?_) (fun c_1 => ?_)
  · refine lv_iconst (v := 0) hx hb dX7_hasRoomFor_18 (by decide) ?_
    rw [hQm]
    exact mx_zret (u0 := sX7_hasRoomFor k p_len) (rv := (fun u => some (.int u))) (w1 := (fun _ => tpW U cB p_len p_bytes ++ R)) (u := (0)) hx hb hr hlocks hK hS ((if_pos c_1).trans rfl) hP hD rfl rfl dX7_hasRoomFor_19
  · refine lv_iconst (v := 1) hx hb dX7_hasRoomFor_14 (by decide) ?_
    refine lv_goto (tgt := 19) hx hb dX7_hasRoomFor_15 (by decide) ?_
    rw [hQm]
    exact mx_zret (u0 := sX7_hasRoomFor k p_len) (rv := (fun u => some (.int u))) (w1 := (fun _ => tpW U cB p_len p_bytes ++ R)) (u := (1)) hx hb hr hlocks hK hS ((if_neg c_1).trans rfl) hP hD rfl rfl dX7_hasRoomFor_19

def sX7_byteAt (k : Int32) (p_len : Int32) (p_bytes : Nat → Int32) : Int32 := if k < 0 then (((-1))) else (if p_len ≤ k then (((-1))) else (if 400 ≤ k then (((-1))) else (((p_bytes k.toNatClampNeg) &&& 255))))
set_option maxHeartbeats 4000000 in
set_option maxRecDepth 100000 in
theorem mtX7_byteAt (l : Launch) (D : va_G) (cI cB cK cS : ClassId) (U : Nat → Nat) (R : va_W) (p_len : Int32) (p_bytes : Nat → Int32) (k : Int32) : MX l yX7_byteAt wsX7_byteAt (rmX 1) D (tyX cI cB cK cS) pF0 (tpW U cB p_len p_bytes ++ R) [.ref (U 0), .int k] (sX7_byteAt k p_len p_bytes) (fun u => some (.int u)) (fun _ => tpW U cB p_len p_bytes ++ R) := by
  refine mx_intro (cc := cX7_byteAt) (maxL := 2) (ret := (some .int)) (by decide) rfl (Nat.le_of_ble_eq_true rfl) ?_
  intro p e s m below meth c A ls H locs Qm hQm hx hb hr hml hts hown hlocks hA hS hP hK hD hF hl
  have hown : s.vm.findClass RX7 = some m.cls := hown
  have hl : lv_has ls 2 [(0, .ref (U 0)), (1, .int k)] := hl
  have k13 := hts (.fieldLink RX7 13 "PigRounds$Tape" "length" "I") (by decide +kernel)
  have k9 := hts (.fieldLink RX7 9 "PigRounds$Tape" "bytes" "[B") (by decide +kernel)
  have iX7 : ∀ w ∈ u_ws RX7 TX7 2, w ∈ wsX7_byteAt := by decide +kernel
  refine lv_iload_n hx hb dX7_byteAt_0 rfl (lv_at hl 1 rfl) ?_
  refine lv_if_lt (tgt := 34) hx hb dX7_byteAt_1 (by decide) (fun c_1 => ?_) (fun c_1 => ?_)
  · have d_1 := i_lt rfl (show (0 : Int32).toInt = 0 from by decide) c_1
    refine lv_iconst (v := (-1)) hx hb dX7_byteAt_34 (by decide) ?_
    rw [hQm]
    exact mx_iret (u0 := sX7_byteAt k p_len p_bytes) (rv := (fun u => some (.int u))) (w1 := (fun _ => tpW U cB p_len p_bytes ++ R)) (u := ((-1))) hx hb hr hlocks hK hS ((if_pos c_1).trans rfl) hP hD rfl dX7_byteAt_35
  · have d_1 := i_ltn rfl (show (0 : Int32).toInt = 0 from by decide) c_1
    refine lv_iload_n hx hb dX7_byteAt_4 rfl (lv_at hl 1 rfl) ?_
    refine lv_aload_n hx hb dX7_byteAt_5 rfl (lv_at hl 0 rfl) ?_
    refine va_get (D := D) (ci := 6) (v := .int p_len) (C := RX7) (T := TX7) (N := 2) hx hb hts iX7 hown hK hP 0 rfl rfl 1 (by decide) k13 (fun _ h9 => h9) rfl dX7_byteAt_6 ?_
    refine lv_icmp_ge (tgt := 34) hx hb dX7_byteAt_9 (by decide) (fun c_2 => ?_) (fun c_2 => ?_)
    · have d_2 := i_le rfl rfl c_2
      refine lv_iconst (v := (-1)) hx hb dX7_byteAt_34 (by decide) ?_
      rw [hQm]
      exact mx_iret (u0 := sX7_byteAt k p_len p_bytes) (rv := (fun u => some (.int u))) (w1 := (fun _ => tpW U cB p_len p_bytes ++ R)) (u := ((-1))) hx hb hr hlocks hK hS ((if_neg c_1).trans ((if_pos c_2).trans rfl)) hP hD rfl dX7_byteAt_35
    · have d_2 := i_len rfl rfl c_2
      refine lv_iload_n hx hb dX7_byteAt_12 rfl (lv_at hl 1 rfl) ?_
      refine lv_aload_n hx hb dX7_byteAt_13 rfl (lv_at hl 0 rfl) ?_
      refine va_get (D := D) (ci := 6) (v := .ref (U 1)) (C := RX7) (T := TX7) (N := 2) hx hb hts iX7 hown hK hP 0 rfl rfl 0 (by decide) k9 (fun _ h9 => h9) rfl dX7_byteAt_14 ?_
      refine va_alen (v := 400) hx hb hK hP 1 1 rfl rfl rfl dX7_byteAt_17 ?_
      refine lv_icmp_ge (tgt := 34) hx hb dX7_byteAt_18 (by decide) (fun c_3 => ?_) (fun c_3 => ?_)
      · have d_3 := i_le (show (400 : Int32).toInt = 400 from by decide) rfl c_3
        refine lv_iconst (v := (-1)) hx hb dX7_byteAt_34 (by decide) ?_
        rw [hQm]
        exact mx_iret (u0 := sX7_byteAt k p_len p_bytes) (rv := (fun u => some (.int u))) (w1 := (fun _ => tpW U cB p_len p_bytes ++ R)) (u := ((-1))) hx hb hr hlocks hK hS ((if_neg c_1).trans ((if_neg c_2).trans ((if_pos c_3).trans rfl))) hP hD rfl dX7_byteAt_35
      · have d_3 := i_len (show (400 : Int32).toInt = 400 from by decide) rfl c_3
        refine lv_aload_n hx hb dX7_byteAt_21 rfl (lv_at hl 0 rfl) ?_
        refine va_get (D := D) (ci := 6) (v := .ref (U 1)) (C := RX7) (T := TX7) (N := 2) hx hb hts iX7 hown hK hP 0 rfl rfl 0 (by decide) k9 (fun _ h9 => h9) rfl dX7_byteAt_22 ?_
        refine lv_iload_n hx hb dX7_byteAt_25 rfl (lv_at hl 1 rfl) ?_
        have q_4 : vp_in k 400 := vp_in_iff.mpr ⟨by omega, by omega⟩
        refine va_bald hx hb hK hP 1 1 rfl rfl q_4 dX7_byteAt_26 ?_
        refine lv_sipush (v := 255) hx hb dX7_byteAt_27 (by decide) ?_
        refine lv_iand hx hb dX7_byteAt_30 ?_
        refine lv_goto (tgt := 35) hx hb dX7_byteAt_31 (by decide) ?_
        rw [hQm]
        exact mx_iret (u0 := sX7_byteAt k p_len p_bytes) (rv := (fun u => some (.int u))) (w1 := (fun _ => tpW U cB p_len p_bytes ++ R)) (u := ((p_bytes k.toNatClampNeg) &&& 255)) hx hb hr hlocks hK hS ((if_neg c_1).trans ((if_neg c_2).trans ((if_neg c_3).trans rfl))) hP hD rfl dX7_byteAt_35

def lX7_append_5 (v : Int64) : Nat → Int32 → Int32 → (Nat → Int32) → Int32 × Int32 × (Nat → Int32)
  | 0, x4_5, p_len_5, p_bytes_5 => (x4_5, p_len_5, p_bytes_5)
  | n + 1, x4_5, p_len_5, p_bytes_5 => if x4_5 < 0 then ((x4_5, p_len_5, p_bytes_5)) else (if 400 ≤ p_len_5 then ((x4_5, p_len_5, p_bytes_5)) else (lt (((v >>> ((8 * x4_5).toInt64 &&& 63)).toInt32).toInt8.toInt32) (fun x_4 : Int32 => lt (upd p_bytes_5 p_len_5.toNatClampNeg (vp_nar .byte x_4)) (fun ar_6 : Nat → Int32 => lt (x4_5 + (-1)) (fun x_7 : Int32 => lX7_append_5 v n x_7 (p_len_5 + 1) ar_6)))))

def sX7_append (v : Int64) (nn : Int32) (p_len : Int32) (p_bytes : Nat → Int32) : (Int32) × (Nat → Int32) := lt (nn - 1) (fun x_1 : Int32 => lt (lX7_append_5 v 10 x_1 p_len p_bytes) (fun u_8 : Int32 × Int32 × (Nat → Int32) => (u_8.2.1, u_8.2.2)))
set_option maxHeartbeats 4000000 in
set_option maxRecDepth 100000 in
theorem mtX7_append (l : Launch) (D : va_G) (cI cB cK cS : ClassId) (U : Nat → Nat) (R : va_W) (p_len : Int32) (p_bytes : Nat → Int32) (v : Int64) (nn : Int32) (hn0 : 0 ≤ nn.toInt) (hn8 : nn.toInt ≤ 8) (hl0 : 0 ≤ p_len.toInt) (hl1 : p_len.toInt ≤ 400) : MX l yX7_append wsX7_append (rmX 1) D (tyX cI cB cK cS) pF0 (tpW U cB p_len p_bytes ++ R) [.ref (U 0), .long v, .int nn] (sX7_append v nn p_len p_bytes) (fun _ => none) (fun u => tpW U cB u.1 u.2 ++ R) := by
  refine mx_intro (cc := cX7_append) (maxL := 5) (ret := none) (by decide) rfl (Nat.le_of_ble_eq_true rfl) ?_
  intro p e s m below meth c A ls H locs Qm hQm hx hb hr hml hts hown hlocks hA hS hP hK hD hF hl
  have hown : s.vm.findClass RX7 = some m.cls := hown
  have hl : lv_has ls 5 [(0, .ref (U 0)), (1, .long v), (3, .int nn)] := hl
  have k13 := hts (.fieldLink RX7 13 "PigRounds$Tape" "length" "I") (by decide +kernel)
  have k9 := hts (.fieldLink RX7 9 "PigRounds$Tape" "bytes" "[B") (by decide +kernel)
  have iX7 : ∀ w ∈ u_ws RX7 TX7 2, w ∈ wsX7_append := by decide +kernel
  refine lv_iload_n hx hb dX7_append_0 rfl (lv_at hl 2 rfl) ?_
  refine lv_iconst (v := 1) hx hb dX7_append_1 (by decide) ?_
  refine lv_isub hx hb dX7_append_2 ?_
  refine lv_topi (fun x_1 ex_1 => ?_)
  refine lv_istore (lv' := [(4, .int x_1), (0, .ref (U 0)), (1, .long v), (3, .int nn)]) hx hb dX7_append_3 hl (by decide) rfl (fun ls hl => ?_)
  have L_5 : ∀ (n : Nat) (x4_5 : Int32) (p_len_5 : Int32) (p_bytes_5 : Nat → Int32) (H : Heap) (locs : List Loc) (ls : Array Slot), -1 ≤ x4_5.toInt → x4_5.toInt ≤ 7 → 0 ≤ p_len_5.toInt → p_len_5.toInt ≤ 400 → x4_5.toInt + 1 < ((n : Nat) : Int) → va_P D vwCl (tpW U cB p_len_5 p_bytes_5 ++ R) H → va_D A (tpW U cB p_len_5 p_bytes_5 ++ R) → va_S A s.heap H locs → lv_has ls 5 [(4, .int x4_5), (0, .ref (U 0)), (1, .long v)] → (∀ (u : Int32 × Int32 × (Nat → Int32)) (H : Heap) (locs : List Loc) (ls : Array Slot), u = lX7_append_5 v n x4_5 p_len_5 p_bytes_5 → va_P D vwCl (tpW U cB u.2.1 u.2.2 ++ R) H → va_D A (tpW U cB u.2.1 u.2.2 ++ R) → va_S A s.heap H locs → lv_has ls 5 [] → W p l e (rmX 1) s m ([.ref (U 0), .long v, .int nn] : List Value).toArray below meth c H locs 0 0 Qm (F0 m 56 ls [])) → W p l e (rmX 1) s m ([.ref (U 0), .long v, .int nn] : List Value).toArray below meth c H locs 0 0 Qm (F0 m 5 ls []) := by
    intro n
    induction n with
    | zero =>
      intro x4_5 p_len_5 p_bytes_5 H locs ls iv_5_0 iv_5_1 iv_5_2 iv_5_3 iv_5_4 hP hD hS hl kont_5
      exfalso; omega
    | succ n ih_5 =>
      intro x4_5 p_len_5 p_bytes_5 H locs ls iv_5_0 iv_5_1 iv_5_2 iv_5_3 iv_5_4 hP hD hS hl kont_5
      refine lv_iload hx hb dX7_append_5 (lv_at hl 0 rfl) ?_
      refine lv_if_lt (tgt := 56) hx hb dX7_append_7 (by decide) (fun c_2 => ?_) (fun c_2 => ?_)
      · have d_2 := i_lt rfl (show (0 : Int32).toInt = 0 from by decide) c_2
        exact kont_5 (x4_5, p_len_5, p_bytes_5) H locs ls (show lX7_append_5 v (n + 1) x4_5 p_len_5 p_bytes_5 = (x4_5, p_len_5, p_bytes_5) from ((if_pos c_2).trans rfl)).symm  hP hD hS (lv_sub hl [] rfl)
      · have d_2 := i_ltn rfl (show (0 : Int32).toInt = 0 from by decide) c_2
        refine lv_aload_n hx hb dX7_append_10 rfl (lv_at hl 1 rfl) ?_
        refine va_get (D := D) (ci := 6) (v := .int p_len_5) (C := RX7) (T := TX7) (N := 2) hx hb hts iX7 hown hK hP 0 rfl rfl 1 (by decide) k13 (fun _ h9 => h9) rfl dX7_append_11 ?_
        refine lv_aload_n hx hb dX7_append_14 rfl (lv_at hl 1 rfl) ?_
        refine va_get (D := D) (ci := 6) (v := .ref (U 1)) (C := RX7) (T := TX7) (N := 2) hx hb hts iX7 hown hK hP 0 rfl rfl 0 (by decide) k9 (fun _ h9 => h9) rfl dX7_append_15 ?_
        refine va_alen (v := 400) hx hb hK hP 1 1 rfl rfl rfl dX7_append_18 ?_
        refine lv_icmp_ge (tgt := 56) hx hb dX7_append_19 (by decide) (fun c_3 => ?_) (fun c_3 => ?_)
        · have d_3 := i_le (show (400 : Int32).toInt = 400 from by decide) rfl c_3
          exact kont_5 (x4_5, p_len_5, p_bytes_5) H locs ls (show lX7_append_5 v (n + 1) x4_5 p_len_5 p_bytes_5 = (x4_5, p_len_5, p_bytes_5) from ((if_neg c_2).trans ((if_pos c_3).trans rfl))).symm  hP hD hS (lv_sub hl [] rfl)
        · have d_3 := i_len (show (400 : Int32).toInt = 400 from by decide) rfl c_3
          refine lv_aload_n hx hb dX7_append_22 rfl (lv_at hl 1 rfl) ?_
          refine va_get (D := D) (ci := 6) (v := .ref (U 1)) (C := RX7) (T := TX7) (N := 2) hx hb hts iX7 hown hK hP 0 rfl rfl 0 (by decide) k9 (fun _ h9 => h9) rfl dX7_append_23 ?_
          refine lv_aload_n hx hb dX7_append_26 rfl (lv_at hl 1 rfl) ?_
          refine va_get (D := D) (ci := 6) (v := .int p_len_5) (C := RX7) (T := TX7) (N := 2) hx hb hts iX7 hown hK hP 0 rfl rfl 1 (by decide) k13 (fun _ h9 => h9) rfl dX7_append_27 ?_
          refine lv_lload_n hx hb dX7_append_30 rfl (lv_at hl 2 rfl) ?_
          refine lv_bipush (v := 8) hx hb dX7_append_31 (by decide) ?_
          refine lv_iload hx hb dX7_append_33 (lv_at hl 0 rfl) ?_
          refine lv_imul hx hb dX7_append_35 ?_
          refine lv_lshr (v := v >>> ((8 * x4_5).toInt64 &&& 63)) hx hb dX7_append_36 rfl ?_
          refine lv_l2i (v := (v >>> ((8 * x4_5).toInt64 &&& 63)).toInt32) hx hb dX7_append_37 rfl ?_
          refine lv_i2b (v := ((v >>> ((8 * x4_5).toInt64 &&& 63)).toInt32).toInt8.toInt32) hx hb dX7_append_38 rfl ?_
          refine lv_topi (fun x_4 ex_4 => ?_)
          have q_5 : vp_in p_len_5 400 := vp_in_iff.mpr ⟨by omega, by omega⟩
          refine va_bast hx hb hK hP hD hS 1 1 rfl rfl q_5 dX7_append_39 (fun H locs hP hD hS => ?_)
          obtain ⟨ar_6, ear_6⟩ : ∃ z : Nat → Int32, z = upd p_bytes_5 p_len_5.toNatClampNeg (vp_nar .byte x_4) := ⟨_, rfl⟩
          have hP : va_P D vwCl (tpW U cB p_len_5 (upd p_bytes_5 p_len_5.toNatClampNeg (vp_nar .byte x_4)) ++ R) H := hP
          have hD : va_D A (tpW U cB p_len_5 (upd p_bytes_5 p_len_5.toNatClampNeg (vp_nar .byte x_4)) ++ R) := hD
          rw [← ear_6] at hP hD
          have hP : va_P D vwCl (tpW U cB p_len_5 ar_6 ++ R) H := hP
          have hD : va_D A (tpW U cB p_len_5 ar_6 ++ R) := hD
          refine lv_aload_n hx hb dX7_append_40 rfl (lv_at hl 1 rfl) ?_
          refine lv_dup hx hb dX7_append_41 rfl ?_
          refine va_get (D := D) (ci := 6) (v := .int p_len_5) (C := RX7) (T := TX7) (N := 2) hx hb hts iX7 hown hK hP 0 rfl rfl 1 (by decide) k13 (fun _ h9 => h9) rfl dX7_append_42 ?_
          refine lv_iconst (v := 1) hx hb dX7_append_45 (by decide) ?_
          refine lv_iadd hx hb dX7_append_46 ?_
          refine va_put (D := D) (ci := 6) (v := .int (p_len_5 + 1)) (ty := .int) (C := RX7) (T := TX7) (N := 2) hx hb hts iX7 tyX7 tyX7_ok nmX7 hown hK hP hD hS 0 rfl rfl 1 (by decide) k13 (fun _ h9 => h9) rfl (by decide +kernel) rfl rfl (Nat.le_of_ble_eq_true rfl) dX7_append_47 (fun H locs hP hD hS => ?_)
          have hP : va_P D vwCl (tpW U cB (p_len_5 + 1) ar_6 ++ R) H := hP
          have hD : va_D A (tpW U cB (p_len_5 + 1) ar_6 ++ R) := hD
          obtain ⟨x_7, ex_7⟩ : ∃ z : Int32, z = x4_5 + (-1) := ⟨_, rfl⟩
          refine lv_iinc (v := x_7) (lv' := [(4, .int x_7), (0, .ref (U 0)), (1, .long v)]) hx hb dX7_append_50 hl (k := 0) rfl (by rw [ex_7]; rfl) (by decide) rfl (fun ls hl => ?_)
          refine lv_goto (tgt := 5) hx hb dX7_append_53 (by decide) ?_
          have tf_t : (p_len_5 + 1).toInt = p_len_5.toInt + 1 := i_addv rfl (show (1 : Int32).toInt = 1 from by decide) (by omega) (by omega)
          try have tx_7 : x_7.toInt = x4_5.toInt + -1 := i_inc ex_7 (by decide) (by omega) (by omega)
          refine ih_5 x_7 (p_len_5 + 1) ar_6 H locs ls (by first | omega | assumption) (by first | omega | assumption) (by first | omega | assumption) (by first | omega | assumption) (by first | omega | assumption) hP hD hS (lv_sub hl [0, 1, 2] rfl) (fun u H locs ls eu  hP hD hS hl => ?_)
          exact kont_5 u H locs ls (eu.trans (show lX7_append_5 v (n + 1) x4_5 p_len_5 p_bytes_5 = lX7_append_5 v n x_7 (p_len_5 + 1) ar_6 from ((if_neg c_2).trans ((if_neg c_3).trans (lt_eq ex_4 (lt_eq ear_6 (lt_eq ex_7 rfl)))))).symm)  hP hD hS hl
  refine L_5 10 x_1 p_len p_bytes H locs ls (by have t := (show x_1.toInt = nn.toInt - 1 from by rw [ex_1]; exact i_subv rfl (show (1 : Int32).toInt = 1 from by decide) (by omega) (by omega)); omega) (by have t := (show x_1.toInt = nn.toInt - 1 from by rw [ex_1]; exact i_subv rfl (show (1 : Int32).toInt = 1 from by decide) (by omega) (by omega)); omega) (by have t := (show x_1.toInt = nn.toInt - 1 from by rw [ex_1]; exact i_subv rfl (show (1 : Int32).toInt = 1 from by decide) (by omega) (by omega)); omega) (by have t := (show x_1.toInt = nn.toInt - 1 from by rw [ex_1]; exact i_subv rfl (show (1 : Int32).toInt = 1 from by decide) (by omega) (by omega)); omega) (by have t := (show x_1.toInt = nn.toInt - 1 from by rw [ex_1]; exact i_subv rfl (show (1 : Int32).toInt = 1 from by decide) (by omega) (by omega)); omega) hP hD hS (lv_sub hl [0, 1, 2] rfl) (fun u_8 H locs ls eu_8  hP hD hS hl => ?_)
  have hP : va_P D vwCl (tpW U cB u_8.2.1 u_8.2.2 ++ R) H := hP
  have hD : va_D A (tpW U cB u_8.2.1 u_8.2.2 ++ R) := hD
  rw [hQm]
  exact mx_vret (u0 := sX7_append v nn p_len p_bytes) (rv := (fun _ => none)) (w1 := (fun u => tpW U cB u.1 u.2 ++ R)) (u := (u_8.2.1, u_8.2.2)) hx hb hr hlocks hK hS (lt_eq ex_1 (lt_eq eu_8 rfl)) hP hD rfl dX7_append_56
