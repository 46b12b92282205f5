/-- the reference: Y 0 itself, Y k its row in field k -/
def mdW (Y : Nat → Nat) (cI : ClassId) (m_thrown : Int32) (m_status : Int32) (m_isThere : Int32) (m_kinds : Int32) (m_newKinds : Int32) (m_print : Int32) (m_low : Int32) (m_high : Int32) (m_lot : Int32) (m_taped : Int32) (m_latest : Int32) (m_length : Int32) (m_cursor : Int32) (m_token : Int32) (m_from : Int32) (m_till : Int32) (m_fault : Int32) (m_faultAt : Int32) (m_traced : Int32) (r_lane : Nat → Int32) (r_many : Nat → Int32) (r_item : Nat → Int32) (r_market : Nat → Int32) (r_of : Nat → Int32) (r_newMarket : Nat → Int32) (r_newStart : Nat → Int32) (r_newOf : Nat → Int32) (r_newCoin : Nat → Int32) (r_state : Nat → Int32) (r_kept : Nat → Int32) (r_tape : Nat → Int32) (r_brings : Nat → Int32) (r_seen : Nat → Int32) (r_seenOut : Nat → Int32) (r_trace : Nat → Int32) : va_W :=
  [(Y 0, .inr (9, [.int m_thrown, .int m_status, .ref (Y 2), .ref (Y 3), .ref (Y 4), .int m_isThere, .int m_kinds, .ref (Y 7), .ref (Y 8), .int m_newKinds, .ref (Y 10), .ref (Y 11), .ref (Y 12), .ref (Y 13), .ref (Y 14), .ref (Y 15), .int m_print, .int m_low, .int m_high, .int m_lot, .ref (Y 20), .int m_taped, .int m_latest, .int m_length, .int m_cursor, .int m_token, .int m_from, .int m_till, .int m_fault, .int m_faultAt, .ref (Y 30), .ref (Y 31), .ref (Y 32), .ref (Y 33), .int m_traced])),
   (Y 2, .inl (cI, 8, .inl r_lane)),
   (Y 3, .inl (cI, 8, .inl r_many)),
   (Y 4, .inl (cI, 480, .inl r_item)),
   (Y 7, .inl (cI, 3, .inl r_market)),
   (Y 8, .inl (cI, 30, .inl r_of)),
   (Y 10, .inl (cI, 3, .inl r_newMarket)),
   (Y 11, .inl (cI, 3, .inl r_newStart)),
   (Y 12, .inl (cI, 30, .inl r_newOf)),
   (Y 13, .inl (cI, 5, .inl r_newCoin)),
   (Y 14, .inl (cI, 17, .inl r_state)),
   (Y 15, .inl (cI, 17, .inl r_kept)),
   (Y 20, .inl (cI, 400, .inl r_tape)),
   (Y 30, .inl (cI, 5, .inl r_brings)),
   (Y 31, .inl (cI, 61, .inl r_seen)),
   (Y 32, .inl (cI, 61, .inl r_seenOut)),
   (Y 33, .inl (cI, 16, .inl r_trace))]
theorem i_addv {a b : Int32} {x y : Int} (ha : a.toInt = x) (hb : b.toInt = y) (h1 : -2147483648 ≤ x + y) (h2 : x + y < 2147483648) : (a + b).toInt = x + y := by
  subst ha; subst hb; rw [Int32.toInt_add]; exact Int.bmod_eq_of_le (by omega) (by omega)
theorem i_subv {a b : Int32} {x y : Int} (ha : a.toInt = x) (hb : b.toInt = y) (h1 : -2147483648 ≤ x - y) (h2 : x - y < 2147483648) : (a - b).toInt = x - y := by
  subst ha; subst hb; rw [Int32.toInt_sub]; exact Int.bmod_eq_of_le (by omega) (by omega)
theorem i_mulv {a b : Int32} {x y : Int} (ha : a.toInt = x) (hb : b.toInt = y) (h1 : -2147483648 ≤ x * y) (h2 : x * y < 2147483648) : (a * b).toInt = x * y := by
  subst ha; subst hb; rw [Int32.toInt_mul]; exact Int.bmod_eq_of_le (by simpa using h1) (by simpa using h2)
theorem zc_lt {a b : Int64} : lg_cmp a b < 0 ↔ a < b := by
  unfold lg_cmp
  rcases Classical.em (b < a) with h | h
  · have := lg_lt_not h; simp [h, this]
  · rcases Classical.em (a = b) with h2 | h2
    · subst h2; simp [h]
    · have h3 : a < b := by
        simp only [Int64.lt_iff_toInt_lt, ← Int64.toInt_inj] at *
        omega
      simp [h, h2, h3]
theorem zc_gt {a b : Int64} : 0 < lg_cmp a b ↔ b < a := by
  unfold lg_cmp
  rcases Classical.em (b < a) with h | h
  · simp [h]
  · rcases Classical.em (a = b) with h2 | h2
    · subst h2; simp [h]
    · simp [h, h2]
theorem zc_eq {a b : Int64} : lg_cmp a b = 0 ↔ a = b := by
  unfold lg_cmp
  rcases Classical.em (b < a) with h | h
  · have := lg_lt_ne h; simp [h, Ne.symm this]
  · rcases Classical.em (a = b) with h2 | h2
    · subst h2; simp [h]
    · simp [h, h2]
def sX11_between (v : Int32) (lo : Int32) (hi : Int32) : Int32 := if lo ≤ v then (if v ≤ hi then ((v)) else ((hi))) else ((lo))
set_option maxHeartbeats 4000000 in
set_option maxRecDepth 100000 in
theorem mtX11_between (l : Launch) (D : va_G) (cI cB cK cS : ClassId) (ws : va_W)  (v : Int32) (lo : Int32) (hi : Int32) : MX l yX11_between wsX11_between (rmX 1) D (tyX cI cB cK cS) pF0 (ws) [.int v, .int lo, .int hi] (sX11_between v lo hi) (fun u => some (.int u)) (fun _ => ws) := by
  refine mx_intro (cc := cX11_between) (maxL := 3) (ret := (some .int)) (by decide) rfl (Nat.le_of_ble_eq_true rfl) ?_
  intro p e s m below meth c A ls H locs Qm hQm hx hb hr hml hts hown hlocks hA hS hP hK hD hF hl
  have hown : s.vm.findClass RX11 = some m.cls := hown
  have hl : lv_has ls 3 [(0, .int v), (1, .int lo), (2, .int hi)] := hl
  refine lv_iload_n hx hb dX11_between_0 rfl (lv_at hl 0 rfl) ?_
  refine lv_iload_n hx hb dX11_between_1 rfl (lv_at hl 1 rfl) ?_
  refine lv_icmp_ge (tgt := 9) hx hb dX11_between_2 (by decide) (fun c_1 => ?_) (fun c_1 => ?_)
  · refine lv_iload_n hx hb dX11_between_9 rfl (lv_at hl 0 rfl) ?_
    refine lv_iload_n hx hb dX11_between_10 rfl (lv_at hl 2 rfl) ?_
    refine lv_icmp_le (tgt := 18) hx hb dX11_between_11 (by decide) (fun c_2 => ?_) (fun c_2 => ?_)
    · refine lv_iload_n hx hb dX11_between_18 rfl (lv_at hl 0 rfl) ?_
      rw [hQm]
      exact mx_iret (u0 := sX11_between v lo hi) (rv := (fun u => some (.int u))) (w1 := (fun _ => ws)) (u := (v)) hx hb hr hlocks hK hS ((if_pos c_1).trans ((if_pos c_2).trans rfl)) hP hD rfl dX11_between_19
    · refine lv_iload_n hx hb dX11_between_14 rfl (lv_at hl 2 rfl) ?_
      refine lv_goto (tgt := 19) hx hb dX11_between_15 (by decide) ?_
      rw [hQm]
      exact mx_iret (u0 := sX11_between v lo hi) (rv := (fun u => some (.int u))) (w1 := (fun _ => ws)) (u := (hi)) hx hb hr hlocks hK hS ((if_pos c_1).trans ((if_neg c_2).trans rfl)) hP hD rfl dX11_between_19
  · refine lv_iload_n hx hb dX11_between_5 rfl (lv_at hl 1 rfl) ?_
    refine lv_goto (tgt := 19) hx hb dX11_between_6 (by decide) ?_
    rw [hQm]
    exact mx_iret (u0 := sX11_between v lo hi) (rv := (fun u => some (.int u))) (w1 := (fun _ => ws)) (u := (lo)) hx hb hr hlocks hK hS ((if_neg c_1).trans rfl) hP hD rfl dX11_between_19

def sX11_guessBy (way : Int32) (k : Int32) (a : Int32) (b : Int32) (d : Int32) : Int32 := lt (if way = 2 then (lt (if k = 1 then (a) else (if k = 2 then (((a + b) / 2)) else ((((a + b) + d) / 3)))) (fun y_7 : Int32 => y_7)) else (if way = 3 then (lt (a + (((a - b) * k) / 10)) (fun x_6 : Int32 => x_6)) else (if way = 4 then (lt ((2 * (((a + b) + d) / 3)) - a) (fun x_5 : Int32 => x_5)) else (a)))) (fun y_1 : Int32 => lt (sX11_between y_1 0 99) (fun u_10 : Int32 => (u_10)))
set_option maxHeartbeats 4000000 in
set_option maxRecDepth 100000 in
theorem mtX11_guessBy (l : Launch) (D : va_G) (cI cB cK cS : ClassId) (ws : va_W)  (way : Int32) (k : Int32) (a : Int32) (b : Int32) (d : Int32) : MX l yX11_guessBy wsX11_guessBy (rmX 2) D (tyX cI cB cK cS) pF0 (ws) [.int way, .int k, .int a, .int b, .int d] (sX11_guessBy way k a b d) (fun u => some (.int u)) (fun _ => ws) := by
  refine mx_intro (cc := cX11_guessBy) (maxL := 6) (ret := (some .int)) (by decide) rfl (Nat.le_of_ble_eq_true rfl) ?_
  intro p e s m below meth c A ls H locs Qm hQm hx hb hr hml hts hown hlocks hA hS hP hK hD hF hl
  have hown : s.vm.findClass RX11 = some m.cls := hown
  have hl : lv_has ls 6 [(0, .int way), (1, .int k), (2, .int a), (3, .int b), (4, .int d)] := hl
  refine lv_iload_n hx hb dX11_guessBy_0 rfl (lv_at hl 2 rfl) ?_
  refine lv_istore (lv' := [(5, .int a), (0, .int way), (1, .int k), (2, .int a), (3, .int b), (4, .int d)]) hx hb dX11_guessBy_1 hl (by decide) rfl (fun ls hl => ?_)
  refine lv_iload_n hx hb dX11_guessBy_3 rfl (lv_at hl 1 rfl) ?_
  refine lv_iconst (v := 2) hx hb dX11_guessBy_4 (by decide) ?_
  have J_1 : ∀ (y_1 : Int32) (H : Heap) (locs : List Loc) (ls : Array Slot), y_1 = (if way = 2 then (lt (if k = 1 then (a) else (if k = 2 then (((a + b) / 2)) else ((((a + b) + d) / 3)))) (fun y_7 : Int32 => y_7)) else (if way = 3 then (lt (a + (((a - b) * k) / 10)) (fun x_6 : Int32 => x_6)) else (if way = 4 then (lt ((2 * (((a + b) + d) / 3)) - a) (fun x_5 : Int32 => x_5)) else (a)))) → va_P D vwCl (ws) H → va_D A (ws) → va_S A s.heap H locs → lv_has ls 6 [(5, .int y_1)] → W p l e (rmX 2) s m ([.int way, .int k, .int a, .int b, .int d] : List Value).toArray below meth c H locs 0 0 Qm (F0 m 82 ls []) := by
    intro y_1 H locs ls ey_1 hP hD hS hl
    refine lv_iload hx hb dX11_guessBy_82 (lv_at hl 0 rfl) ?_
    refine lv_iconst (v := 0) hx hb dX11_guessBy_84 (by decide) ?_
    refine lv_bipush (v := 99) hx hb dX11_guessBy_85 (by decide) ?_
    refine mx_callS (As := [.int y_1, .int 0, .int 99]) (rest := []) ⟨hx, hb, hml, hown, hts⟩ (mtX11_between l D cI cB cK cS (ws) y_1 0 99) (va_cwS 3 hts gX11_guessBy_X11_between rfl rfl rfl (by decide +kernel) ⟨Nat.le_of_ble_eq_true rfl, Nat.le_of_ble_eq_true rfl⟩) pF0_ok trivial hK hP hD hS hA rfl hl.1 rfl (Nat.le_of_ble_eq_true rfl) dX11_guessBy_87 ⟨Nat.le_refl _, Nat.le_refl _⟩ (fun u_10 H locs eu_10 hP hD hS => ?_)
    refine W.eq (g2 := F0 m 90 ls [.int u_10]) rfl ?_
    have hP : va_P D vwCl (ws) H := hP
    have hD : va_D A (ws) := hD
    rw [hQm]
    exact mx_iret (u0 := sX11_guessBy way k a b d) (rv := (fun u => some (.int u))) (w1 := (fun _ => ws)) (u := (u_10)) hx hb hr hlocks hK hS (lt_eq ey_1 (lt_eq eu_10 rfl)) hP hD rfl dX11_guessBy_90
  refine lv_icmp_ne (tgt := 43) hx hb dX11_guessBy_5 (by decide) (fun c_2 => ?_) (fun c_2 => ?_)
  · refine lv_iload_n hx hb dX11_guessBy_43 rfl (lv_at hl 1 rfl) ?_
    refine lv_iconst (v := 3) hx hb dX11_guessBy_44 (by decide) ?_
    refine lv_icmp_ne (tgt := 63) hx hb dX11_guessBy_45 (by decide) (fun c_3 => ?_) (fun c_3 => ?_)
    · refine lv_iload_n hx hb dX11_guessBy_63 rfl (lv_at hl 1 rfl) ?_
      refine lv_iconst (v := 4) hx hb dX11_guessBy_64 (by decide) ?_
      refine lv_icmp_ne (tgt := 82) hx hb dX11_guessBy_65 (by decide) (fun c_4 => ?_) (fun c_4 => ?_)
      · exact J_1 a H locs ls (Eq.symm ((if_neg c_2).trans ((if_neg c_3).trans ((if_neg c_4).trans rfl)))) hP hD hS (lv_sub hl [0] rfl)
      · refine lv_iconst (v := 2) hx hb dX11_guessBy_68 (by decide) ?_
        refine lv_iload_n hx hb dX11_guessBy_69 rfl (lv_at hl 3 rfl) ?_
        refine lv_iload_n hx hb dX11_guessBy_70 rfl (lv_at hl 4 rfl) ?_
        refine lv_iadd hx hb dX11_guessBy_71 ?_
        refine lv_iload hx hb dX11_guessBy_72 (lv_at hl 5 rfl) ?_
        refine lv_iadd hx hb dX11_guessBy_74 ?_
        refine lv_iconst (v := 3) hx hb dX11_guessBy_75 (by decide) ?_
        refine lv_idiv hx hb dX11_guessBy_76 (by decide) ?_
        refine lv_imul hx hb dX11_guessBy_77 ?_
        refine lv_iload_n hx hb dX11_guessBy_78 rfl (lv_at hl 3 rfl) ?_
        refine lv_isub hx hb dX11_guessBy_79 ?_
        refine lv_topi (fun x_5 ex_5 => ?_)
        refine lv_istore (lv' := [(5, .int x_5), (0, .int way), (1, .int k), (2, .int a), (3, .int b), (4, .int d)]) hx hb dX11_guessBy_80 hl (by decide) rfl (fun ls hl => ?_)
        exact J_1 x_5 H locs ls (Eq.symm ((if_neg c_2).trans ((if_neg c_3).trans ((if_pos c_4).trans (lt_eq ex_5 rfl))))) hP hD hS (lv_sub hl [0] rfl)
    · refine lv_iload_n hx hb dX11_guessBy_48 rfl (lv_at hl 3 rfl) ?_
      refine lv_iload_n hx hb dX11_guessBy_49 rfl (lv_at hl 3 rfl) ?_
      refine lv_iload_n hx hb dX11_guessBy_50 rfl (lv_at hl 4 rfl) ?_
      refine lv_isub hx hb dX11_guessBy_51 ?_
      refine lv_iload_n hx hb dX11_guessBy_52 rfl (lv_at hl 2 rfl) ?_
      refine lv_imul hx hb dX11_guessBy_53 ?_
      refine lv_bipush (v := 10) hx hb dX11_guessBy_54 (by decide) ?_
      refine lv_idiv hx hb dX11_guessBy_56 (by decide) ?_
      refine lv_iadd hx hb dX11_guessBy_57 ?_
      refine lv_topi (fun x_6 ex_6 => ?_)
      refine lv_istore (lv' := [(5, .int x_6), (0, .int way), (1, .int k), (2, .int a), (3, .int b), (4, .int d)]) hx hb dX11_guessBy_58 hl (by decide) rfl (fun ls hl => ?_)
      refine lv_goto (tgt := 82) hx hb dX11_guessBy_60 (by decide) ?_
      exact J_1 x_6 H locs ls (Eq.symm ((if_neg c_2).trans ((if_pos c_3).trans (lt_eq ex_6 rfl)))) hP hD hS (lv_sub hl [0] rfl)
  · refine lv_iload_n hx hb dX11_guessBy_8 rfl (lv_at hl 2 rfl) ?_
    refine lv_iconst (v := 1) hx hb dX11_guessBy_9 (by decide) ?_
    have J_7 : ∀ (y_7 : Int32) (H : Heap) (locs : List Loc) (ls : Array Slot), y_7 = (if k = 1 then (a) else (if k = 2 then (((a + b) / 2)) else ((((a + b) + d) / 3)))) → va_P D vwCl (ws) H → va_D A (ws) → va_S A s.heap H locs → lv_has ls 6 [] → W p l e (rmX 2) s m ([.int way, .int k, .int a, .int b, .int d] : List Value).toArray below meth c H locs 0 0 Qm (F0 m 38 ls [.int y_7]) := by
      intro y_7 H locs ls ey_7 hP hD hS hl
      refine lv_istore (lv' := [(5, .int y_7)]) hx hb dX11_guessBy_38 hl (by decide) rfl (fun ls hl => ?_)
      refine lv_goto (tgt := 82) hx hb dX11_guessBy_40 (by decide) ?_
      exact J_1 y_7 H locs ls (Eq.symm ((if_pos c_2).trans (lt_eq ey_7 rfl))) hP hD hS (lv_sub hl [0] rfl)
    refine lv_icmp_ne (tgt := 17) hx hb dX11_guessBy_10 (by decide) (fun c_8 => ?_) (fun c_8 => ?_)
    · refine lv_iload_n hx hb dX11_guessBy_17 rfl (lv_at hl 2 rfl) ?_
      refine lv_iconst (v := 2) hx hb dX11_guessBy_18 (by decide) ?_
      refine lv_icmp_ne (tgt := 30) hx hb dX11_guessBy_19 (by decide) (fun c_9 => ?_) (fun c_9 => ?_)
      · refine lv_iload_n hx hb dX11_guessBy_30 rfl (lv_at hl 3 rfl) ?_
        refine lv_iload_n hx hb dX11_guessBy_31 rfl (lv_at hl 4 rfl) ?_
        refine lv_iadd hx hb dX11_guessBy_32 ?_
        refine lv_iload hx hb dX11_guessBy_33 (lv_at hl 5 rfl) ?_
        refine lv_iadd hx hb dX11_guessBy_35 ?_
        refine lv_iconst (v := 3) hx hb dX11_guessBy_36 (by decide) ?_
        refine lv_idiv hx hb dX11_guessBy_37 (by decide) ?_
        exact J_7 (((a + b) + d) / 3) H locs ls (Eq.symm ((if_neg c_8).trans ((if_neg c_9).trans rfl))) hP hD hS (lv_sub hl [] rfl)
      · refine lv_iload_n hx hb dX11_guessBy_22 rfl (lv_at hl 3 rfl) ?_
        refine lv_iload_n hx hb dX11_guessBy_23 rfl (lv_at hl 4 rfl) ?_
        refine lv_iadd hx hb dX11_guessBy_24 ?_
        refine lv_iconst (v := 2) hx hb dX11_guessBy_25 (by decide) ?_
        refine lv_idiv hx hb dX11_guessBy_26 (by decide) ?_
        refine lv_goto (tgt := 38) hx hb dX11_guessBy_27 (by decide) ?_
        exact J_7 ((a + b) / 2) H locs ls (Eq.symm ((if_neg c_8).trans ((if_pos c_9).trans rfl))) hP hD hS (lv_sub hl [] rfl)
    · refine lv_iload_n hx hb dX11_guessBy_13 rfl (lv_at hl 3 rfl) ?_
      refine lv_goto (tgt := 38) hx hb dX11_guessBy_14 (by decide) ?_
      exact J_7 a H locs ls (Eq.symm ((if_pos c_8).trans rfl)) hP hD hS (lv_sub hl [] rfl)

def sX11_in (v : Int64) (lo : Int64) (hi : Int64) : Int32 := if (lg_cmp v lo) < 0 then ((0)) else (if 0 < (lg_cmp v hi) then ((0)) else ((1)))
set_option maxHeartbeats 4000000 in
set_option maxRecDepth 100000 in
theorem mtX11_in (l : Launch) (D : va_G) (cI cB cK cS : ClassId) (ws : va_W)  (v : Int64) (lo : Int64) (hi : Int64) : MX l yX11_in wsX11_in (rmX 1) D (tyX cI cB cK cS) pF0 (ws) [.long v, .long lo, .long hi] (sX11_in v lo hi) (fun u => some (.int u)) (fun _ => ws) := by
  refine mx_intro (cc := cX11_in) (maxL := 6) (ret := (some .boolean)) (by decide) rfl (Nat.le_of_ble_eq_true rfl) ?_
  intro p e s m below meth c A ls H locs Qm hQm hx hb hr hml hts hown hlocks hA hS hP hK hD hF hl
  have hown : s.vm.findClass RX11 = some m.cls := hown
  have hl : lv_has ls 6 [(0, .long v), (2, .long lo), (4, .long hi)] := hl
  refine lv_lload_n hx hb dX11_in_0 rfl (lv_at hl 0 rfl) ?_
  refine lv_lload_n hx hb dX11_in_1 rfl (lv_at hl 1 rfl) ?_
  refine W.lcmp hx hb dX11_in_2 ?_
  refine lv_if_lt (tgt := 17) hx hb dX11_in_3 (by decide) (fun c_1 => ?_) (fun c_1 => ?_)
  · refine lv_iconst (v := 0) hx hb dX11_in_17 (by decide) ?_
    rw [hQm]
    exact mx_zret (u0 := sX11_in v lo hi) (rv := (fun u => some (.int u))) (w1 := (fun _ => ws)) (u := (0)) hx hb hr hlocks hK hS ((if_pos c_1).trans rfl) hP hD rfl rfl dX11_in_18
  · refine lv_lload_n hx hb dX11_in_6 rfl (lv_at hl 0 rfl) ?_
    refine lv_lload hx hb dX11_in_7 (lv_at hl 2 rfl) ?_
    refine W.lcmp hx hb dX11_in_9 ?_
    refine lv_if_gt (tgt := 17) hx hb dX11_in_10 (by decide) (fun c_2 => ?_) (fun c_2 => ?_)
    · refine lv_iconst (v := 0) hx hb dX11_in_17 (by decide) ?_
      rw [hQm]
      exact mx_zret (u0 := sX11_in v lo hi) (rv := (fun u => some (.int u))) (w1 := (fun _ => ws)) (u := (0)) hx hb hr hlocks hK hS ((if_neg c_1).trans ((if_pos c_2).trans rfl)) hP hD rfl rfl dX11_in_18
    · refine lv_iconst (v := 1) hx hb dX11_in_13 (by decide) ?_
      refine lv_goto (tgt := 18) hx hb dX11_in_14 (by decide) ?_
      rw [hQm]
      exact mx_zret (u0 := sX11_in v lo hi) (rv := (fun u => some (.int u))) (w1 := (fun _ => ws)) (u := (1)) hx hb hr hlocks hK hS ((if_neg c_1).trans ((if_neg c_2).trans rfl)) hP hD rfl rfl dX11_in_18
theorem sX11_in_z {u : Int32} {v lo hi : Int64} (e : u = sX11_in v lo hi) : u = 0 ∨ u = 1 := by
  subst e; unfold sX11_in; (repeat' split) <;> simp
theorem sX11_in_t {u : Int32} {v lo hi : Int64} {x y z : Int} (hv : v.toInt = x) (hl : lo.toInt = y) (hh : hi.toInt = z) (e : u = sX11_in v lo hi) (h : ¬ u = 0) : y ≤ x ∧ x ≤ z := by
  subst e; subst hv; subst hl; subst hh
  unfold sX11_in at h
  split at h
  · exact absurd rfl h
  · rename_i h1
    split at h
    · exact absurd rfl h
    · rename_i h2
      rw [zc_lt, Int64.lt_iff_toInt_lt] at h1
      rw [zc_gt, Int64.lt_iff_toInt_lt] at h2
      omega
def sX11_isSheet (k : Int32) : Int32 := lt (sX11_in k.toInt64 0 7) (fun u_1 : Int32 => (u_1))
set_option maxHeartbeats 4000000 in
set_option maxRecDepth 100000 in
theorem mtX11_isSheet (l : Launch) (D : va_G) (cI cB cK cS : ClassId) (ws : va_W)  (k : Int32) : MX l yX11_isSheet wsX11_isSheet (rmX 2) D (tyX cI cB cK cS) pF0 (ws) [.int k] (sX11_isSheet k) (fun u => some (.int u)) (fun _ => ws) := by
  refine mx_intro (cc := cX11_isSheet) (maxL := 1) (ret := (some .boolean)) (by decide) rfl (Nat.le_of_ble_eq_true rfl) ?_
  intro p e s m below meth c A ls H locs Qm hQm hx hb hr hml hts hown hlocks hA hS hP hK hD hF hl
  have hown : s.vm.findClass RX11 = some m.cls := hown
  have hl : lv_has ls 1 [(0, .int k)] := hl
  have k66 := hts (.constantLong RX11 66 (7)) (by decide +kernel)
  refine lv_iload_n hx hb dX11_isSheet_0 rfl (lv_at hl 0 rfl) ?_
  refine lv_i2l (v := k.toInt64) hx hb dX11_isSheet_1 rfl ?_
  refine lv_lconst (v := 0) hx hb dX11_isSheet_2 (by decide) ?_
  refine lv_ldc2 (v := 7) hx hb hown k66 dX11_isSheet_3 ?_
  refine mx_callS (As := [.long k.toInt64, .long 0, .long 7]) (rest := []) ⟨hx, hb, hml, hown, hts⟩ (mtX11_in l D cI cB cK cS (ws) k.toInt64 0 7) (va_cwS 3 hts gX11_isSheet_X11_in rfl rfl rfl (by decide +kernel) ⟨Nat.le_of_ble_eq_true rfl, Nat.le_of_ble_eq_true rfl⟩) pF0_ok trivial hK hP hD hS hA rfl hl.1 rfl (Nat.le_of_ble_eq_true rfl) dX11_isSheet_6 ⟨Nat.le_refl _, Nat.le_refl _⟩ (fun u_1 H locs eu_1 hP hD hS => ?_)
  refine W.eq (g2 := F0 m 9 ls [.int u_1]) rfl ?_
  have hP : va_P D vwCl (ws) H := hP
  have hD : va_D A (ws) := hD
  rw [hQm]
  exact mx_zret (u0 := sX11_isSheet k) (rv := (fun u => some (.int u))) (w1 := (fun _ => ws)) (u := (u_1)) hx hb hr hlocks hK hS (lt_eq eu_1 rfl) hP hD rfl (z_narrow (sX11_in_z eu_1)) dX11_isSheet_9
theorem sX11_isSheet_z {u : Int32} {k : Int32} (e : u = sX11_isSheet k) : u = 0 ∨ u = 1 := by
  subst e; unfold sX11_isSheet; exact sX11_in_z rfl
theorem sX11_isSheet_t {u : Int32} {k : Int32} (e : u = sX11_isSheet k) (h : ¬ u = 0) : 0 ≤ k.toInt ∧ k.toInt ≤ 7 := by
  subst e; unfold sX11_isSheet at h
  exact sX11_in_t (Int32.toInt_toInt64 _) (show (0 : Int64).toInt = 0 from by decide) (show (7 : Int64).toInt = 7 from by decide) rfl h
def sX11_finding (k : Int32) : Int32 × (Int32) := ((-1000010) - k, k)
set_option maxHeartbeats 4000000 in
set_option maxRecDepth 100000 in
theorem mtX11_finding (l : Launch) (D : va_G) (cI cB cK cS : ClassId) (Y : Nat → Nat) (R : va_W) (m_thrown : Int32) (m_status : Int32) (m_isThere : Int32) (m_kinds : Int32) (m_newKinds : Int32) (m_print : Int32) (m_low : Int32) (m_high : Int32) (m_lot : Int32) (m_taped : Int32) (m_latest : Int32) (m_length : Int32) (m_cursor : Int32) (m_token : Int32) (m_from : Int32) (m_till : Int32) (m_fault : Int32) (m_faultAt : Int32) (m_traced : Int32) (r_lane : Nat → Int32) (r_many : Nat → Int32) (r_item : Nat → Int32) (r_market : Nat → Int32) (r_of : Nat → Int32) (r_newMarket : Nat → Int32) (r_newStart : Nat → Int32) (r_newOf : Nat → Int32) (r_newCoin : Nat → Int32) (r_state : Nat → Int32) (r_kept : Nat → Int32) (r_tape : Nat → Int32) (r_brings : Nat → Int32) (r_seen : Nat → Int32) (r_seenOut : Nat → Int32) (r_trace : Nat → Int32) (k : Int32) : MX l yX11_finding wsX11_finding (rmX 1) D (tyX cI cB cK cS) pF0 (mdW Y cI m_thrown m_status m_isThere m_kinds m_newKinds m_print m_low m_high m_lot m_taped m_latest m_length m_cursor m_token m_from m_till m_fault m_faultAt m_traced r_lane r_many r_item r_market r_of r_newMarket r_newStart r_newOf r_newCoin r_state r_kept r_tape r_brings r_seen r_seenOut r_trace ++ R) [.ref (Y 0), .int k] (sX11_finding k) (fun u => some (.int u.1)) (fun u => mdW Y cI m_thrown u.2 m_isThere m_kinds m_newKinds m_print m_low m_high m_lot m_taped m_latest m_length m_cursor m_token m_from m_till m_fault m_faultAt m_traced r_lane r_many r_item r_market r_of r_newMarket r_newStart r_newOf r_newCoin r_state r_kept r_tape r_brings r_seen r_seenOut r_trace ++ R) := by
  refine mx_intro (cc := cX11_finding) (maxL := 2) (ret := (some .int)) (by decide) rfl (Nat.le_of_ble_eq_true rfl) ?_
  intro p e s m below meth c A ls H locs Qm hQm hx hb hr hml hts hown hlocks hA hS hP hK hD hF hl
  have hown : s.vm.findClass RX11 = some m.cls := hown
  have hl : lv_has ls 2 [(0, .ref (Y 0)), (1, .int k)] := hl
  have k62 := hts (.fieldLink RX11 62 "PigRoundsModel" "status" "I") (by decide +kernel)
  have k65 := hts (.constant RX11 65 (-1000010)) (by decide +kernel)
  have iX11 : ∀ w ∈ u_ws RX11 TX11 35, w ∈ wsX11_finding := by decide +kernel
  refine lv_aload_n hx hb dX11_finding_0 rfl (lv_at hl 0 rfl) ?_
  refine lv_iload_n hx hb dX11_finding_1 rfl (lv_at hl 1 rfl) ?_
  refine va_put (D := D) (ci := 9) (v := .int k) (ty := .int) (C := RX11) (T := TX11) (N := 35) hx hb hts iX11 tyX11 tyX11_ok nmX11 hown hK hP hD hS 0 rfl rfl 1 (by decide) k62 (fun _ h9 => h9) rfl (by decide +kernel) rfl rfl (Nat.le_of_ble_eq_true rfl) dX11_finding_2 (fun H locs hP hD hS => ?_)
  have hP : va_P D vwCl (mdW Y cI m_thrown k m_isThere m_kinds m_newKinds m_print m_low m_high m_lot m_taped m_latest m_length m_cursor m_token m_from m_till m_fault m_faultAt m_traced r_lane r_many r_item r_market r_of r_newMarket r_newStart r_newOf r_newCoin r_state r_kept r_tape r_brings r_seen r_seenOut r_trace ++ R) H := hP
  have hD : va_D A (mdW Y cI m_thrown k m_isThere m_kinds m_newKinds m_print m_low m_high m_lot m_taped m_latest m_length m_cursor m_token m_from m_till m_fault m_faultAt m_traced r_lane r_many r_item r_market r_of r_newMarket r_newStart r_newOf r_newCoin r_state r_kept r_tape r_brings r_seen r_seenOut r_trace ++ R) := hD
  refine lv_ldc (v := (-1000010)) hx hb hown k65 dX11_finding_5 ?_
  refine lv_iload_n hx hb dX11_finding_7 rfl (lv_at hl 1 rfl) ?_
  refine lv_isub hx hb dX11_finding_8 ?_
  rw [hQm]
  exact mx_iret (u0 := sX11_finding k) (rv := (fun u => some (.int u.1))) (w1 := (fun u => mdW Y cI m_thrown u.2 m_isThere m_kinds m_newKinds m_print m_low m_high m_lot m_taped m_latest m_length m_cursor m_token m_from m_till m_fault m_faultAt m_traced r_lane r_many r_item r_market r_of r_newMarket r_newStart r_newOf r_newCoin r_state r_kept r_tape r_brings r_seen r_seenOut r_trace ++ R)) (u := ((-1000010) - k, k)) hx hb hr hlocks hK hS rfl hP hD rfl dX11_finding_9

def sX11_told (k : Int32) (w : Int32) (r_of : Nat → Int32) : Int32 := ((r_of ((6 * k) + w).toNatClampNeg))
set_option maxHeartbeats 4000000 in
set_option maxRecDepth 100000 in
theorem mtX11_told (l : Launch) (D : va_G) (cI cB cK cS : ClassId) (Y : Nat → Nat) (R : va_W) (m_thrown : Int32) (m_status : Int32) (m_isThere : Int32) (m_kinds : Int32) (m_newKinds : Int32) (m_print : Int32) (m_low : Int32) (m_high : Int32) (m_lot : Int32) (m_taped : Int32) (m_latest : Int32) (m_length : Int32) (m_cursor : Int32) (m_token : Int32) (m_from : Int32) (m_till : Int32) (m_fault : Int32) (m_faultAt : Int32) (m_traced : Int32) (r_lane : Nat → Int32) (r_many : Nat → Int32) (r_item : Nat → Int32) (r_market : Nat → Int32) (r_of : Nat → Int32) (r_newMarket : Nat → Int32) (r_newStart : Nat → Int32) (r_newOf : Nat → Int32) (r_newCoin : Nat → Int32) (r_state : Nat → Int32) (r_kept : Nat → Int32) (r_tape : Nat → Int32) (r_brings : Nat → Int32) (r_seen : Nat → Int32) (r_seenOut : Nat → Int32) (r_trace : Nat → Int32) (k : Int32) (w : Int32) (hq : vp_in (6 * k + w) 30) : MX l yX11_told wsX11_told (rmX 1) D (tyX cI cB cK cS) pF0 (mdW Y cI m_thrown m_status m_isThere m_kinds m_newKinds m_print m_low m_high m_lot m_taped m_latest m_length m_cursor m_token m_from m_till m_fault m_faultAt m_traced r_lane r_many r_item r_market r_of r_newMarket r_newStart r_newOf r_newCoin r_state r_kept r_tape r_brings r_seen r_seenOut r_trace ++ R) [.ref (Y 0), .int k, .int w] (sX11_told k w r_of) (fun u => some (.int u)) (fun _ => mdW Y cI m_thrown m_status m_isThere m_kinds m_newKinds m_print m_low m_high m_lot m_taped m_latest m_length m_cursor m_token m_from m_till m_fault m_faultAt m_traced r_lane r_many r_item r_market r_of r_newMarket r_newStart r_newOf r_newCoin r_state r_kept r_tape r_brings r_seen r_seenOut r_trace ++ R) := by
  refine mx_intro (cc := cX11_told) (maxL := 3) (ret := (some .int)) (by decide) rfl (Nat.le_of_ble_eq_true rfl) ?_
  intro p e s m below meth c A ls H locs Qm hQm hx hb hr hml hts hown hlocks hA hS hP hK hD hF hl
  have hown : s.vm.findClass RX11 = some m.cls := hown
  have hl : lv_has ls 3 [(0, .ref (Y 0)), (1, .int k), (2, .int w)] := hl
  have k22 := hts (.fieldLink RX11 22 "PigRoundsModel" "of" "[I") (by decide +kernel)
  have iX11 : ∀ w ∈ u_ws RX11 TX11 35, w ∈ wsX11_told := by decide +kernel
  refine lv_aload_n hx hb dX11_told_0 rfl (lv_at hl 0 rfl) ?_
  refine va_get (D := D) (ci := 9) (v := .ref (Y 8)) (C := RX11) (T := TX11) (N := 35) hx hb hts iX11 hown hK hP 0 rfl rfl 8 (by decide) k22 (fun _ h9 => h9) rfl dX11_told_1 ?_
  refine lv_bipush (v := 6) hx hb dX11_told_4 (by decide) ?_
  refine lv_iload_n hx hb dX11_told_6 rfl (lv_at hl 1 rfl) ?_
  refine lv_imul hx hb dX11_told_7 ?_
  refine lv_iload_n hx hb dX11_told_8 rfl (lv_at hl 2 rfl) ?_
  refine lv_iadd hx hb dX11_told_9 ?_
  have q_1 : vp_in ((6 * k) + w) 30 := hq
  refine va_iald hx hb hK hP 5 0 rfl rfl q_1 dX11_told_10 ?_
  rw [hQm]
  exact mx_iret (u0 := sX11_told k w r_of) (rv := (fun u => some (.int u))) (w1 := (fun _ => mdW Y cI m_thrown m_status m_isThere m_kinds m_newKinds m_print m_low m_high m_lot m_taped m_latest m_length m_cursor m_token m_from m_till m_fault m_faultAt m_traced r_lane r_many r_item r_market r_of r_newMarket r_newStart r_newOf r_newCoin r_state r_kept r_tape r_brings r_seen r_seenOut r_trace ++ R)) (u := ((r_of ((6 * k) + w).toNatClampNeg))) hx hb hr hlocks hK hS rfl hP hD rfl dX11_told_11

def sX11_isOut (k : Int32) (r_state : Nat → Int32) : Int32 := if (r_state (12 + k).toNatClampNeg) = 1 then ((1)) else ((0))
set_option maxHeartbeats 4000000 in
set_option maxRecDepth 100000 in
theorem mtX11_isOut (l : Launch) (D : va_G) (cI cB cK cS : ClassId) (Y : Nat → Nat) (R : va_W) (m_thrown : Int32) (m_status : Int32) (m_isThere : Int32) (m_kinds : Int32) (m_newKinds : Int32) (m_print : Int32) (m_low : Int32) (m_high : Int32) (m_lot : Int32) (m_taped : Int32) (m_latest : Int32) (m_length : Int32) (m_cursor : Int32) (m_token : Int32) (m_from : Int32) (m_till : Int32) (m_fault : Int32) (m_faultAt : Int32) (m_traced : Int32) (r_lane : Nat → Int32) (r_many : Nat → Int32) (r_item : Nat → Int32) (r_market : Nat → Int32) (r_of : Nat → Int32) (r_newMarket : Nat → Int32) (r_newStart : Nat → Int32) (r_newOf : Nat → Int32) (r_newCoin : Nat → Int32) (r_state : Nat → Int32) (r_kept : Nat → Int32) (r_tape : Nat → Int32) (r_brings : Nat → Int32) (r_seen : Nat → Int32) (r_seenOut : Nat → Int32) (r_trace : Nat → Int32) (k : Int32) (hk0 : 0 ≤ k.toInt) (hk5 : k.toInt < 5) : MX l yX11_isOut wsX11_isOut (rmX 1) D (tyX cI cB cK cS) pF0 (mdW Y cI m_thrown m_status m_isThere m_kinds m_newKinds m_print m_low m_high m_lot m_taped m_latest m_length m_cursor m_token m_from m_till m_fault m_faultAt m_traced r_lane r_many r_item r_market r_of r_newMarket r_newStart r_newOf r_newCoin r_state r_kept r_tape r_brings r_seen r_seenOut r_trace ++ R) [.ref (Y 0), .int k] (sX11_isOut k r_state) (fun u => some (.int u)) (fun _ => mdW Y cI m_thrown m_status m_isThere m_kinds m_newKinds m_print m_low m_high m_lot m_taped m_latest m_length m_cursor m_token m_from m_till m_fault m_faultAt m_traced r_lane r_many r_item r_market r_of r_newMarket r_newStart r_newOf r_newCoin r_state r_kept r_tape r_brings r_seen r_seenOut r_trace ++ R) := by
  refine mx_intro (cc := cX11_isOut) (maxL := 2) (ret := (some .boolean)) (by decide) rfl (Nat.le_of_ble_eq_true rfl) ?_
  intro p e s m below meth c A ls H locs Qm hQm hx hb hr hml hts hown hlocks hA hS hP hK hD hF hl
  have hown : s.vm.findClass RX11 = some m.cls := hown
  have hl : lv_has ls 2 [(0, .ref (Y 0)), (1, .int k)] := hl
  have k37 := hts (.fieldLink RX11 37 "PigRoundsModel" "state" "[I") (by decide +kernel)
  have iX11 : ∀ w ∈ u_ws RX11 TX11 35, w ∈ wsX11_isOut := by decide +kernel
  refine lv_aload_n hx hb dX11_isOut_0 rfl (lv_at hl 0 rfl) ?_
  refine va_get (D := D) (ci := 9) (v := .ref (Y 14)) (C := RX11) (T := TX11) (N := 35) hx hb hts iX11 hown hK hP 0 rfl rfl 14 (by decide) k37 (fun _ h9 => h9) rfl dX11_isOut_1 ?_
  refine lv_bipush (v := 12) hx hb dX11_isOut_4 (by decide) ?_
  refine lv_iload_n hx hb dX11_isOut_6 rfl (lv_at hl 1 rfl) ?_
  refine lv_iadd hx hb dX11_isOut_7 ?_
  have q_1 : vp_in (12 + k) 17 := vp_in_iff.mpr (by rw [show (12 + k).toInt = (12 + k.toInt) from (i_addv (show (12 : Int32).toInt = 12 from by decide) rfl (by omega) (by omega))]; constructor <;> omega)
  refine va_iald hx hb hK hP 10 0 rfl rfl q_1 dX11_isOut_8 ?_
  refine lv_iconst (v := 1) hx hb dX11_isOut_9 (by decide) ?_
  refine lv_icmp_ne (tgt := 17) hx hb dX11_isOut_10 (by decide) (fun c_2 => ?_) (fun c_2 => ?_)
  · have d_2 := i_eqn rfl (show (1 : Int32).toInt = 1 from by decide) c_2
    refine lv_iconst (v := 0) hx hb dX11_isOut_17 (by decide) ?_
    rw [hQm]
    exact mx_zret (u0 := sX11_isOut k r_state) (rv := (fun u => some (.int u))) (w1 := (fun _ => mdW Y cI m_thrown m_status m_isThere m_kinds m_newKinds m_print m_low m_high m_lot m_taped m_latest m_length m_cursor m_token m_from m_till m_fault m_faultAt m_traced r_lane r_many r_item r_market r_of r_newMarket r_newStart r_newOf r_newCoin r_state r_kept r_tape r_brings r_seen r_seenOut r_trace ++ R)) (u := (0)) hx hb hr hlocks hK hS ((if_neg c_2).trans rfl) hP hD rfl rfl dX11_isOut_18
  · have d_2 := i_eq rfl (show (1 : Int32).toInt = 1 from by decide) c_2
    refine lv_iconst (v := 1) hx hb dX11_isOut_13 (by decide) ?_
    refine lv_goto (tgt := 18) hx hb dX11_isOut_14 (by decide) ?_
    rw [hQm]
    exact mx_zret (u0 := sX11_isOut k r_state) (rv := (fun u => some (.int u))) (w1 := (fun _ => mdW Y cI m_thrown m_status m_isThere m_kinds m_newKinds m_print m_low m_high m_lot m_taped m_latest m_length m_cursor m_token m_from m_till m_fault m_faultAt m_traced r_lane r_many r_item r_market r_of r_newMarket r_newStart r_newOf r_newCoin r_state r_kept r_tape r_brings r_seen r_seenOut r_trace ++ R)) (u := (1)) hx hb hr hlocks hK hS ((if_pos c_2).trans rfl) hP hD rfl rfl dX11_isOut_18

def sX11_pigsBy (k : Int32) (g : Int32) (r_of : Nat → Int32) : Int32 := lt (sX11_told k 3 r_of) (fun u_1 : Int32 => lt (sX11_told k 4 r_of) (fun u_2 : Int32 => (u_1 + ((u_2 * g) / 10))))
set_option maxHeartbeats 4000000 in
set_option maxRecDepth 100000 in
theorem mtX11_pigsBy (l : Launch) (D : va_G) (cI cB cK cS : ClassId) (Y : Nat → Nat) (R : va_W) (m_thrown : Int32) (m_status : Int32) (m_isThere : Int32) (m_kinds : Int32) (m_newKinds : Int32) (m_print : Int32) (m_low : Int32) (m_high : Int32) (m_lot : Int32) (m_taped : Int32) (m_latest : Int32) (m_length : Int32) (m_cursor : Int32) (m_token : Int32) (m_from : Int32) (m_till : Int32) (m_fault : Int32) (m_faultAt : Int32) (m_traced : Int32) (r_lane : Nat → Int32) (r_many : Nat → Int32) (r_item : Nat → Int32) (r_market : Nat → Int32) (r_of : Nat → Int32) (r_newMarket : Nat → Int32) (r_newStart : Nat → Int32) (r_newOf : Nat → Int32) (r_newCoin : Nat → Int32) (r_state : Nat → Int32) (r_kept : Nat → Int32) (r_tape : Nat → Int32) (r_brings : Nat → Int32) (r_seen : Nat → Int32) (r_seenOut : Nat → Int32) (r_trace : Nat → Int32) (k : Int32) (g : Int32) (hk0 : 0 ≤ k.toInt) (hk5 : k.toInt < 5) : MX l yX11_pigsBy wsX11_pigsBy (rmX 2) D (tyX cI cB cK cS) pF0 (mdW Y cI m_thrown m_status m_isThere m_kinds m_newKinds m_print m_low m_high m_lot m_taped m_latest m_length m_cursor m_token m_from m_till m_fault m_faultAt m_traced r_lane r_many r_item r_market r_of r_newMarket r_newStart r_newOf r_newCoin r_state r_kept r_tape r_brings r_seen r_seenOut r_trace ++ R) [.ref (Y 0), .int k, .int g] (sX11_pigsBy k g r_of) (fun u => some (.int u)) (fun _ => mdW Y cI m_thrown m_status m_isThere m_kinds m_newKinds m_print m_low m_high m_lot m_taped m_latest m_length m_cursor m_token m_from m_till m_fault m_faultAt m_traced r_lane r_many r_item r_market r_of r_newMarket r_newStart r_newOf r_newCoin r_state r_kept r_tape r_brings r_seen r_seenOut r_trace ++ R) := by
  refine mx_intro (cc := cX11_pigsBy) (maxL := 3) (ret := (some .int)) (by decide) rfl (Nat.le_of_ble_eq_true rfl) ?_
  intro p e s m below meth c A ls H locs Qm hQm hx hb hr hml hts hown hlocks hA hS hP hK hD hF hl
  have hown : s.vm.findClass RX11 = some m.cls := hown
  have hl : lv_has ls 3 [(0, .ref (Y 0)), (1, .int k), (2, .int g)] := hl
  refine lv_aload_n hx hb dX11_pigsBy_0 rfl (lv_at hl 0 rfl) ?_
  refine lv_iload_n hx hb dX11_pigsBy_1 rfl (lv_at hl 1 rfl) ?_
  refine lv_iconst (v := 3) hx hb dX11_pigsBy_2 (by decide) ?_
  refine mx_callV (As := [.int k, .int 3]) (rest := []) ⟨hx, hb, hml, hown, hts⟩ (mtX11_told l D cI cB cK cS Y R m_thrown m_status m_isThere m_kinds m_newKinds m_print m_low m_high m_lot m_taped m_latest m_length m_cursor m_token m_from m_till m_fault m_faultAt m_traced r_lane r_many r_item r_market r_of r_newMarket r_newStart r_newOf r_newCoin r_state r_kept r_tape r_brings r_seen r_seenOut r_trace k 3 (vp_in_iff.mpr (by rw [show (6 * k + 3).toInt = ((6 * k.toInt) + 3) from (i_addv (i_mulv (show (6 : Int32).toInt = 6 from by decide) rfl (by omega) (by omega)) (show (3 : Int32).toInt = 3 from by decide) (by omega) (by omega))]; constructor <;> omega))) (cwV 2 hts gX11_pigsBy_X11_told rfl rfl rfl (by decide +kernel) ⟨Nat.le_of_ble_eq_true rfl, Nat.le_of_ble_eq_true rfl⟩) pF0_ok trivial hK hP hD hS hA 0 rfl rfl rfl rfl hl.1 rfl (Nat.le_of_ble_eq_true rfl) dX11_pigsBy_3 ⟨Nat.le_refl _, Nat.le_refl _⟩ (fun u_1 H locs eu_1 hP hD hS => ?_)
  refine W.eq (g2 := F0 m 6 ls [.int u_1]) rfl ?_
  have hP : va_P D vwCl (mdW Y cI m_thrown m_status m_isThere m_kinds m_newKinds m_print m_low m_high m_lot m_taped m_latest m_length m_cursor m_token m_from m_till m_fault m_faultAt m_traced r_lane r_many r_item r_market r_of r_newMarket r_newStart r_newOf r_newCoin r_state r_kept r_tape r_brings r_seen r_seenOut r_trace ++ R) H := hP
  have hD : va_D A (mdW Y cI m_thrown m_status m_isThere m_kinds m_newKinds m_print m_low m_high m_lot m_taped m_latest m_length m_cursor m_token m_from m_till m_fault m_faultAt m_traced r_lane r_many r_item r_market r_of r_newMarket r_newStart r_newOf r_newCoin r_state r_kept r_tape r_brings r_seen r_seenOut r_trace ++ R) := hD
  refine lv_aload_n hx hb dX11_pigsBy_6 rfl (lv_at hl 0 rfl) ?_
  refine lv_iload_n hx hb dX11_pigsBy_7 rfl (lv_at hl 1 rfl) ?_
  refine lv_iconst (v := 4) hx hb dX11_pigsBy_8 (by decide) ?_
  refine mx_callV (As := [.int k, .int 4]) (rest := [.int u_1]) ⟨hx, hb, hml, hown, hts⟩ (mtX11_told l D cI cB cK cS Y R m_thrown m_status m_isThere m_kinds m_newKinds m_print m_low m_high m_lot m_taped m_latest m_length m_cursor m_token m_from m_till m_fault m_faultAt m_traced r_lane r_many r_item r_market r_of r_newMarket r_newStart r_newOf r_newCoin r_state r_kept r_tape r_brings r_seen r_seenOut r_trace k 4 (vp_in_iff.mpr (by rw [show (6 * k + 4).toInt = ((6 * k.toInt) + 4) from (i_addv (i_mulv (show (6 : Int32).toInt = 6 from by decide) rfl (by omega) (by omega)) (show (4 : Int32).toInt = 4 from by decide) (by omega) (by omega))]; constructor <;> omega))) (cwV 2 hts gX11_pigsBy_X11_told rfl rfl rfl (by decide +kernel) ⟨Nat.le_of_ble_eq_true rfl, Nat.le_of_ble_eq_true rfl⟩) pF0_ok trivial hK hP hD hS hA 0 rfl rfl rfl rfl hl.1 rfl (Nat.le_of_ble_eq_true rfl) dX11_pigsBy_9 ⟨Nat.le_refl _, Nat.le_refl _⟩ (fun u_2 H locs eu_2 hP hD hS => ?_)
  refine W.eq (g2 := F0 m 12 ls [.int u_2, .int u_1]) rfl ?_
  have hP : va_P D vwCl (mdW Y cI m_thrown m_status m_isThere m_kinds m_newKinds m_print m_low m_high m_lot m_taped m_latest m_length m_cursor m_token m_from m_till m_fault m_faultAt m_traced r_lane r_many r_item r_market r_of r_newMarket r_newStart r_newOf r_newCoin r_state r_kept r_tape r_brings r_seen r_seenOut r_trace ++ R) H := hP
  have hD : va_D A (mdW Y cI m_thrown m_status m_isThere m_kinds m_newKinds m_print m_low m_high m_lot m_taped m_latest m_length m_cursor m_token m_from m_till m_fault m_faultAt m_traced r_lane r_many r_item r_market r_of r_newMarket r_newStart r_newOf r_newCoin r_state r_kept r_tape r_brings r_seen r_seenOut r_trace ++ R) := hD
  refine lv_iload_n hx hb dX11_pigsBy_12 rfl (lv_at hl 2 rfl) ?_
  refine lv_imul hx hb dX11_pigsBy_13 ?_
  refine lv_bipush (v := 10) hx hb dX11_pigsBy_14 (by decide) ?_
  refine lv_idiv hx hb dX11_pigsBy_16 (by decide) ?_
  refine lv_iadd hx hb dX11_pigsBy_17 ?_
  rw [hQm]
  exact mx_iret (u0 := sX11_pigsBy k g r_of) (rv := (fun u => some (.int u))) (w1 := (fun _ => mdW Y cI m_thrown m_status m_isThere m_kinds m_newKinds m_print m_low m_high m_lot m_taped m_latest m_length m_cursor m_token m_from m_till m_fault m_faultAt m_traced r_lane r_many r_item r_market r_of r_newMarket r_newStart r_newOf r_newCoin r_state r_kept r_tape r_brings r_seen r_seenOut r_trace ++ R)) (u := (u_1 + ((u_2 * g) / 10))) hx hb hr hlocks hK hS (lt_eq eu_1 (lt_eq eu_2 rfl)) hP hD rfl dX11_pigsBy_18

def sX11_guessOf (k : Int32) (g : Int32) (m_print : Int32) (r_of : Nat → Int32) (r_state : Nat → Int32) : Int32 := lt (sX11_told k 0 r_of) (fun u_1 : Int32 => if u_1 = 6 then ((g)) else (if u_1 = 5 then ((m_print)) else (lt (sX11_told k 1 r_of) (fun u_4 : Int32 => lt (sX11_guessBy u_1 u_4 (r_state 0) (r_state 1) (r_state 2)) (fun u_8 : Int32 => (u_8))))))
set_option maxHeartbeats 4000000 in
set_option maxRecDepth 100000 in
theorem mtX11_guessOf (l : Launch) (D : va_G) (cI cB cK cS : ClassId) (Y : Nat → Nat) (R : va_W) (m_thrown : Int32) (m_status : Int32) (m_isThere : Int32) (m_kinds : Int32) (m_newKinds : Int32) (m_print : Int32) (m_low : Int32) (m_high : Int32) (m_lot : Int32) (m_taped : Int32) (m_latest : Int32) (m_length : Int32) (m_cursor : Int32) (m_token : Int32) (m_from : Int32) (m_till : Int32) (m_fault : Int32) (m_faultAt : Int32) (m_traced : Int32) (r_lane : Nat → Int32) (r_many : Nat → Int32) (r_item : Nat → Int32) (r_market : Nat → Int32) (r_of : Nat → Int32) (r_newMarket : Nat → Int32) (r_newStart : Nat → Int32) (r_newOf : Nat → Int32) (r_newCoin : Nat → Int32) (r_state : Nat → Int32) (r_kept : Nat → Int32) (r_tape : Nat → Int32) (r_brings : Nat → Int32) (r_seen : Nat → Int32) (r_seenOut : Nat → Int32) (r_trace : Nat → Int32) (k : Int32) (g : Int32) (hk0 : 0 ≤ k.toInt) (hk5 : k.toInt < 5) : MX l yX11_guessOf wsX11_guessOf (rmX 3) D (tyX cI cB cK cS) pF0 (mdW Y cI m_thrown m_status m_isThere m_kinds m_newKinds m_print m_low m_high m_lot m_taped m_latest m_length m_cursor m_token m_from m_till m_fault m_faultAt m_traced r_lane r_many r_item r_market r_of r_newMarket r_newStart r_newOf r_newCoin r_state r_kept r_tape r_brings r_seen r_seenOut r_trace ++ R) [.ref (Y 0), .int k, .int g] (sX11_guessOf k g m_print r_of r_state) (fun u => some (.int u)) (fun _ => mdW Y cI m_thrown m_status m_isThere m_kinds m_newKinds m_print m_low m_high m_lot m_taped m_latest m_length m_cursor m_token m_from m_till m_fault m_faultAt m_traced r_lane r_many r_item r_market r_of r_newMarket r_newStart r_newOf r_newCoin r_state r_kept r_tape r_brings r_seen r_seenOut r_trace ++ R) := by
  refine mx_intro (cc := cX11_guessOf) (maxL := 4) (ret := (some .int)) (by decide) rfl (Nat.le_of_ble_eq_true rfl) ?_
  intro p e s m below meth c A ls H locs Qm hQm hx hb hr hml hts hown hlocks hA hS hP hK hD hF hl
  have hown : s.vm.findClass RX11 = some m.cls := hown
  have hl : lv_has ls 4 [(0, .ref (Y 0)), (1, .int k), (2, .int g)] := hl
  have k37 := hts (.fieldLink RX11 37 "PigRoundsModel" "state" "[I") (by decide +kernel)
  have k185 := hts (.fieldLink RX11 185 "PigRoundsModel" "print" "I") (by decide +kernel)
  have iX11 : ∀ w ∈ u_ws RX11 TX11 35, w ∈ wsX11_guessOf := by decide +kernel
  refine lv_aload_n hx hb dX11_guessOf_0 rfl (lv_at hl 0 rfl) ?_
  refine lv_iload_n hx hb dX11_guessOf_1 rfl (lv_at hl 1 rfl) ?_
  refine lv_iconst (v := 0) hx hb dX11_guessOf_2 (by decide) ?_
  refine mx_callV (As := [.int k, .int 0]) (rest := []) ⟨hx, hb, hml, hown, hts⟩ (mtX11_told l D cI cB cK cS Y R m_thrown m_status m_isThere m_kinds m_newKinds m_print m_low m_high m_lot m_taped m_latest m_length m_cursor m_token m_from m_till m_fault m_faultAt m_traced r_lane r_many r_item r_market r_of r_newMarket r_newStart r_newOf r_newCoin r_state r_kept r_tape r_brings r_seen r_seenOut r_trace k 0 (vp_in_iff.mpr (by rw [show (6 * k + 0).toInt = ((6 * k.toInt) + 0) from (i_addv (i_mulv (show (6 : Int32).toInt = 6 from by decide) rfl (by omega) (by omega)) (show (0 : Int32).toInt = 0 from by decide) (by omega) (by omega))]; constructor <;> omega))) (cwV 2 hts gX11_guessOf_X11_told rfl rfl rfl (by decide +kernel) ⟨Nat.le_of_ble_eq_true rfl, Nat.le_of_ble_eq_true rfl⟩) pF0_ok trivial hK hP hD hS hA 0 rfl rfl rfl rfl hl.1 rfl (Nat.le_of_ble_eq_true rfl) dX11_guessOf_3 ⟨Nat.le_refl _, Nat.le_refl _⟩ (fun u_1 H locs eu_1 hP hD hS => ?_)
  refine W.eq (g2 := F0 m 6 ls [.int u_1]) rfl ?_
  have hP : va_P D vwCl (mdW Y cI m_thrown m_status m_isThere m_kinds m_newKinds m_print m_low m_high m_lot m_taped m_latest m_length m_cursor m_token m_from m_till m_fault m_faultAt m_traced r_lane r_many r_item r_market r_of r_newMarket r_newStart r_newOf r_newCoin r_state r_kept r_tape r_brings r_seen r_seenOut r_trace ++ R) H := hP
  have hD : va_D A (mdW Y cI m_thrown m_status m_isThere m_kinds m_newKinds m_print m_low m_high m_lot m_taped m_latest m_length m_cursor m_token m_from m_till m_fault m_faultAt m_traced r_lane r_many r_item r_market r_of r_newMarket r_newStart r_newOf r_newCoin r_state r_kept r_tape r_brings r_seen r_seenOut r_trace ++ R) := hD
  refine lv_istore_n (lv' := [(3, .int u_1), (0, .ref (Y 0)), (1, .int k), (2, .int g)]) hx hb dX11_guessOf_6 rfl hl (by decide) rfl (fun ls hl => ?_)
  refine lv_iload_n hx hb dX11_guessOf_7 rfl (lv_at hl 0 rfl) ?_
  refine lv_bipush (v := 6) hx hb dX11_guessOf_8 (by decide) ?_
  refine lv_icmp_ne (tgt := 17) hx hb dX11_guessOf_10 (by decide) (fun c_2 => ?_) (fun c_2 => ?_)
  · refine lv_iload_n hx hb dX11_guessOf_17 rfl (lv_at hl 0 rfl) ?_
    refine lv_iconst (v := 5) hx hb dX11_guessOf_18 (by decide) ?_
    refine lv_icmp_ne (tgt := 29) hx hb dX11_guessOf_19 (by decide) (fun c_3 => ?_) (fun c_3 => ?_)
    · refine lv_iload_n hx hb dX11_guessOf_29 rfl (lv_at hl 0 rfl) ?_
      refine lv_aload_n hx hb dX11_guessOf_30 rfl (lv_at hl 1 rfl) ?_
      refine lv_iload_n hx hb dX11_guessOf_31 rfl (lv_at hl 2 rfl) ?_
      refine lv_iconst (v := 1) hx hb dX11_guessOf_32 (by decide) ?_
      refine mx_callV (As := [.int k, .int 1]) (rest := [.int u_1]) ⟨hx, hb, hml, hown, hts⟩ (mtX11_told l D cI cB cK cS Y R m_thrown m_status m_isThere m_kinds m_newKinds m_print m_low m_high m_lot m_taped m_latest m_length m_cursor m_token m_from m_till m_fault m_faultAt m_traced r_lane r_many r_item r_market r_of r_newMarket r_newStart r_newOf r_newCoin r_state r_kept r_tape r_brings r_seen r_seenOut r_trace k 1 (vp_in_iff.mpr (by rw [show (6 * k + 1).toInt = ((6 * k.toInt) + 1) from (i_addv (i_mulv (show (6 : Int32).toInt = 6 from by decide) rfl (by omega) (by omega)) (show (1 : Int32).toInt = 1 from by decide) (by omega) (by omega))]; constructor <;> omega))) (cwV 2 hts gX11_guessOf_X11_told rfl rfl rfl (by decide +kernel) ⟨Nat.le_of_ble_eq_true rfl, Nat.le_of_ble_eq_true rfl⟩) pF0_ok trivial hK hP hD hS hA 0 rfl rfl rfl rfl hl.1 rfl (Nat.le_of_ble_eq_true rfl) dX11_guessOf_33 ⟨Nat.le_refl _, Nat.le_refl _⟩ (fun u_4 H locs eu_4 hP hD hS => ?_)
      refine W.eq (g2 := F0 m 36 ls [.int u_4, .int u_1]) rfl ?_
      have hP : va_P D vwCl (mdW Y cI m_thrown m_status m_isThere m_kinds m_newKinds m_print m_low m_high m_lot m_taped m_latest m_length m_cursor m_token m_from m_till m_fault m_faultAt m_traced r_lane r_many r_item r_market r_of r_newMarket r_newStart r_newOf r_newCoin r_state r_kept r_tape r_brings r_seen r_seenOut r_trace ++ R) H := hP
      have hD : va_D A (mdW Y cI m_thrown m_status m_isThere m_kinds m_newKinds m_print m_low m_high m_lot m_taped m_latest m_length m_cursor m_token m_from m_till m_fault m_faultAt m_traced r_lane r_many r_item r_market r_of r_newMarket r_newStart r_newOf r_newCoin r_state r_kept r_tape r_brings r_seen r_seenOut r_trace ++ R) := hD
      refine lv_aload_n hx hb dX11_guessOf_36 rfl (lv_at hl 1 rfl) ?_
      refine va_get (D := D) (ci := 9) (v := .ref (Y 14)) (C := RX11) (T := TX11) (N := 35) hx hb hts iX11 hown hK hP 0 rfl rfl 14 (by decide) k37 (fun _ h9 => h9) rfl dX11_guessOf_37 ?_
      refine lv_iconst (v := 0) hx hb dX11_guessOf_40 (by decide) ?_
      have q_5 : vp_in (0 : Int32) 17 := vp_in_iff.mpr (by decide)
      refine va_iald hx hb hK hP 10 0 rfl rfl q_5 dX11_guessOf_41 ?_
      refine W.eq (g2 := F0 m 42 ls [.int (r_state 0), .int u_4, .int u_1]) rfl ?_
      refine lv_aload_n hx hb dX11_guessOf_42 rfl (lv_at hl 1 rfl) ?_
      refine va_get (D := D) (ci := 9) (v := .ref (Y 14)) (C := RX11) (T := TX11) (N := 35) hx hb hts iX11 hown hK hP 0 rfl rfl 14 (by decide) k37 (fun _ h9 => h9) rfl dX11_guessOf_43 ?_
      refine lv_iconst (v := 1) hx hb dX11_guessOf_46 (by decide) ?_
      have q_6 : vp_in (1 : Int32) 17 := vp_in_iff.mpr (by decide)
      refine va_iald hx hb hK hP 10 0 rfl rfl q_6 dX11_guessOf_47 ?_
      refine W.eq (g2 := F0 m 48 ls [.int (r_state 1), .int (r_state 0), .int u_4, .int u_1]) rfl ?_
      refine lv_aload_n hx hb dX11_guessOf_48 rfl (lv_at hl 1 rfl) ?_
      refine va_get (D := D) (ci := 9) (v := .ref (Y 14)) (C := RX11) (T := TX11) (N := 35) hx hb hts iX11 hown hK hP 0 rfl rfl 14 (by decide) k37 (fun _ h9 => h9) rfl dX11_guessOf_49 ?_
      refine lv_iconst (v := 2) hx hb dX11_guessOf_52 (by decide) ?_
      have q_7 : vp_in (2 : Int32) 17 := vp_in_iff.mpr (by decide)
      refine va_iald hx hb hK hP 10 0 rfl rfl q_7 dX11_guessOf_53 ?_
      refine W.eq (g2 := F0 m 54 ls [.int (r_state 2), .int (r_state 1), .int (r_state 0), .int u_4, .int u_1]) rfl ?_
      refine mx_callS (As := [.int u_1, .int u_4, .int (r_state 0), .int (r_state 1), .int (r_state 2)]) (rest := []) ⟨hx, hb, hml, hown, hts⟩ (mtX11_guessBy l D cI cB cK cS (mdW Y cI m_thrown m_status m_isThere m_kinds m_newKinds m_print m_low m_high m_lot m_taped m_latest m_length m_cursor m_token m_from m_till m_fault m_faultAt m_traced r_lane r_many r_item r_market r_of r_newMarket r_newStart r_newOf r_newCoin r_state r_kept r_tape r_brings r_seen r_seenOut r_trace ++ R) u_1 u_4 (r_state 0) (r_state 1) (r_state 2)) (va_cwS 5 hts gX11_guessOf_X11_guessBy rfl rfl rfl (by decide +kernel) ⟨Nat.le_of_ble_eq_true rfl, Nat.le_of_ble_eq_true rfl⟩) pF0_ok trivial hK hP hD hS hA rfl hl.1 rfl (Nat.le_of_ble_eq_true rfl) dX11_guessOf_54 ⟨Nat.le_refl _, Nat.le_refl _⟩ (fun u_8 H locs eu_8 hP hD hS => ?_)
      refine W.eq (g2 := F0 m 57 ls [.int u_8]) rfl ?_
      have hP : va_P D vwCl (mdW Y cI m_thrown m_status m_isThere m_kinds m_newKinds m_print m_low m_high m_lot m_taped m_latest m_length m_cursor m_token m_from m_till m_fault m_faultAt m_traced r_lane r_many r_item r_market r_of r_newMarket r_newStart r_newOf r_newCoin r_state r_kept r_tape r_brings r_seen r_seenOut r_trace ++ R) H := hP
      have hD : va_D A (mdW Y cI m_thrown m_status m_isThere m_kinds m_newKinds m_print m_low m_high m_lot m_taped m_latest m_length m_cursor m_token m_from m_till m_fault m_faultAt m_traced r_lane r_many r_item r_market r_of r_newMarket r_newStart r_newOf r_newCoin r_state r_kept r_tape r_brings r_seen r_seenOut r_trace ++ R) := hD
      rw [hQm]
      exact mx_iret (u0 := sX11_guessOf k g m_print r_of r_state) (rv := (fun u => some (.int u))) (w1 := (fun _ => mdW Y cI m_thrown m_status m_isThere m_kinds m_newKinds m_print m_low m_high m_lot m_taped m_latest m_length m_cursor m_token m_from m_till m_fault m_faultAt m_traced r_lane r_many r_item r_market r_of r_newMarket r_newStart r_newOf r_newCoin r_state r_kept r_tape r_brings r_seen r_seenOut r_trace ++ R)) (u := (u_8)) hx hb hr hlocks hK hS (lt_eq eu_1 ((if_neg c_2).trans ((if_neg c_3).trans (lt_eq eu_4 (lt_eq eu_8 rfl))))) hP hD rfl dX11_guessOf_57
    · refine lv_aload_n hx hb dX11_guessOf_22 rfl (lv_at hl 1 rfl) ?_
      refine va_get (D := D) (ci := 9) (v := .int m_print) (C := RX11) (T := TX11) (N := 35) hx hb hts iX11 hown hK hP 0 rfl rfl 16 (by decide) k185 (fun _ h9 => h9) rfl dX11_guessOf_23 ?_
      refine lv_goto (tgt := 57) hx hb dX11_guessOf_26 (by decide) ?_
      rw [hQm]
      exact mx_iret (u0 := sX11_guessOf k g m_print r_of r_state) (rv := (fun u => some (.int u))) (w1 := (fun _ => mdW Y cI m_thrown m_status m_isThere m_kinds m_newKinds m_print m_low m_high m_lot m_taped m_latest m_length m_cursor m_token m_from m_till m_fault m_faultAt m_traced r_lane r_many r_item r_market r_of r_newMarket r_newStart r_newOf r_newCoin r_state r_kept r_tape r_brings r_seen r_seenOut r_trace ++ R)) (u := (m_print)) hx hb hr hlocks hK hS (lt_eq eu_1 ((if_neg c_2).trans ((if_pos c_3).trans rfl))) hP hD rfl dX11_guessOf_57
  · refine lv_iload_n hx hb dX11_guessOf_13 rfl (lv_at hl 3 rfl) ?_
    refine lv_goto (tgt := 57) hx hb dX11_guessOf_14 (by decide) ?_
    rw [hQm]
    exact mx_iret (u0 := sX11_guessOf k g m_print r_of r_state) (rv := (fun u => some (.int u))) (w1 := (fun _ => mdW Y cI m_thrown m_status m_isThere m_kinds m_newKinds m_print m_low m_high m_lot m_taped m_latest m_length m_cursor m_token m_from m_till m_fault m_faultAt m_traced r_lane r_many r_item r_market r_of r_newMarket r_newStart r_newOf r_newCoin r_state r_kept r_tape r_brings r_seen r_seenOut r_trace ++ R)) (u := (g)) hx hb hr hlocks hK hS (lt_eq eu_1 ((if_pos c_2).trans rfl)) hP hD rfl dX11_guessOf_57

def lX11_pigsWith_4 (g : Int32) (m_kinds : Int32) (m_print : Int32) (r_of : Nat → Int32) (r_state : Nat → Int32) : Nat → Int32 → Int32 → Int32 × Int32
  | 0, x3_4, x2_4 => (x3_4, x2_4)
  | n + 1, x3_4, x2_4 => if m_kinds ≤ x3_4 then ((x3_4, x2_4)) else (lt (sX11_isOut x3_4 r_state) (fun u_2 : Int32 => lt (if u_2 = 0 then (lt (sX11_told x3_4 2 r_of) (fun u_5 : Int32 => lt (sX11_guessOf x3_4 g m_print r_of r_state) (fun u_6 : Int32 => lt (sX11_pigsBy x3_4 u_6 r_of) (fun u_7 : Int32 => (u_5 * u_7))))) else (0)) (fun y_3 : Int32 => lt (x2_4 + y_3) (fun x_8 : Int32 => lt (x3_4 + 1) (fun x_9 : Int32 => lX11_pigsWith_4 g m_kinds m_print r_of r_state n x_9 x_8)))))

def sX11_pigsWith (g : Int32) (m_kinds : Int32) (m_print : Int32) (r_of : Nat → Int32) (r_state : Nat → Int32) : Int32 := lt (lX11_pigsWith_4 g m_kinds m_print r_of r_state 6 0 0) (fun u_10 : Int32 × Int32 => (u_10.2))
set_option maxHeartbeats 4000000 in
set_option maxRecDepth 100000 in
theorem mtX11_pigsWith (l : Launch) (D : va_G) (cI cB cK cS : ClassId) (Y : Nat → Nat) (R : va_W) (m_thrown : Int32) (m_status : Int32) (m_isThere : Int32) (m_kinds : Int32) (m_newKinds : Int32) (m_print : Int32) (m_low : Int32) (m_high : Int32) (m_lot : Int32) (m_taped : Int32) (m_latest : Int32) (m_length : Int32) (m_cursor : Int32) (m_token : Int32) (m_from : Int32) (m_till : Int32) (m_fault : Int32) (m_faultAt : Int32) (m_traced : Int32) (r_lane : Nat → Int32) (r_many : Nat → Int32) (r_item : Nat → Int32) (r_market : Nat → Int32) (r_of : Nat → Int32) (r_newMarket : Nat → Int32) (r_newStart : Nat → Int32) (r_newOf : Nat → Int32) (r_newCoin : Nat → Int32) (r_state : Nat → Int32) (r_kept : Nat → Int32) (r_tape : Nat → Int32) (r_brings : Nat → Int32) (r_seen : Nat → Int32) (r_seenOut : Nat → Int32) (r_trace : Nat → Int32) (g : Int32) (hkd : m_kinds.toInt ≤ 5) : MX l yX11_pigsWith wsX11_pigsWith (rmX 4) D (tyX cI cB cK cS) pF0 (mdW Y cI m_thrown m_status m_isThere m_kinds m_newKinds m_print m_low m_high m_lot m_taped m_latest m_length m_cursor m_token m_from m_till m_fault m_faultAt m_traced r_lane r_many r_item r_market r_of r_newMarket r_newStart r_newOf r_newCoin r_state r_kept r_tape r_brings r_seen r_seenOut r_trace ++ R) [.ref (Y 0), .int g] (sX11_pigsWith g m_kinds m_print r_of r_state) (fun u => some (.int u)) (fun _ => mdW Y cI m_thrown m_status m_isThere m_kinds m_newKinds m_print m_low m_high m_lot m_taped m_latest m_length m_cursor m_token m_from m_till m_fault m_faultAt m_traced r_lane r_many r_item r_market r_of r_newMarket r_newStart r_newOf r_newCoin r_state r_kept r_tape r_brings r_seen r_seenOut r_trace ++ R) := by
  refine mx_intro (cc := cX11_pigsWith) (maxL := 4) (ret := (some .int)) (by decide) rfl (Nat.le_of_ble_eq_true rfl) ?_
  intro p e s m below meth c A ls H locs Qm hQm hx hb hr hml hts hown hlocks hA hS hP hK hD hF hl
  have hown : s.vm.findClass RX11 = some m.cls := hown
  have hl : lv_has ls 4 [(0, .ref (Y 0)), (1, .int g)] := hl
  have k180 := hts (.fieldLink RX11 180 "PigRoundsModel" "kinds" "I") (by decide +kernel)
  have iX11 : ∀ w ∈ u_ws RX11 TX11 35, w ∈ wsX11_pigsWith := by decide +kernel
  refine lv_iconst (v := 0) hx hb dX11_pigsWith_0 (by decide) ?_
  refine lv_istore_n (lv' := [(2, .int 0), (0, .ref (Y 0)), (1, .int g)]) hx hb dX11_pigsWith_1 rfl hl (by decide) rfl (fun ls hl => ?_)
  refine lv_iconst (v := 0) hx hb dX11_pigsWith_2 (by decide) ?_
  refine lv_istore_n (lv' := [(3, .int 0), (2, .int 0), (0, .ref (Y 0)), (1, .int g)]) hx hb dX11_pigsWith_3 rfl hl (by decide) rfl (fun ls hl => ?_)
  have L_4 : ∀ (n : Nat) (x3_4 : Int32) (x2_4 : Int32) (H : Heap) (locs : List Loc) (ls : Array Slot), 0 ≤ x3_4.toInt → x3_4.toInt ≤ 5 → (5 : Int) < x3_4.toInt + ((n : Nat) : Int) → va_P D vwCl (mdW Y cI m_thrown m_status m_isThere m_kinds m_newKinds m_print m_low m_high m_lot m_taped m_latest m_length m_cursor m_token m_from m_till m_fault m_faultAt m_traced r_lane r_many r_item r_market r_of r_newMarket r_newStart r_newOf r_newCoin r_state r_kept r_tape r_brings r_seen r_seenOut r_trace ++ R) H → va_D A (mdW Y cI m_thrown m_status m_isThere m_kinds m_newKinds m_print m_low m_high m_lot m_taped m_latest m_length m_cursor m_token m_from m_till m_fault m_faultAt m_traced r_lane r_many r_item r_market r_of r_newMarket r_newStart r_newOf r_newCoin r_state r_kept r_tape r_brings r_seen r_seenOut r_trace ++ R) → va_S A s.heap H locs → lv_has ls 4 [(3, .int x3_4), (2, .int x2_4), (0, .ref (Y 0)), (1, .int g)] → (∀ (u : Int32 × Int32) (H : Heap) (locs : List Loc) (ls : Array Slot), u = lX11_pigsWith_4 g m_kinds m_print r_of r_state n x3_4 x2_4 → va_P D vwCl (mdW Y cI m_thrown m_status m_isThere m_kinds m_newKinds m_print m_low m_high m_lot m_taped m_latest m_length m_cursor m_token m_from m_till m_fault m_faultAt m_traced r_lane r_many r_item r_market r_of r_newMarket r_newStart r_newOf r_newCoin r_state r_kept r_tape r_brings r_seen r_seenOut r_trace ++ R) H → va_D A (mdW Y cI m_thrown m_status m_isThere m_kinds m_newKinds m_print m_low m_high m_lot m_taped m_latest m_length m_cursor m_token m_from m_till m_fault m_faultAt m_traced r_lane r_many r_item r_market r_of r_newMarket r_newStart r_newOf r_newCoin r_state r_kept r_tape r_brings r_seen r_seenOut r_trace ++ R) → va_S A s.heap H locs → lv_has ls 4 [(2, .int u.2)] → W p l e (rmX 4) s m ([.ref (Y 0), .int g] : List Value).toArray below meth c H locs 0 0 Qm (F0 m 51 ls [])) → W p l e (rmX 4) s m ([.ref (Y 0), .int g] : List Value).toArray below meth c H locs 0 0 Qm (F0 m 4 ls []) := by
    intro n
    induction n with
    | zero =>
      intro x3_4 x2_4 H locs ls iv_4_0 iv_4_1 iv_4_2 hP hD hS hl kont_4
      exfalso; omega
    | succ n ih_4 =>
      intro x3_4 x2_4 H locs ls iv_4_0 iv_4_1 iv_4_2 hP hD hS hl kont_4
      refine lv_iload_n hx hb dX11_pigsWith_4 rfl (lv_at hl 0 rfl) ?_
      refine lv_aload_n hx hb dX11_pigsWith_5 rfl (lv_at hl 2 rfl) ?_
      refine va_get (D := D) (ci := 9) (v := .int m_kinds) (C := RX11) (T := TX11) (N := 35) hx hb hts iX11 hown hK hP 0 rfl rfl 6 (by decide) k180 (fun _ h9 => h9) rfl dX11_pigsWith_6 ?_
      refine lv_icmp_ge (tgt := 51) hx hb dX11_pigsWith_9 (by decide) (fun c_1 => ?_) (fun c_1 => ?_)
      · have d_1 := i_le rfl rfl c_1
        exact kont_4 (x3_4, x2_4) H locs ls (show lX11_pigsWith_4 g m_kinds m_print r_of r_state (n + 1) x3_4 x2_4 = (x3_4, x2_4) from ((if_pos c_1).trans rfl)).symm  hP hD hS (lv_sub hl [1] rfl)
      · have d_1 := i_len rfl rfl c_1
        refine lv_iload_n hx hb dX11_pigsWith_12 rfl (lv_at hl 1 rfl) ?_
        refine lv_aload_n hx hb dX11_pigsWith_13 rfl (lv_at hl 2 rfl) ?_
        refine lv_iload_n hx hb dX11_pigsWith_14 rfl (lv_at hl 0 rfl) ?_
        refine mx_callV (As := [.int x3_4]) (rest := [.int x2_4]) ⟨hx, hb, hml, hown, hts⟩ (mtX11_isOut l D cI cB cK cS Y R m_thrown m_status m_isThere m_kinds m_newKinds m_print m_low m_high m_lot m_taped m_latest m_length m_cursor m_token m_from m_till m_fault m_faultAt m_traced r_lane r_many r_item r_market r_of r_newMarket r_newStart r_newOf r_newCoin r_state r_kept r_tape r_brings r_seen r_seenOut r_trace x3_4 (by omega) (by omega)) (cwV 1 hts gX11_pigsWith_X11_isOut rfl rfl rfl (by decide +kernel) ⟨Nat.le_of_ble_eq_true rfl, Nat.le_of_ble_eq_true rfl⟩) pF0_ok trivial hK hP hD hS hA 0 rfl rfl rfl rfl hl.1 rfl (Nat.le_of_ble_eq_true rfl) dX11_pigsWith_15 ⟨Nat.le_refl _, Nat.le_refl _⟩ (fun u_2 H locs eu_2 hP hD hS => ?_)
        refine W.eq (g2 := F0 m 18 ls [.int u_2, .int x2_4]) rfl ?_
        have hP : va_P D vwCl (mdW Y cI m_thrown m_status m_isThere m_kinds m_newKinds m_print m_low m_high m_lot m_taped m_latest m_length m_cursor m_token m_from m_till m_fault m_faultAt m_traced r_lane r_many r_item r_market r_of r_newMarket r_newStart r_newOf r_newCoin r_state r_kept r_tape r_brings r_seen r_seenOut r_trace ++ R) H := hP
        have hD : va_D A (mdW Y cI m_thrown m_status m_isThere m_kinds m_newKinds m_print m_low m_high m_lot m_taped m_latest m_length m_cursor m_token m_from m_till m_fault m_faultAt m_traced r_lane r_many r_item r_market r_of r_newMarket r_newStart r_newOf r_newCoin r_state r_kept r_tape r_brings r_seen r_seenOut r_trace ++ R) := hD
        have J_3 : ∀ (y_3 : Int32) (H : Heap) (locs : List Loc) (ls : Array Slot), y_3 = (if u_2 = 0 then (lt (sX11_told x3_4 2 r_of) (fun u_5 : Int32 => lt (sX11_guessOf x3_4 g m_print r_of r_state) (fun u_6 : Int32 => lt (sX11_pigsBy x3_4 u_6 r_of) (fun u_7 : Int32 => (u_5 * u_7))))) else (0)) → va_P D vwCl (mdW Y cI m_thrown m_status m_isThere m_kinds m_newKinds m_print m_low m_high m_lot m_taped m_latest m_length m_cursor m_token m_from m_till m_fault m_faultAt m_traced r_lane r_many r_item r_market r_of r_newMarket r_newStart r_newOf r_newCoin r_state r_kept r_tape r_brings r_seen r_seenOut r_trace ++ R) H → va_D A (mdW Y cI m_thrown m_status m_isThere m_kinds m_newKinds m_print m_low m_high m_lot m_taped m_latest m_length m_cursor m_token m_from m_till m_fault m_faultAt m_traced r_lane r_many r_item r_market r_of r_newMarket r_newStart r_newOf r_newCoin r_state r_kept r_tape r_brings r_seen r_seenOut r_trace ++ R) → va_S A s.heap H locs → lv_has ls 4 [(3, .int x3_4), (0, .ref (Y 0)), (1, .int g)] → W p l e (rmX 4) s m ([.ref (Y 0), .int g] : List Value).toArray below meth c H locs 0 0 Qm (F0 m 43 ls [.int y_3, .int x2_4]) := by
          intro y_3 H locs ls ey_3 hP hD hS hl
          refine lv_iadd hx hb dX11_pigsWith_43 ?_
          refine lv_topi (fun x_8 ex_8 => ?_)
          refine lv_istore_n (lv' := [(2, .int x_8), (3, .int x3_4), (0, .ref (Y 0)), (1, .int g)]) hx hb dX11_pigsWith_44 rfl hl (by decide) rfl (fun ls hl => ?_)
          obtain ⟨x_9, ex_9⟩ : ∃ z : Int32, z = x3_4 + 1 := ⟨_, rfl⟩
          refine lv_iinc (v := x_9) (lv' := [(3, .int x_9), (2, .int x_8), (0, .ref (Y 0)), (1, .int g)]) hx hb dX11_pigsWith_45 hl (k := 1) rfl (by rw [ex_9]; rfl) (by decide) rfl (fun ls hl => ?_)
          refine lv_goto (tgt := 4) hx hb dX11_pigsWith_48 (by decide) ?_
          have tx_9 : x_9.toInt = x3_4.toInt + 1 := i_inc ex_9 (by decide) (by omega) (by omega)
          refine ih_4 x_9 x_8 H locs ls (by omega) (by omega) (by omega) hP hD hS (lv_sub hl [0, 1, 2, 3] rfl) (fun u H locs ls eu  hP hD hS hl => ?_)
          exact kont_4 u H locs ls (eu.trans (show lX11_pigsWith_4 g m_kinds m_print r_of r_state (n + 1) x3_4 x2_4 = lX11_pigsWith_4 g m_kinds m_print r_of r_state n x_9 x_8 from ((if_neg c_1).trans (lt_eq eu_2 (lt_eq ey_3 (lt_eq ex_8 (lt_eq ex_9 rfl)))))).symm)  hP hD hS hl
        refine lv_if_eq (tgt := 25) hx hb dX11_pigsWith_18 (by decide) (fun c_4 => ?_) (fun c_4 => ?_)
        · have d_4 := i_eq rfl (show (0 : Int32).toInt = 0 from by decide) c_4
          refine lv_aload_n hx hb dX11_pigsWith_25 rfl (lv_at hl 2 rfl) ?_
          refine lv_iload_n hx hb dX11_pigsWith_26 rfl (lv_at hl 0 rfl) ?_
          refine lv_iconst (v := 2) hx hb dX11_pigsWith_27 (by decide) ?_
          refine mx_callV (As := [.int x3_4, .int 2]) (rest := [.int x2_4]) ⟨hx, hb, hml, hown, hts⟩ (mtX11_told l D cI cB cK cS Y R m_thrown m_status m_isThere m_kinds m_newKinds m_print m_low m_high m_lot m_taped m_latest m_length m_cursor m_token m_from m_till m_fault m_faultAt m_traced r_lane r_many r_item r_market r_of r_newMarket r_newStart r_newOf r_newCoin r_state r_kept r_tape r_brings r_seen r_seenOut r_trace x3_4 2 (vp_in_iff.mpr (by rw [show (6 * x3_4 + 2).toInt = ((6 * x3_4.toInt) + 2) from (i_addv (i_mulv (show (6 : Int32).toInt = 6 from by decide) rfl (by omega) (by omega)) (show (2 : Int32).toInt = 2 from by decide) (by omega) (by omega))]; constructor <;> omega))) (cwV 2 hts gX11_pigsWith_X11_told rfl rfl rfl (by decide +kernel) ⟨Nat.le_of_ble_eq_true rfl, Nat.le_of_ble_eq_true rfl⟩) pF0_ok trivial hK hP hD hS hA 0 rfl rfl rfl rfl hl.1 rfl (Nat.le_of_ble_eq_true rfl) dX11_pigsWith_28 ⟨Nat.le_refl _, Nat.le_refl _⟩ (fun u_5 H locs eu_5 hP hD hS => ?_)
          refine W.eq (g2 := F0 m 31 ls [.int u_5, .int x2_4]) rfl ?_
          have hP : va_P D vwCl (mdW Y cI m_thrown m_status m_isThere m_kinds m_newKinds m_print m_low m_high m_lot m_taped m_latest m_length m_cursor m_token m_from m_till m_fault m_faultAt m_traced r_lane r_many r_item r_market r_of r_newMarket r_newStart r_newOf r_newCoin r_state r_kept r_tape r_brings r_seen r_seenOut r_trace ++ R) H := hP
          have hD : va_D A (mdW Y cI m_thrown m_status m_isThere m_kinds m_newKinds m_print m_low m_high m_lot m_taped m_latest m_length m_cursor m_token m_from m_till m_fault m_faultAt m_traced r_lane r_many r_item r_market r_of r_newMarket r_newStart r_newOf r_newCoin r_state r_kept r_tape r_brings r_seen r_seenOut r_trace ++ R) := hD
          refine lv_aload_n hx hb dX11_pigsWith_31 rfl (lv_at hl 2 rfl) ?_
          refine lv_iload_n hx hb dX11_pigsWith_32 rfl (lv_at hl 0 rfl) ?_
          refine lv_aload_n hx hb dX11_pigsWith_33 rfl (lv_at hl 2 rfl) ?_
          refine lv_iload_n hx hb dX11_pigsWith_34 rfl (lv_at hl 0 rfl) ?_
          refine lv_iload_n hx hb dX11_pigsWith_35 rfl (lv_at hl 3 rfl) ?_
          refine mx_callV (As := [.int x3_4, .int g]) (rest := [.int x3_4, .ref (Y 0), .int u_5, .int x2_4]) ⟨hx, hb, hml, hown, hts⟩ (mtX11_guessOf l D cI cB cK cS Y R m_thrown m_status m_isThere m_kinds m_newKinds m_print m_low m_high m_lot m_taped m_latest m_length m_cursor m_token m_from m_till m_fault m_faultAt m_traced r_lane r_many r_item r_market r_of r_newMarket r_newStart r_newOf r_newCoin r_state r_kept r_tape r_brings r_seen r_seenOut r_trace x3_4 g (by omega) (by omega)) (cwV 2 hts gX11_pigsWith_X11_guessOf rfl rfl rfl (by decide +kernel) ⟨Nat.le_of_ble_eq_true rfl, Nat.le_of_ble_eq_true rfl⟩) pF0_ok trivial hK hP hD hS hA 0 rfl rfl rfl rfl hl.1 rfl (Nat.le_of_ble_eq_true rfl) dX11_pigsWith_36 ⟨Nat.le_refl _, Nat.le_refl _⟩ (fun u_6 H locs eu_6 hP hD hS => ?_)
          refine W.eq (g2 := F0 m 39 ls [.int u_6, .int x3_4, .ref (Y 0), .int u_5, .int x2_4]) rfl ?_
          have hP : va_P D vwCl (mdW Y cI m_thrown m_status m_isThere m_kinds m_newKinds m_print m_low m_high m_lot m_taped m_latest m_length m_cursor m_token m_from m_till m_fault m_faultAt m_traced r_lane r_many r_item r_market r_of r_newMarket r_newStart r_newOf r_newCoin r_state r_kept r_tape r_brings r_seen r_seenOut r_trace ++ R) H := hP
          have hD : va_D A (mdW Y cI m_thrown m_status m_isThere m_kinds m_newKinds m_print m_low m_high m_lot m_taped m_latest m_length m_cursor m_token m_from m_till m_fault m_faultAt m_traced r_lane r_many r_item r_market r_of r_newMarket r_newStart r_newOf r_newCoin r_state r_kept r_tape r_brings r_seen r_seenOut r_trace ++ R) := hD
          refine mx_callV (As := [.int x3_4, .int u_6]) (rest := [.int u_5, .int x2_4]) ⟨hx, hb, hml, hown, hts⟩ (mtX11_pigsBy l D cI cB cK cS Y R m_thrown m_status m_isThere m_kinds m_newKinds m_print m_low m_high m_lot m_taped m_latest m_length m_cursor m_token m_from m_till m_fault m_faultAt m_traced r_lane r_many r_item r_market r_of r_newMarket r_newStart r_newOf r_newCoin r_state r_kept r_tape r_brings r_seen r_seenOut r_trace x3_4 u_6 (by omega) (by omega)) (cwV 2 hts gX11_pigsWith_X11_pigsBy rfl rfl rfl (by decide +kernel) ⟨Nat.le_of_ble_eq_true rfl, Nat.le_of_ble_eq_true rfl⟩) pF0_ok trivial hK hP hD hS hA 0 rfl rfl rfl rfl hl.1 rfl (Nat.le_of_ble_eq_true rfl) dX11_pigsWith_39 ⟨Nat.le_refl _, Nat.le_refl _⟩ (fun u_7 H locs eu_7 hP hD hS => ?_)
          refine W.eq (g2 := F0 m 42 ls [.int u_7, .int u_5, .int x2_4]) rfl ?_
          have hP : va_P D vwCl (mdW Y cI m_thrown m_status m_isThere m_kinds m_newKinds m_print m_low m_high m_lot m_taped m_latest m_length m_cursor m_token m_from m_till m_fault m_faultAt m_traced r_lane r_many r_item r_market r_of r_newMarket r_newStart r_newOf r_newCoin r_state r_kept r_tape r_brings r_seen r_seenOut r_trace ++ R) H := hP
          have hD : va_D A (mdW Y cI m_thrown m_status m_isThere m_kinds m_newKinds m_print m_low m_high m_lot m_taped m_latest m_length m_cursor m_token m_from m_till m_fault m_faultAt m_traced r_lane r_many r_item r_market r_of r_newMarket r_newStart r_newOf r_newCoin r_state r_kept r_tape r_brings r_seen r_seenOut r_trace ++ R) := hD
          refine lv_imul hx hb dX11_pigsWith_42 ?_
          exact J_3 (u_5 * u_7) H locs ls (Eq.symm ((if_pos c_4).trans (lt_eq eu_5 (lt_eq eu_6 (lt_eq eu_7 rfl))))) hP hD hS (lv_sub hl [0, 2, 3] rfl)
        · have d_4 := i_eqn rfl (show (0 : Int32).toInt = 0 from by decide) c_4
          refine lv_iconst (v := 0) hx hb dX11_pigsWith_21 (by decide) ?_
          refine lv_goto (tgt := 43) hx hb dX11_pigsWith_22 (by decide) ?_
          exact J_3 0 H locs ls (Eq.symm ((if_neg c_4).trans rfl)) hP hD hS (lv_sub hl [0, 2, 3] rfl)
  refine L_4 6 0 0 H locs ls (by decide) (by decide) (by decide) hP hD hS (lv_sub hl [0, 1, 2, 3] rfl) (fun u_10 H locs ls eu_10  hP hD hS hl => ?_)
  have hP : va_P D vwCl (mdW Y cI m_thrown m_status m_isThere m_kinds m_newKinds m_print m_low m_high m_lot m_taped m_latest m_length m_cursor m_token m_from m_till m_fault m_faultAt m_traced r_lane r_many r_item r_market r_of r_newMarket r_newStart r_newOf r_newCoin r_state r_kept r_tape r_brings r_seen r_seenOut r_trace ++ R) H := hP
  have hD : va_D A (mdW Y cI m_thrown m_status m_isThere m_kinds m_newKinds m_print m_low m_high m_lot m_taped m_latest m_length m_cursor m_token m_from m_till m_fault m_faultAt m_traced r_lane r_many r_item r_market r_of r_newMarket r_newStart r_newOf r_newCoin r_state r_kept r_tape r_brings r_seen r_seenOut r_trace ++ R) := hD
  refine lv_iload_n hx hb dX11_pigsWith_51 rfl (lv_at hl 0 rfl) ?_
  rw [hQm]
  exact mx_iret (u0 := sX11_pigsWith g m_kinds m_print r_of r_state) (rv := (fun u => some (.int u))) (w1 := (fun _ => mdW Y cI m_thrown m_status m_isThere m_kinds m_newKinds m_print m_low m_high m_lot m_taped m_latest m_length m_cursor m_token m_from m_till m_fault m_faultAt m_traced r_lane r_many r_item r_market r_of r_newMarket r_newStart r_newOf r_newCoin r_state r_kept r_tape r_brings r_seen r_seenOut r_trace ++ R)) (u := (u_10.2)) hx hb hr hlocks hK hS (lt_eq eu_10 rfl) hP hD rfl dX11_pigsWith_52

def sX11_priceOf (g : Int32) (r_market : Nat → Int32) : Int32 := lt ((r_market 0) - (g / (r_market 1))) (fun x_3 : Int32 => if 0 ≤ x_3 then ((x_3)) else ((0)))
set_option maxHeartbeats 4000000 in
set_option maxRecDepth 100000 in
theorem mtX11_priceOf (l : Launch) (D : va_G) (cI cB cK cS : ClassId) (Y : Nat → Nat) (R : va_W) (m_thrown : Int32) (m_status : Int32) (m_isThere : Int32) (m_kinds : Int32) (m_newKinds : Int32) (m_print : Int32) (m_low : Int32) (m_high : Int32) (m_lot : Int32) (m_taped : Int32) (m_latest : Int32) (m_length : Int32) (m_cursor : Int32) (m_token : Int32) (m_from : Int32) (m_till : Int32) (m_fault : Int32) (m_faultAt : Int32) (m_traced : Int32) (r_lane : Nat → Int32) (r_many : Nat → Int32) (r_item : Nat → Int32) (r_market : Nat → Int32) (r_of : Nat → Int32) (r_newMarket : Nat → Int32) (r_newStart : Nat → Int32) (r_newOf : Nat → Int32) (r_newCoin : Nat → Int32) (r_state : Nat → Int32) (r_kept : Nat → Int32) (r_tape : Nat → Int32) (r_brings : Nat → Int32) (r_seen : Nat → Int32) (r_seenOut : Nat → Int32) (r_trace : Nat → Int32) (g : Int32) (hmk : ¬ r_market 1 = 0) : MX l yX11_priceOf wsX11_priceOf (rmX 1) D (tyX cI cB cK cS) pF0 (mdW Y cI m_thrown m_status m_isThere m_kinds m_newKinds m_print m_low m_high m_lot m_taped m_latest m_length m_cursor m_token m_from m_till m_fault m_faultAt m_traced r_lane r_many r_item r_market r_of r_newMarket r_newStart r_newOf r_newCoin r_state r_kept r_tape r_brings r_seen r_seenOut r_trace ++ R) [.ref (Y 0), .int g] (sX11_priceOf g r_market) (fun u => some (.int u)) (fun _ => mdW Y cI m_thrown m_status m_isThere m_kinds m_newKinds m_print m_low m_high m_lot m_taped m_latest m_length m_cursor m_token m_from m_till m_fault m_faultAt m_traced r_lane r_many r_item r_market r_of r_newMarket r_newStart r_newOf r_newCoin r_state r_kept r_tape r_brings r_seen r_seenOut r_trace ++ R) := by
  refine mx_intro (cc := cX11_priceOf) (maxL := 3) (ret := (some .int)) (by decide) rfl (Nat.le_of_ble_eq_true rfl) ?_
  intro p e s m below meth c A ls H locs Qm hQm hx hb hr hml hts hown hlocks hA hS hP hK hD hF hl
  have hown : s.vm.findClass RX11 = some m.cls := hown
  have hl : lv_has ls 3 [(0, .ref (Y 0)), (1, .int g)] := hl
  have k19 := hts (.fieldLink RX11 19 "PigRoundsModel" "market" "[I") (by decide +kernel)
  have iX11 : ∀ w ∈ u_ws RX11 TX11 35, w ∈ wsX11_priceOf := by decide +kernel
  refine lv_aload_n hx hb dX11_priceOf_0 rfl (lv_at hl 0 rfl) ?_
  refine va_get (D := D) (ci := 9) (v := .ref (Y 7)) (C := RX11) (T := TX11) (N := 35) hx hb hts iX11 hown hK hP 0 rfl rfl 7 (by decide) k19 (fun _ h9 => h9) rfl dX11_priceOf_1 ?_
  refine lv_iconst (v := 0) hx hb dX11_priceOf_4 (by decide) ?_
  have q_1 : vp_in (0 : Int32) 3 := vp_in_iff.mpr (by decide)
  refine va_iald hx hb hK hP 4 0 rfl rfl q_1 dX11_priceOf_5 ?_
  refine W.eq (g2 := F0 m 6 ls [.int (r_market 0)]) rfl ?_
  refine lv_iload_n hx hb dX11_priceOf_6 rfl (lv_at hl 1 rfl) ?_
  refine lv_aload_n hx hb dX11_priceOf_7 rfl (lv_at hl 0 rfl) ?_
  refine va_get (D := D) (ci := 9) (v := .ref (Y 7)) (C := RX11) (T := TX11) (N := 35) hx hb hts iX11 hown hK hP 0 rfl rfl 7 (by decide) k19 (fun _ h9 => h9) rfl dX11_priceOf_8 ?_
  refine lv_iconst (v := 1) hx hb dX11_priceOf_11 (by decide) ?_
  have q_2 : vp_in (1 : Int32) 3 := vp_in_iff.mpr (by decide)
  refine va_iald hx hb hK hP 4 0 rfl rfl q_2 dX11_priceOf_12 ?_
  refine W.eq (g2 := F0 m 13 ls [.int (r_market 1), .int g, .int (r_market 0)]) rfl ?_
  refine lv_idiv hx hb dX11_priceOf_13 hmk ?_
  refine lv_isub hx hb dX11_priceOf_14 ?_
  refine lv_topi (fun x_3 ex_3 => ?_)
  refine lv_istore_n (lv' := [(2, .int x_3), (0, .ref (Y 0)), (1, .int g)]) hx hb dX11_priceOf_15 rfl hl (by decide) rfl (fun ls hl => ?_)
  refine lv_iload_n hx hb dX11_priceOf_16 rfl (lv_at hl 0 rfl) ?_
  refine lv_if_ge (tgt := 24) hx hb dX11_priceOf_17 (by decide) (fun c_4 => ?_) (fun c_4 => ?_)
  · refine lv_iload_n hx hb dX11_priceOf_24 rfl (lv_at hl 0 rfl) ?_
    rw [hQm]
    exact mx_iret (u0 := sX11_priceOf g r_market) (rv := (fun u => some (.int u))) (w1 := (fun _ => mdW Y cI m_thrown m_status m_isThere m_kinds m_newKinds m_print m_low m_high m_lot m_taped m_latest m_length m_cursor m_token m_from m_till m_fault m_faultAt m_traced r_lane r_many r_item r_market r_of r_newMarket r_newStart r_newOf r_newCoin r_state r_kept r_tape r_brings r_seen r_seenOut r_trace ++ R)) (u := (x_3)) hx hb hr hlocks hK hS (lt_eq ex_3 ((if_pos c_4).trans rfl)) hP hD rfl dX11_priceOf_25
  · refine lv_iconst (v := 0) hx hb dX11_priceOf_20 (by decide) ?_
    refine lv_goto (tgt := 25) hx hb dX11_priceOf_21 (by decide) ?_
    rw [hQm]
    exact mx_iret (u0 := sX11_priceOf g r_market) (rv := (fun u => some (.int u))) (w1 := (fun _ => mdW Y cI m_thrown m_status m_isThere m_kinds m_newKinds m_print m_low m_high m_lot m_taped m_latest m_length m_cursor m_token m_from m_till m_fault m_faultAt m_traced r_lane r_many r_item r_market r_of r_newMarket r_newStart r_newOf r_newCoin r_state r_kept r_tape r_brings r_seen r_seenOut r_trace ++ R)) (u := (0)) hx hb hr hlocks hK hS (lt_eq ex_3 ((if_neg c_4).trans rfl)) hP hD rfl dX11_priceOf_25

def lX11_wiseGuess_8 (m_kinds : Int32) (m_print : Int32) (r_market : Nat → Int32) (r_of : Nat → Int32) (r_state : Nat → Int32) : Nat → Int32 → Int32 → Int32 → Int32 × Int32 × Int32
  | 0, x3_8, x2_8, x1_8 => (x3_8, x2_8, x1_8)
  | n + 1, x3_8, x2_8, x1_8 => if 100 ≤ x3_8 then ((x3_8, x2_8, x1_8)) else (lt (sX11_pigsWith x3_8 m_kinds m_print r_of r_state) (fun u_2 : Int32 => lt (sX11_priceOf u_2 r_market) (fun u_3 : Int32 => lt (u_3 - x3_8) (fun x_4 : Int32 => lt (if 0 ≤ x_4 then (x_4) else ((-x_4))) (fun y_5 : Int32 => lt (if x2_8 ≤ y_5 then (x1_8) else (x3_8)) (fun y_7 : Int32 => lt (if x2_8 ≤ y_5 then (x2_8) else (y_5)) (fun y_9 : Int32 => lt (x3_8 + 1) (fun x_11 : Int32 => lX11_wiseGuess_8 m_kinds m_print r_market r_of r_state n x_11 y_9 y_7))))))))

def sX11_wiseGuess (m_kinds : Int32) (m_print : Int32) (r_market : Nat → Int32) (r_of : Nat → Int32) (r_state : Nat → Int32) : Int32 := lt (lX11_wiseGuess_8 m_kinds m_print r_market r_of r_state 101 0 1000 0) (fun u_12 : Int32 × Int32 × Int32 => (u_12.2.2))
set_option maxHeartbeats 4000000 in
set_option maxRecDepth 100000 in
theorem mtX11_wiseGuess (l : Launch) (D : va_G) (cI cB cK cS : ClassId) (Y : Nat → Nat) (R : va_W) (m_thrown : Int32) (m_status : Int32) (m_isThere : Int32) (m_kinds : Int32) (m_newKinds : Int32) (m_print : Int32) (m_low : Int32) (m_high : Int32) (m_lot : Int32) (m_taped : Int32) (m_latest : Int32) (m_length : Int32) (m_cursor : Int32) (m_token : Int32) (m_from : Int32) (m_till : Int32) (m_fault : Int32) (m_faultAt : Int32) (m_traced : Int32) (r_lane : Nat → Int32) (r_many : Nat → Int32) (r_item : Nat → Int32) (r_market : Nat → Int32) (r_of : Nat → Int32) (r_newMarket : Nat → Int32) (r_newStart : Nat → Int32) (r_newOf : Nat → Int32) (r_newCoin : Nat → Int32) (r_state : Nat → Int32) (r_kept : Nat → Int32) (r_tape : Nat → Int32) (r_brings : Nat → Int32) (r_seen : Nat → Int32) (r_seenOut : Nat → Int32) (r_trace : Nat → Int32) (hkd : m_kinds.toInt ≤ 5) (hmk : ¬ r_market 1 = 0) : MX l yX11_wiseGuess wsX11_wiseGuess (rmX 5) D (tyX cI cB cK cS) pF0 (mdW Y cI m_thrown m_status m_isThere m_kinds m_newKinds m_print m_low m_high m_lot m_taped m_latest m_length m_cursor m_token m_from m_till m_fault m_faultAt m_traced r_lane r_many r_item r_market r_of r_newMarket r_newStart r_newOf r_newCoin r_state r_kept r_tape r_brings r_seen r_seenOut r_trace ++ R) [.ref (Y 0)] (sX11_wiseGuess m_kinds m_print r_market r_of r_state) (fun u => some (.int u)) (fun _ => mdW Y cI m_thrown m_status m_isThere m_kinds m_newKinds m_print m_low m_high m_lot m_taped m_latest m_length m_cursor m_token m_from m_till m_fault m_faultAt m_traced r_lane r_many r_item r_market r_of r_newMarket r_newStart r_newOf r_newCoin r_state r_kept r_tape r_brings r_seen r_seenOut r_trace ++ R) := by
  refine mx_intro (cc := cX11_wiseGuess) (maxL := 5) (ret := (some .int)) (by decide) rfl (Nat.le_of_ble_eq_true rfl) ?_
  intro p e s m below meth c A ls H locs Qm hQm hx hb hr hml hts hown hlocks hA hS hP hK hD hF hl
  have hown : s.vm.findClass RX11 = some m.cls := hown
  have hl : lv_has ls 5 [(0, .ref (Y 0))] := hl
  refine lv_iconst (v := 0) hx hb dX11_wiseGuess_0 (by decide) ?_
  refine lv_istore_n (lv' := [(1, .int 0), (0, .ref (Y 0))]) hx hb dX11_wiseGuess_1 rfl hl (by decide) rfl (fun ls hl => ?_)
  refine lv_sipush (v := 1000) hx hb dX11_wiseGuess_2 (by decide) ?_
  refine lv_istore_n (lv' := [(2, .int 1000), (1, .int 0), (0, .ref (Y 0))]) hx hb dX11_wiseGuess_5 rfl hl (by decide) rfl (fun ls hl => ?_)
  refine lv_iconst (v := 0) hx hb dX11_wiseGuess_6 (by decide) ?_
  refine lv_istore_n (lv' := [(3, .int 0), (2, .int 1000), (1, .int 0), (0, .ref (Y 0))]) hx hb dX11_wiseGuess_7 rfl hl (by decide) rfl (fun ls hl => ?_)
  have L_8 : ∀ (n : Nat) (x3_8 : Int32) (x2_8 : Int32) (x1_8 : Int32) (H : Heap) (locs : List Loc) (ls : Array Slot), 0 ≤ x3_8.toInt → x3_8.toInt ≤ 100 → (100 : Int) < x3_8.toInt + ((n : Nat) : Int) → va_P D vwCl (mdW Y cI m_thrown m_status m_isThere m_kinds m_newKinds m_print m_low m_high m_lot m_taped m_latest m_length m_cursor m_token m_from m_till m_fault m_faultAt m_traced r_lane r_many r_item r_market r_of r_newMarket r_newStart r_newOf r_newCoin r_state r_kept r_tape r_brings r_seen r_seenOut r_trace ++ R) H → va_D A (mdW Y cI m_thrown m_status m_isThere m_kinds m_newKinds m_print m_low m_high m_lot m_taped m_latest m_length m_cursor m_token m_from m_till m_fault m_faultAt m_traced r_lane r_many r_item r_market r_of r_newMarket r_newStart r_newOf r_newCoin r_state r_kept r_tape r_brings r_seen r_seenOut r_trace ++ R) → va_S A s.heap H locs → lv_has ls 5 [(3, .int x3_8), (2, .int x2_8), (1, .int x1_8), (0, .ref (Y 0))] → (∀ (u : Int32 × Int32 × Int32) (H : Heap) (locs : List Loc) (ls : Array Slot), u = lX11_wiseGuess_8 m_kinds m_print r_market r_of r_state n x3_8 x2_8 x1_8 → va_P D vwCl (mdW Y cI m_thrown m_status m_isThere m_kinds m_newKinds m_print m_low m_high m_lot m_taped m_latest m_length m_cursor m_token m_from m_till m_fault m_faultAt m_traced r_lane r_many r_item r_market r_of r_newMarket r_newStart r_newOf r_newCoin r_state r_kept r_tape r_brings r_seen r_seenOut r_trace ++ R) H → va_D A (mdW Y cI m_thrown m_status m_isThere m_kinds m_newKinds m_print m_low m_high m_lot m_taped m_latest m_length m_cursor m_token m_from m_till m_fault m_faultAt m_traced r_lane r_many r_item r_market r_of r_newMarket r_newStart r_newOf r_newCoin r_state r_kept r_tape r_brings r_seen r_seenOut r_trace ++ R) → va_S A s.heap H locs → lv_has ls 5 [(1, .int u.2.2)] → W p l e (rmX 5) s m ([.ref (Y 0)] : List Value).toArray below meth c H locs 0 0 Qm (F0 m 73 ls [])) → W p l e (rmX 5) s m ([.ref (Y 0)] : List Value).toArray below meth c H locs 0 0 Qm (F0 m 8 ls []) := by
    intro n
    induction n with
    | zero =>
      intro x3_8 x2_8 x1_8 H locs ls iv_8_0 iv_8_1 iv_8_2 hP hD hS hl kont_8
      exfalso; omega
    | succ n ih_8 =>
      intro x3_8 x2_8 x1_8 H locs ls iv_8_0 iv_8_1 iv_8_2 hP hD hS hl kont_8
      refine lv_iload_n hx hb dX11_wiseGuess_8 rfl (lv_at hl 0 rfl) ?_
      refine lv_bipush (v := 100) hx hb dX11_wiseGuess_9 (by decide) ?_
      refine lv_icmp_ge (tgt := 73) hx hb dX11_wiseGuess_11 (by decide) (fun c_1 => ?_) (fun c_1 => ?_)
      · have d_1 := i_le (show (100 : Int32).toInt = 100 from by decide) rfl c_1
        exact kont_8 (x3_8, x2_8, x1_8) H locs ls (show lX11_wiseGuess_8 m_kinds m_print r_market r_of r_state (n + 1) x3_8 x2_8 x1_8 = (x3_8, x2_8, x1_8) from ((if_pos c_1).trans rfl)).symm  hP hD hS (lv_sub hl [2] rfl)
      · have d_1 := i_len (show (100 : Int32).toInt = 100 from by decide) rfl c_1
        refine lv_aload_n hx hb dX11_wiseGuess_14 rfl (lv_at hl 3 rfl) ?_
        refine lv_aload_n hx hb dX11_wiseGuess_15 rfl (lv_at hl 3 rfl) ?_
        refine lv_iload_n hx hb dX11_wiseGuess_16 rfl (lv_at hl 0 rfl) ?_
        refine mx_callV (As := [.int x3_8]) (rest := [.ref (Y 0)]) ⟨hx, hb, hml, hown, hts⟩ (mtX11_pigsWith l D cI cB cK cS Y R m_thrown m_status m_isThere m_kinds m_newKinds m_print m_low m_high m_lot m_taped m_latest m_length m_cursor m_token m_from m_till m_fault m_faultAt m_traced r_lane r_many r_item r_market r_of r_newMarket r_newStart r_newOf r_newCoin r_state r_kept r_tape r_brings r_seen r_seenOut r_trace x3_8 (by omega)) (cwV 1 hts gX11_wiseGuess_X11_pigsWith rfl rfl rfl (by decide +kernel) ⟨Nat.le_of_ble_eq_true rfl, Nat.le_of_ble_eq_true rfl⟩) pF0_ok trivial hK hP hD hS hA 0 rfl rfl rfl rfl hl.1 rfl (Nat.le_of_ble_eq_true rfl) dX11_wiseGuess_17 ⟨Nat.le_refl _, Nat.le_refl _⟩ (fun u_2 H locs eu_2 hP hD hS => ?_)
        refine W.eq (g2 := F0 m 20 ls [.int u_2, .ref (Y 0)]) rfl ?_
        have hP : va_P D vwCl (mdW Y cI m_thrown m_status m_isThere m_kinds m_newKinds m_print m_low m_high m_lot m_taped m_latest m_length m_cursor m_token m_from m_till m_fault m_faultAt m_traced r_lane r_many r_item r_market r_of r_newMarket r_newStart r_newOf r_newCoin r_state r_kept r_tape r_brings r_seen r_seenOut r_trace ++ R) H := hP
        have hD : va_D A (mdW Y cI m_thrown m_status m_isThere m_kinds m_newKinds m_print m_low m_high m_lot m_taped m_latest m_length m_cursor m_token m_from m_till m_fault m_faultAt m_traced r_lane r_many r_item r_market r_of r_newMarket r_newStart r_newOf r_newCoin r_state r_kept r_tape r_brings r_seen r_seenOut r_trace ++ R) := hD
        refine mx_callV (As := [.int u_2]) (rest := []) ⟨hx, hb, hml, hown, hts⟩ (mtX11_priceOf l D cI cB cK cS Y R m_thrown m_status m_isThere m_kinds m_newKinds m_print m_low m_high m_lot m_taped m_latest m_length m_cursor m_token m_from m_till m_fault m_faultAt m_traced r_lane r_many r_item r_market r_of r_newMarket r_newStart r_newOf r_newCoin r_state r_kept r_tape r_brings r_seen r_seenOut r_trace u_2 hmk) (cwV 1 hts gX11_wiseGuess_X11_priceOf rfl rfl rfl (by decide +kernel) ⟨Nat.le_of_ble_eq_true rfl, Nat.le_of_ble_eq_true rfl⟩) pF0_ok trivial hK hP hD hS hA 0 rfl rfl rfl rfl hl.1 rfl (Nat.le_of_ble_eq_true rfl) dX11_wiseGuess_20 ⟨Nat.le_refl _, Nat.le_refl _⟩ (fun u_3 H locs eu_3 hP hD hS => ?_)
        refine W.eq (g2 := F0 m 23 ls [.int u_3]) rfl ?_
        have hP : va_P D vwCl (mdW Y cI m_thrown m_status m_isThere m_kinds m_newKinds m_print m_low m_high m_lot m_taped m_latest m_length m_cursor m_token m_from m_till m_fault m_faultAt m_traced r_lane r_many r_item r_market r_of r_newMarket r_newStart r_newOf r_newCoin r_state r_kept r_tape r_brings r_seen r_seenOut r_trace ++ R) H := hP
        have hD : va_D A (mdW Y cI m_thrown m_status m_isThere m_kinds m_newKinds m_print m_low m_high m_lot m_taped m_latest m_length m_cursor m_token m_from m_till m_fault m_faultAt m_traced r_lane r_many r_item r_market r_of r_newMarket r_newStart r_newOf r_newCoin r_state r_kept r_tape r_brings r_seen r_seenOut r_trace ++ R) := hD
        refine lv_iload_n hx hb dX11_wiseGuess_23 rfl (lv_at hl 0 rfl) ?_
        refine lv_isub hx hb dX11_wiseGuess_24 ?_
        refine lv_topi (fun x_4 ex_4 => ?_)
        refine lv_istore (lv' := [(4, .int x_4), (3, .int x3_8), (2, .int x2_8), (1, .int x1_8), (0, .ref (Y 0))]) hx hb dX11_wiseGuess_25 hl (by decide) rfl (fun ls hl => ?_)
        refine lv_iload hx hb dX11_wiseGuess_27 (lv_at hl 0 rfl) ?_
        have J_5 : ∀ (y_5 : Int32) (H : Heap) (locs : List Loc) (ls : Array Slot), y_5 = (if 0 ≤ x_4 then (x_4) else ((-x_4))) → va_P D vwCl (mdW Y cI m_thrown m_status m_isThere m_kinds m_newKinds m_print m_low m_high m_lot m_taped m_latest m_length m_cursor m_token m_from m_till m_fault m_faultAt m_traced r_lane r_many r_item r_market r_of r_newMarket r_newStart r_newOf r_newCoin r_state r_kept r_tape r_brings r_seen r_seenOut r_trace ++ R) H → va_D A (mdW Y cI m_thrown m_status m_isThere m_kinds m_newKinds m_print m_low m_high m_lot m_taped m_latest m_length m_cursor m_token m_from m_till m_fault m_faultAt m_traced r_lane r_many r_item r_market r_of r_newMarket r_newStart r_newOf r_newCoin r_state r_kept r_tape r_brings r_seen r_seenOut r_trace ++ R) → va_S A s.heap H locs → lv_has ls 5 [(3, .int x3_8), (2, .int x2_8), (1, .int x1_8), (0, .ref (Y 0))] → W p l e (rmX 5) s m ([.ref (Y 0)] : List Value).toArray below meth c H locs 0 0 Qm (F0 m 40 ls [.int y_5]) := by
          intro y_5 H locs ls ey_5 hP hD hS hl
          refine lv_istore (lv' := [(4, .int y_5), (3, .int x3_8), (2, .int x2_8), (1, .int x1_8), (0, .ref (Y 0))]) hx hb dX11_wiseGuess_40 hl (by decide) rfl (fun ls hl => ?_)
          refine lv_iload hx hb dX11_wiseGuess_42 (lv_at hl 0 rfl) ?_
          refine lv_iload_n hx hb dX11_wiseGuess_44 rfl (lv_at hl 2 rfl) ?_
          have J_7 : ∀ (y_7 : Int32) (H : Heap) (locs : List Loc) (ls : Array Slot), y_7 = (if x2_8 ≤ y_5 then (x1_8) else (x3_8)) → va_P D vwCl (mdW Y cI m_thrown m_status m_isThere m_kinds m_newKinds m_print m_low m_high m_lot m_taped m_latest m_length m_cursor m_token m_from m_till m_fault m_faultAt m_traced r_lane r_many r_item r_market r_of r_newMarket r_newStart r_newOf r_newCoin r_state r_kept r_tape r_brings r_seen r_seenOut r_trace ++ R) H → va_D A (mdW Y cI m_thrown m_status m_isThere m_kinds m_newKinds m_print m_low m_high m_lot m_taped m_latest m_length m_cursor m_token m_from m_till m_fault m_faultAt m_traced r_lane r_many r_item r_market r_of r_newMarket r_newStart r_newOf r_newCoin r_state r_kept r_tape r_brings r_seen r_seenOut r_trace ++ R) → va_S A s.heap H locs → lv_has ls 5 [(4, .int y_5), (3, .int x3_8), (2, .int x2_8), (0, .ref (Y 0))] → W p l e (rmX 5) s m ([.ref (Y 0)] : List Value).toArray below meth c H locs 0 0 Qm (F0 m 53 ls [.int y_7]) := by
            intro y_7 H locs ls ey_7 hP hD hS hl
            refine lv_istore_n (lv' := [(1, .int y_7), (4, .int y_5), (3, .int x3_8), (2, .int x2_8), (0, .ref (Y 0))]) hx hb dX11_wiseGuess_53 rfl hl (by decide) rfl (fun ls hl => ?_)
            refine lv_iload hx hb dX11_wiseGuess_54 (lv_at hl 1 rfl) ?_
            refine lv_iload_n hx hb dX11_wiseGuess_56 rfl (lv_at hl 3 rfl) ?_
            have J_9 : ∀ (y_9 : Int32) (H : Heap) (locs : List Loc) (ls : Array Slot), y_9 = (if x2_8 ≤ y_5 then (x2_8) else (y_5)) → va_P D vwCl (mdW Y cI m_thrown m_status m_isThere m_kinds m_newKinds m_print m_low m_high m_lot m_taped m_latest m_length m_cursor m_token m_from m_till m_fault m_faultAt m_traced r_lane r_many r_item r_market r_of r_newMarket r_newStart r_newOf r_newCoin r_state r_kept r_tape r_brings r_seen r_seenOut r_trace ++ R) H → va_D A (mdW Y cI m_thrown m_status m_isThere m_kinds m_newKinds m_print m_low m_high m_lot m_taped m_latest m_length m_cursor m_token m_from m_till m_fault m_faultAt m_traced r_lane r_many r_item r_market r_of r_newMarket r_newStart r_newOf r_newCoin r_state r_kept r_tape r_brings r_seen r_seenOut r_trace ++ R) → va_S A s.heap H locs → lv_has ls 5 [(1, .int y_7), (3, .int x3_8), (0, .ref (Y 0))] → W p l e (rmX 5) s m ([.ref (Y 0)] : List Value).toArray below meth c H locs 0 0 Qm (F0 m 66 ls [.int y_9]) := by
              intro y_9 H locs ls ey_9 hP hD hS hl
              refine lv_istore_n (lv' := [(2, .int y_9), (1, .int y_7), (3, .int x3_8), (0, .ref (Y 0))]) hx hb dX11_wiseGuess_66 rfl hl (by decide) rfl (fun ls hl => ?_)
              obtain ⟨x_11, ex_11⟩ : ∃ z : Int32, z = x3_8 + 1 := ⟨_, rfl⟩
              refine lv_iinc (v := x_11) (lv' := [(3, .int x_11), (2, .int y_9), (1, .int y_7), (0, .ref (Y 0))]) hx hb dX11_wiseGuess_67 hl (k := 2) rfl (by rw [ex_11]; rfl) (by decide) rfl (fun ls hl => ?_)
              refine lv_goto (tgt := 8) hx hb dX11_wiseGuess_70 (by decide) ?_
              have tx_11 : x_11.toInt = x3_8.toInt + 1 := i_inc ex_11 (by decide) (by omega) (by omega)
              refine ih_8 x_11 y_9 y_7 H locs ls (by omega) (by omega) (by omega) hP hD hS (lv_sub hl [0, 1, 2, 3] rfl) (fun u H locs ls eu  hP hD hS hl => ?_)
              exact kont_8 u H locs ls (eu.trans (show lX11_wiseGuess_8 m_kinds m_print r_market r_of r_state (n + 1) x3_8 x2_8 x1_8 = lX11_wiseGuess_8 m_kinds m_print r_market r_of r_state n x_11 y_9 y_7 from ((if_neg c_1).trans (lt_eq eu_2 (lt_eq eu_3 (lt_eq ex_4 (lt_eq ey_5 (lt_eq ey_7 (lt_eq ey_9 (lt_eq ex_11 rfl))))))))).symm)  hP hD hS hl
            refine lv_icmp_ge (tgt := 65) hx hb dX11_wiseGuess_57 (by decide) (fun c_10 => ?_) (fun c_10 => ?_)
            · have d_10 := i_le rfl rfl c_10
              refine lv_iload_n hx hb dX11_wiseGuess_65 rfl (lv_at hl 3 rfl) ?_
              exact J_9 x2_8 H locs ls (Eq.symm ((if_pos c_10).trans rfl)) hP hD hS (lv_sub hl [0, 2, 4] rfl)
            · have d_10 := i_len rfl rfl c_10
              refine lv_iload hx hb dX11_wiseGuess_60 (lv_at hl 1 rfl) ?_
              refine lv_goto (tgt := 66) hx hb dX11_wiseGuess_62 (by decide) ?_
              exact J_9 y_5 H locs ls (Eq.symm ((if_neg c_10).trans rfl)) hP hD hS (lv_sub hl [0, 2, 4] rfl)
          refine lv_icmp_ge (tgt := 52) hx hb dX11_wiseGuess_45 (by decide) (fun c_8 => ?_) (fun c_8 => ?_)
          · have d_8 := i_le rfl rfl c_8
            refine lv_iload_n hx hb dX11_wiseGuess_52 rfl (lv_at hl 3 rfl) ?_
            exact J_7 x1_8 H locs ls (Eq.symm ((if_pos c_8).trans rfl)) hP hD hS (lv_sub hl [0, 1, 2, 4] rfl)
          · have d_8 := i_len rfl rfl c_8
            refine lv_iload_n hx hb dX11_wiseGuess_48 rfl (lv_at hl 1 rfl) ?_
            refine lv_goto (tgt := 53) hx hb dX11_wiseGuess_49 (by decide) ?_
            exact J_7 x3_8 H locs ls (Eq.symm ((if_neg c_8).trans rfl)) hP hD hS (lv_sub hl [0, 1, 2, 4] rfl)
        refine lv_if_ge (tgt := 38) hx hb dX11_wiseGuess_29 (by decide) (fun c_6 => ?_) (fun c_6 => ?_)
        · have d_6 := i_le (show (0 : Int32).toInt = 0 from by decide) rfl c_6
          refine lv_iload hx hb dX11_wiseGuess_38 (lv_at hl 0 rfl) ?_
          exact J_5 x_4 H locs ls (Eq.symm ((if_pos c_6).trans rfl)) hP hD hS (lv_sub hl [1, 2, 3, 4] rfl)
        · have d_6 := i_len (show (0 : Int32).toInt = 0 from by decide) rfl c_6
          refine lv_iload hx hb dX11_wiseGuess_32 (lv_at hl 0 rfl) ?_
          refine lv_ineg hx hb dX11_wiseGuess_34 ?_
          refine lv_goto (tgt := 40) hx hb dX11_wiseGuess_35 (by decide) ?_
          exact J_5 (-x_4) H locs ls (Eq.symm ((if_neg c_6).trans rfl)) hP hD hS (lv_sub hl [1, 2, 3, 4] rfl)
  refine L_8 101 0 1000 0 H locs ls (by decide) (by decide) (by decide) hP hD hS (lv_sub hl [0, 1, 2, 3] rfl) (fun u_12 H locs ls eu_12  hP hD hS hl => ?_)
  have hP : va_P D vwCl (mdW Y cI m_thrown m_status m_isThere m_kinds m_newKinds m_print m_low m_high m_lot m_taped m_latest m_length m_cursor m_token m_from m_till m_fault m_faultAt m_traced r_lane r_many r_item r_market r_of r_newMarket r_newStart r_newOf r_newCoin r_state r_kept r_tape r_brings r_seen r_seenOut r_trace ++ R) H := hP
  have hD : va_D A (mdW Y cI m_thrown m_status m_isThere m_kinds m_newKinds m_print m_low m_high m_lot m_taped m_latest m_length m_cursor m_token m_from m_till m_fault m_faultAt m_traced r_lane r_many r_item r_market r_of r_newMarket r_newStart r_newOf r_newCoin r_state r_kept r_tape r_brings r_seen r_seenOut r_trace ++ R) := hD
  refine lv_iload_n hx hb dX11_wiseGuess_73 rfl (lv_at hl 0 rfl) ?_
  rw [hQm]
  exact mx_iret (u0 := sX11_wiseGuess m_kinds m_print r_market r_of r_state) (rv := (fun u => some (.int u))) (w1 := (fun _ => mdW Y cI m_thrown m_status m_isThere m_kinds m_newKinds m_print m_low m_high m_lot m_taped m_latest m_length m_cursor m_token m_from m_till m_fault m_faultAt m_traced r_lane r_many r_item r_market r_of r_newMarket r_newStart r_newOf r_newCoin r_state r_kept r_tape r_brings r_seen r_seenOut r_trace ++ R)) (u := (u_12.2.2)) hx hb hr hlocks hK hS (lt_eq eu_12 rfl) hP hD rfl dX11_wiseGuess_74

def lX11_year_7 (m_kinds : Int32) (m_print : Int32) (r_of : Nat → Int32) (r_state : Nat → Int32) (u_1 : Int32) : Nat → Int32 → (Nat → Int32) → Int32 × (Nat → Int32)
  | 0, x2_7, r_brings_7 => (x2_7, r_brings_7)
  | n + 1, x2_7, r_brings_7 => if m_kinds ≤ x2_7 then ((x2_7, r_brings_7)) else (lt (sX11_isOut x2_7 r_state) (fun u_3 : Int32 => lt (if u_3 = 0 then (lt (sX11_guessOf x2_7 u_1 m_print r_of r_state) (fun u_6 : Int32 => lt (sX11_pigsBy x2_7 u_6 r_of) (fun u_7 : Int32 => u_7))) else (0)) (fun y_4 : Int32 => lt (upd r_brings_7 x2_7.toNatClampNeg y_4) (fun ar_9 : Nat → Int32 => lt (x2_7 + 1) (fun x_10 : Int32 => lX11_year_7 m_kinds m_print r_of r_state u_1 n x_10 ar_9)))))

def lX11_year_184 (m_kinds : Int32) (r_market : Nat → Int32) (r_of : Nat → Int32) (u_11 : Int32 × (Nat → Int32)) (u_37 : Int32) : Nat → Int32 → (Nat → Int32) → Int32 × (Nat → Int32)
  | 0, x6_184, r_state_184 => (x6_184, r_state_184)
  | n + 1, x6_184, r_state_184 => if m_kinds ≤ x6_184 then ((x6_184, r_state_184)) else (lt (sX11_isOut x6_184 r_state_184) (fun u_45 : Int32 => lt (if u_45 = 0 then (lt (sX11_told x6_184 5 r_of) (fun u_58 : Int32 => lt ((r_state_184 (7 + x6_184).toNatClampNeg) + (((u_37 - (r_market 2)) * (u_11.2 x6_184.toNatClampNeg)) - u_58)) (fun x_59 : Int32 => lt (upd r_state_184 (7 + x6_184).toNatClampNeg x_59) (fun ar_61 : Nat → Int32 => lt (if 0 ≤ (ar_61 (7 + x6_184).toNatClampNeg) then (0) else (1)) (fun y_63 : Int32 => lt (upd ar_61 (12 + x6_184).toNatClampNeg y_63) (fun ar_66 : Nat → Int32 => ar_66)))))) else (r_state_184)) (fun y_53 : Nat → Int32 => lt (x6_184 + 1) (fun x_67 : Int32 => lX11_year_184 m_kinds r_market r_of u_11 u_37 n x_67 y_53))))

def sX11_year (m_kinds : Int32) (m_print : Int32) (m_low : Int32) (m_high : Int32) (m_lot : Int32) (r_market : Nat → Int32) (r_of : Nat → Int32) (r_state : Nat → Int32) (r_brings : Nat → Int32) : (Nat → Int32) × (Nat → Int32) := lt (sX11_wiseGuess m_kinds m_print r_market r_of r_state) (fun u_1 : Int32 => lt (lX11_year_7 m_kinds m_print r_of r_state u_1 6 0 r_brings) (fun u_11 : Int32 × (Nat → Int32) => lt (sX11_pigsWith u_1 m_kinds m_print r_of r_state) (fun u_12 : Int32 => lt (sX11_priceOf u_12 r_market) (fun u_13 : Int32 => lt (if m_lot ≤ 0 then (if m_lot ≤ 0 then (0) else (if u_13 ≤ m_high then (0) else (lt (if (r_state 4) ≤ m_lot then ((-(r_state 4))) else ((-m_lot))) (fun y_24 : Int32 => y_24)))) else (if m_low ≤ u_13 then (if m_lot ≤ 0 then (0) else (if u_13 ≤ m_high then (0) else (lt (if (r_state 4) ≤ m_lot then ((-(r_state 4))) else ((-m_lot))) (fun y_32 : Int32 => y_32)))) else (lt (if u_12 ≤ m_lot then (u_12) else (m_lot)) (fun y_35 : Int32 => y_35)))) (fun y_18 : Int32 => lt (sX11_priceOf (u_12 - y_18) r_market) (fun u_37 : Int32 => lt (upd r_state 4 ((r_state 4) + y_18)) (fun ar_40 : Nat → Int32 => lt (upd ar_40 5 ((ar_40 5) + (y_18 * u_37))) (fun ar_43 : Nat → Int32 => lt (lX11_year_184 m_kinds r_market r_of u_11 u_37 6 0 ar_43) (fun u_68 : Int32 × (Nat → Int32) => lt (upd u_68.2 2 (u_68.2 1)) (fun ar_71 : Nat → Int32 => lt (upd ar_71 1 (ar_71 0)) (fun ar_74 : Nat → Int32 => lt (upd ar_74 0 u_37) (fun ar_76 : Nat → Int32 => lt (upd ar_76 3 u_12) (fun ar_78 : Nat → Int32 => lt (upd ar_78 6 ((ar_78 6) + 1)) (fun ar_81 : Nat → Int32 => (ar_81, u_11.2)))))))))))))))
set_option maxHeartbeats 4000000 in
set_option maxRecDepth 100000 in
theorem mtX11_year (l : Launch) (D : va_G) (cI cB cK cS : ClassId) (Y : Nat → Nat) (R : va_W) (m_thrown : Int32) (m_status : Int32) (m_isThere : Int32) (m_kinds : Int32) (m_newKinds : Int32) (m_print : Int32) (m_low : Int32) (m_high : Int32) (m_lot : Int32) (m_taped : Int32) (m_latest : Int32) (m_length : Int32) (m_cursor : Int32) (m_token : Int32) (m_from : Int32) (m_till : Int32) (m_fault : Int32) (m_faultAt : Int32) (m_traced : Int32) (r_lane : Nat → Int32) (r_many : Nat → Int32) (r_item : Nat → Int32) (r_market : Nat → Int32) (r_of : Nat → Int32) (r_newMarket : Nat → Int32) (r_newStart : Nat → Int32) (r_newOf : Nat → Int32) (r_newCoin : Nat → Int32) (r_state : Nat → Int32) (r_kept : Nat → Int32) (r_tape : Nat → Int32) (r_brings : Nat → Int32) (r_seen : Nat → Int32) (r_seenOut : Nat → Int32) (r_trace : Nat → Int32) (hkd : m_kinds.toInt ≤ 5) (hmk : ¬ r_market 1 = 0) : MX l yX11_year wsX11_year (rmX 6) D (tyX cI cB cK cS) pF0 (mdW Y cI m_thrown m_status m_isThere m_kinds m_newKinds m_print m_low m_high m_lot m_taped m_latest m_length m_cursor m_token m_from m_till m_fault m_faultAt m_traced r_lane r_many r_item r_market r_of r_newMarket r_newStart r_newOf r_newCoin r_state r_kept r_tape r_brings r_seen r_seenOut r_trace ++ R) [.ref (Y 0)] (sX11_year m_kinds m_print m_low m_high m_lot r_market r_of r_state r_brings) (fun _ => none) (fun u => mdW Y cI m_thrown m_status m_isThere m_kinds m_newKinds m_print m_low m_high m_lot m_taped m_latest m_length m_cursor m_token m_from m_till m_fault m_faultAt m_traced r_lane r_many r_item r_market r_of r_newMarket r_newStart r_newOf r_newCoin u.1 r_kept r_tape u.2 r_seen r_seenOut r_trace ++ R) := by
  refine mx_intro (cc := cX11_year) (maxL := 7) (ret := none) (by decide) rfl (Nat.le_of_ble_eq_true rfl) ?_
  intro p e s m below meth c A ls H locs Qm hQm hx hb hr hml hts hown hlocks hA hS hP hK hD hF hl
  have hown : s.vm.findClass RX11 = some m.cls := hown
  have hl : lv_has ls 7 [(0, .ref (Y 0))] := hl
  have k180 := hts (.fieldLink RX11 180 "PigRoundsModel" "kinds" "I") (by decide +kernel)
  have k46 := hts (.fieldLink RX11 46 "PigRoundsModel" "brings" "[I") (by decide +kernel)
  have k194 := hts (.fieldLink RX11 194 "PigRoundsModel" "lot" "I") (by decide +kernel)
  have k191 := hts (.fieldLink RX11 191 "PigRoundsModel" "high" "I") (by decide +kernel)
  have k37 := hts (.fieldLink RX11 37 "PigRoundsModel" "state" "[I") (by decide +kernel)
  have k188 := hts (.fieldLink RX11 188 "PigRoundsModel" "low" "I") (by decide +kernel)
  have k19 := hts (.fieldLink RX11 19 "PigRoundsModel" "market" "[I") (by decide +kernel)
  have iX11 : ∀ w ∈ u_ws RX11 TX11 35, w ∈ wsX11_year := by decide +kernel
  refine lv_aload_n hx hb dX11_year_0 rfl (lv_at hl 0 rfl) ?_
  refine mx_callV (As := []) (rest := []) ⟨hx, hb, hml, hown, hts⟩ (mtX11_wiseGuess l D cI cB cK cS Y R m_thrown m_status m_isThere m_kinds m_newKinds m_print m_low m_high m_lot m_taped m_latest m_length m_cursor m_token m_from m_till m_fault m_faultAt m_traced r_lane r_many r_item r_market r_of r_newMarket r_newStart r_newOf r_newCoin r_state r_kept r_tape r_brings r_seen r_seenOut r_trace (by omega) hmk) (cwV 0 hts gX11_year_X11_wiseGuess rfl rfl rfl (by decide +kernel) ⟨Nat.le_of_ble_eq_true rfl, Nat.le_of_ble_eq_true rfl⟩) pF0_ok trivial hK hP hD hS hA 0 rfl rfl rfl rfl hl.1 rfl (Nat.le_of_ble_eq_true rfl) dX11_year_1 ⟨Nat.le_refl _, Nat.le_refl _⟩ (fun u_1 H locs eu_1 hP hD hS => ?_)
  refine W.eq (g2 := F0 m 4 ls [.int u_1]) rfl ?_
  have hP : va_P D vwCl (mdW Y cI m_thrown m_status m_isThere m_kinds m_newKinds m_print m_low m_high m_lot m_taped m_latest m_length m_cursor m_token m_from m_till m_fault m_faultAt m_traced r_lane r_many r_item r_market r_of r_newMarket r_newStart r_newOf r_newCoin r_state r_kept r_tape r_brings r_seen r_seenOut r_trace ++ R) H := hP
  have hD : va_D A (mdW Y cI m_thrown m_status m_isThere m_kinds m_newKinds m_print m_low m_high m_lot m_taped m_latest m_length m_cursor m_token m_from m_till m_fault m_faultAt m_traced r_lane r_many r_item r_market r_of r_newMarket r_newStart r_newOf r_newCoin r_state r_kept r_tape r_brings r_seen r_seenOut r_trace ++ R) := hD
  refine lv_istore_n (lv' := [(1, .int u_1), (0, .ref (Y 0))]) hx hb dX11_year_4 rfl hl (by decide) rfl (fun ls hl => ?_)
  refine lv_iconst (v := 0) hx hb dX11_year_5 (by decide) ?_
  refine lv_istore_n (lv' := [(2, .int 0), (1, .int u_1), (0, .ref (Y 0))]) hx hb dX11_year_6 rfl hl (by decide) rfl (fun ls hl => ?_)
  have L_7 : ∀ (n : Nat) (x2_7 : Int32) (r_brings_7 : Nat → Int32) (H : Heap) (locs : List Loc) (ls : Array Slot), 0 ≤ x2_7.toInt → x2_7.toInt ≤ 5 → (5 : Int) < x2_7.toInt + ((n : Nat) : Int) → va_P D vwCl (mdW Y cI m_thrown m_status m_isThere m_kinds m_newKinds m_print m_low m_high m_lot m_taped m_latest m_length m_cursor m_token m_from m_till m_fault m_faultAt m_traced r_lane r_many r_item r_market r_of r_newMarket r_newStart r_newOf r_newCoin r_state r_kept r_tape r_brings_7 r_seen r_seenOut r_trace ++ R) H → va_D A (mdW Y cI m_thrown m_status m_isThere m_kinds m_newKinds m_print m_low m_high m_lot m_taped m_latest m_length m_cursor m_token m_from m_till m_fault m_faultAt m_traced r_lane r_many r_item r_market r_of r_newMarket r_newStart r_newOf r_newCoin r_state r_kept r_tape r_brings_7 r_seen r_seenOut r_trace ++ R) → va_S A s.heap H locs → lv_has ls 7 [(2, .int x2_7), (1, .int u_1), (0, .ref (Y 0))] → (∀ (u : Int32 × (Nat → Int32)) (H : Heap) (locs : List Loc) (ls : Array Slot), u = lX11_year_7 m_kinds m_print r_of r_state u_1 n x2_7 r_brings_7 → va_P D vwCl (mdW Y cI m_thrown m_status m_isThere m_kinds m_newKinds m_print m_low m_high m_lot m_taped m_latest m_length m_cursor m_token m_from m_till m_fault m_faultAt m_traced r_lane r_many r_item r_market r_of r_newMarket r_newStart r_newOf r_newCoin r_state r_kept r_tape u.2 r_seen r_seenOut r_trace ++ R) H → va_D A (mdW Y cI m_thrown m_status m_isThere m_kinds m_newKinds m_print m_low m_high m_lot m_taped m_latest m_length m_cursor m_token m_from m_till m_fault m_faultAt m_traced r_lane r_many r_item r_market r_of r_newMarket r_newStart r_newOf r_newCoin r_state r_kept r_tape u.2 r_seen r_seenOut r_trace ++ R) → va_S A s.heap H locs → lv_has ls 7 [(1, .int u_1), (0, .ref (Y 0))] → W p l e (rmX 6) s m ([.ref (Y 0)] : List Value).toArray below meth c H locs 0 0 Qm (F0 m 50 ls [])) → W p l e (rmX 6) s m ([.ref (Y 0)] : List Value).toArray below meth c H locs 0 0 Qm (F0 m 7 ls []) := by
    intro n
    induction n with
    | zero =>
      intro x2_7 r_brings_7 H locs ls iv_7_0 iv_7_1 iv_7_2 hP hD hS hl kont_7
      exfalso; omega
    | succ n ih_7 =>
      intro x2_7 r_brings_7 H locs ls iv_7_0 iv_7_1 iv_7_2 hP hD hS hl kont_7
      refine lv_iload_n hx hb dX11_year_7 rfl (lv_at hl 0 rfl) ?_
      refine lv_aload_n hx hb dX11_year_8 rfl (lv_at hl 2 rfl) ?_
      refine va_get (D := D) (ci := 9) (v := .int m_kinds) (C := RX11) (T := TX11) (N := 35) hx hb hts iX11 hown hK hP 0 rfl rfl 6 (by decide) k180 (fun _ h9 => h9) rfl dX11_year_9 ?_
      refine lv_icmp_ge (tgt := 50) hx hb dX11_year_12 (by decide) (fun c_2 => ?_) (fun c_2 => ?_)
      · have d_2 := i_le rfl rfl c_2
        exact kont_7 (x2_7, r_brings_7) H locs ls (show lX11_year_7 m_kinds m_print r_of r_state u_1 (n + 1) x2_7 r_brings_7 = (x2_7, r_brings_7) from ((if_pos c_2).trans rfl)).symm  hP hD hS (lv_sub hl [1, 2] rfl)
      · have d_2 := i_len rfl rfl c_2
        refine lv_aload_n hx hb dX11_year_15 rfl (lv_at hl 2 rfl) ?_
        refine va_get (D := D) (ci := 9) (v := .ref (Y 30)) (C := RX11) (T := TX11) (N := 35) hx hb hts iX11 hown hK hP 0 rfl rfl 30 (by decide) k46 (fun _ h9 => h9) rfl dX11_year_16 ?_
        refine lv_iload_n hx hb dX11_year_19 rfl (lv_at hl 0 rfl) ?_
        refine lv_aload_n hx hb dX11_year_20 rfl (lv_at hl 2 rfl) ?_
        refine lv_iload_n hx hb dX11_year_21 rfl (lv_at hl 0 rfl) ?_
        refine mx_callV (As := [.int x2_7]) (rest := [.int x2_7, .ref (Y 30)]) ⟨hx, hb, hml, hown, hts⟩ (mtX11_isOut l D cI cB cK cS Y R m_thrown m_status m_isThere m_kinds m_newKinds m_print m_low m_high m_lot m_taped m_latest m_length m_cursor m_token m_from m_till m_fault m_faultAt m_traced r_lane r_many r_item r_market r_of r_newMarket r_newStart r_newOf r_newCoin r_state r_kept r_tape r_brings_7 r_seen r_seenOut r_trace x2_7 (by omega) (by omega)) (cwV 1 hts gX11_year_X11_isOut rfl rfl rfl (by decide +kernel) ⟨Nat.le_of_ble_eq_true rfl, Nat.le_of_ble_eq_true rfl⟩) pF0_ok trivial hK hP hD hS hA 0 rfl rfl rfl rfl hl.1 rfl (Nat.le_of_ble_eq_true rfl) dX11_year_22 ⟨Nat.le_refl _, Nat.le_refl _⟩ (fun u_3 H locs eu_3 hP hD hS => ?_)
        refine W.eq (g2 := F0 m 25 ls [.int u_3, .int x2_7, .ref (Y 30)]) rfl ?_
        have hP : va_P D vwCl (mdW Y cI m_thrown m_status m_isThere m_kinds m_newKinds m_print m_low m_high m_lot m_taped m_latest m_length m_cursor m_token m_from m_till m_fault m_faultAt m_traced r_lane r_many r_item r_market r_of r_newMarket r_newStart r_newOf r_newCoin r_state r_kept r_tape r_brings_7 r_seen r_seenOut r_trace ++ R) H := hP
        have hD : va_D A (mdW Y cI m_thrown m_status m_isThere m_kinds m_newKinds m_print m_low m_high m_lot m_taped m_latest m_length m_cursor m_token m_from m_till m_fault m_faultAt m_traced r_lane r_many r_item r_market r_of r_newMarket r_newStart r_newOf r_newCoin r_state r_kept r_tape r_brings_7 r_seen r_seenOut r_trace ++ R) := hD
        have J_4 : ∀ (y_4 : Int32) (H : Heap) (locs : List Loc) (ls : Array Slot), y_4 = (if u_3 = 0 then (lt (sX11_guessOf x2_7 u_1 m_print r_of r_state) (fun u_6 : Int32 => lt (sX11_pigsBy x2_7 u_6 r_of) (fun u_7 : Int32 => u_7))) else (0)) → va_P D vwCl (mdW Y cI m_thrown m_status m_isThere m_kinds m_newKinds m_print m_low m_high m_lot m_taped m_latest m_length m_cursor m_token m_from m_till m_fault m_faultAt m_traced r_lane r_many r_item r_market r_of r_newMarket r_newStart r_newOf r_newCoin r_state r_kept r_tape r_brings_7 r_seen r_seenOut r_trace ++ R) H → va_D A (mdW Y cI m_thrown m_status m_isThere m_kinds m_newKinds m_print m_low m_high m_lot m_taped m_latest m_length m_cursor m_token m_from m_till m_fault m_faultAt m_traced r_lane r_many r_item r_market r_of r_newMarket r_newStart r_newOf r_newCoin r_state r_kept r_tape r_brings_7 r_seen r_seenOut r_trace ++ R) → va_S A s.heap H locs → lv_has ls 7 [(2, .int x2_7), (1, .int u_1), (0, .ref (Y 0))] → W p l e (rmX 6) s m ([.ref (Y 0)] : List Value).toArray below meth c H locs 0 0 Qm (F0 m 43 ls [.int y_4, .int x2_7, .ref (Y 30)]) := by
          intro y_4 H locs ls ey_4 hP hD hS hl
          have q_8 : vp_in x2_7 5 := vp_in_iff.mpr ⟨by omega, by omega⟩
          refine va_iast hx hb hK hP hD hS 13 0 rfl rfl q_8 dX11_year_43 (fun H locs hP hD hS => ?_)
          obtain ⟨ar_9, ear_9⟩ : ∃ z : Nat → Int32, z = upd r_brings_7 x2_7.toNatClampNeg y_4 := ⟨_, rfl⟩
          have hP : va_P D vwCl (mdW Y cI m_thrown m_status m_isThere m_kinds m_newKinds m_print m_low m_high m_lot m_taped m_latest m_length m_cursor m_token m_from m_till m_fault m_faultAt m_traced r_lane r_many r_item r_market r_of r_newMarket r_newStart r_newOf r_newCoin r_state r_kept r_tape (upd r_brings_7 x2_7.toNatClampNeg y_4) r_seen r_seenOut r_trace ++ R) H := hP
          have hD : va_D A (mdW Y cI m_thrown m_status m_isThere m_kinds m_newKinds m_print m_low m_high m_lot m_taped m_latest m_length m_cursor m_token m_from m_till m_fault m_faultAt m_traced r_lane r_many r_item r_market r_of r_newMarket r_newStart r_newOf r_newCoin r_state r_kept r_tape (upd r_brings_7 x2_7.toNatClampNeg y_4) r_seen r_seenOut r_trace ++ R) := hD
          rw [← ear_9] at hP hD
          have hP : va_P D vwCl (mdW Y cI m_thrown m_status m_isThere m_kinds m_newKinds m_print m_low m_high m_lot m_taped m_latest m_length m_cursor m_token m_from m_till m_fault m_faultAt m_traced r_lane r_many r_item r_market r_of r_newMarket r_newStart r_newOf r_newCoin r_state r_kept r_tape ar_9 r_seen r_seenOut r_trace ++ R) H := hP
          have hD : va_D A (mdW Y cI m_thrown m_status m_isThere m_kinds m_newKinds m_print m_low m_high m_lot m_taped m_latest m_length m_cursor m_token m_from m_till m_fault m_faultAt m_traced r_lane r_many r_item r_market r_of r_newMarket r_newStart r_newOf r_newCoin r_state r_kept r_tape ar_9 r_seen r_seenOut r_trace ++ R) := hD
          obtain ⟨x_10, ex_10⟩ : ∃ z : Int32, z = x2_7 + 1 := ⟨_, rfl⟩
          refine lv_iinc (v := x_10) (lv' := [(2, .int x_10), (1, .int u_1), (0, .ref (Y 0))]) hx hb dX11_year_44 hl (k := 0) rfl (by rw [ex_10]; rfl) (by decide) rfl (fun ls hl => ?_)
          refine lv_goto (tgt := 7) hx hb dX11_year_47 (by decide) ?_
          have tx_10 : x_10.toInt = x2_7.toInt + 1 := i_inc ex_10 (by decide) (by omega) (by omega)
          refine ih_7 x_10 ar_9 H locs ls (by omega) (by omega) (by omega) hP hD hS (lv_sub hl [0, 1, 2] rfl) (fun u H locs ls eu  hP hD hS hl => ?_)
          exact kont_7 u H locs ls (eu.trans (show lX11_year_7 m_kinds m_print r_of r_state u_1 (n + 1) x2_7 r_brings_7 = lX11_year_7 m_kinds m_print r_of r_state u_1 n x_10 ar_9 from ((if_neg c_2).trans (lt_eq eu_3 (lt_eq ey_4 (lt_eq ear_9 (lt_eq ex_10 rfl)))))).symm)  hP hD hS hl
        refine lv_if_eq (tgt := 32) hx hb dX11_year_25 (by decide) (fun c_5 => ?_) (fun c_5 => ?_)
        · have d_5 := i_eq rfl (show (0 : Int32).toInt = 0 from by decide) c_5
          refine lv_aload_n hx hb dX11_year_32 rfl (lv_at hl 2 rfl) ?_
          refine lv_iload_n hx hb dX11_year_33 rfl (lv_at hl 0 rfl) ?_
          refine lv_aload_n hx hb dX11_year_34 rfl (lv_at hl 2 rfl) ?_
          refine lv_iload_n hx hb dX11_year_35 rfl (lv_at hl 0 rfl) ?_
          refine lv_iload_n hx hb dX11_year_36 rfl (lv_at hl 1 rfl) ?_
          refine mx_callV (As := [.int x2_7, .int u_1]) (rest := [.int x2_7, .ref (Y 0), .int x2_7, .ref (Y 30)]) ⟨hx, hb, hml, hown, hts⟩ (mtX11_guessOf l D cI cB cK cS Y R m_thrown m_status m_isThere m_kinds m_newKinds m_print m_low m_high m_lot m_taped m_latest m_length m_cursor m_token m_from m_till m_fault m_faultAt m_traced r_lane r_many r_item r_market r_of r_newMarket r_newStart r_newOf r_newCoin r_state r_kept r_tape r_brings_7 r_seen r_seenOut r_trace x2_7 u_1 (by omega) (by omega)) (cwV 2 hts gX11_year_X11_guessOf rfl rfl rfl (by decide +kernel) ⟨Nat.le_of_ble_eq_true rfl, Nat.le_of_ble_eq_true rfl⟩) pF0_ok trivial hK hP hD hS hA 0 rfl rfl rfl rfl hl.1 rfl (Nat.le_of_ble_eq_true rfl) dX11_year_37 ⟨Nat.le_refl _, Nat.le_refl _⟩ (fun u_6 H locs eu_6 hP hD hS => ?_)
          refine W.eq (g2 := F0 m 40 ls [.int u_6, .int x2_7, .ref (Y 0), .int x2_7, .ref (Y 30)]) rfl ?_
          have hP : va_P D vwCl (mdW Y cI m_thrown m_status m_isThere m_kinds m_newKinds m_print m_low m_high m_lot m_taped m_latest m_length m_cursor m_token m_from m_till m_fault m_faultAt m_traced r_lane r_many r_item r_market r_of r_newMarket r_newStart r_newOf r_newCoin r_state r_kept r_tape r_brings_7 r_seen r_seenOut r_trace ++ R) H := hP
          have hD : va_D A (mdW Y cI m_thrown m_status m_isThere m_kinds m_newKinds m_print m_low m_high m_lot m_taped m_latest m_length m_cursor m_token m_from m_till m_fault m_faultAt m_traced r_lane r_many r_item r_market r_of r_newMarket r_newStart r_newOf r_newCoin r_state r_kept r_tape r_brings_7 r_seen r_seenOut r_trace ++ R) := hD
          refine mx_callV (As := [.int x2_7, .int u_6]) (rest := [.int x2_7, .ref (Y 30)]) ⟨hx, hb, hml, hown, hts⟩ (mtX11_pigsBy l D cI cB cK cS Y R m_thrown m_status m_isThere m_kinds m_newKinds m_print m_low m_high m_lot m_taped m_latest m_length m_cursor m_token m_from m_till m_fault m_faultAt m_traced r_lane r_many r_item r_market r_of r_newMarket r_newStart r_newOf r_newCoin r_state r_kept r_tape r_brings_7 r_seen r_seenOut r_trace x2_7 u_6 (by omega) (by omega)) (cwV 2 hts gX11_year_X11_pigsBy rfl rfl rfl (by decide +kernel) ⟨Nat.le_of_ble_eq_true rfl, Nat.le_of_ble_eq_true rfl⟩) pF0_ok trivial hK hP hD hS hA 0 rfl rfl rfl rfl hl.1 rfl (Nat.le_of_ble_eq_true rfl) dX11_year_40 ⟨Nat.le_refl _, Nat.le_refl _⟩ (fun u_7 H locs eu_7 hP hD hS => ?_)
          refine W.eq (g2 := F0 m 43 ls [.int u_7, .int x2_7, .ref (Y 30)]) rfl ?_
          have hP : va_P D vwCl (mdW Y cI m_thrown m_status m_isThere m_kinds m_newKinds m_print m_low m_high m_lot m_taped m_latest m_length m_cursor m_token m_from m_till m_fault m_faultAt m_traced r_lane r_many r_item r_market r_of r_newMarket r_newStart r_newOf r_newCoin r_state r_kept r_tape r_brings_7 r_seen r_seenOut r_trace ++ R) H := hP
          have hD : va_D A (mdW Y cI m_thrown m_status m_isThere m_kinds m_newKinds m_print m_low m_high m_lot m_taped m_latest m_length m_cursor m_token m_from m_till m_fault m_faultAt m_traced r_lane r_many r_item r_market r_of r_newMarket r_newStart r_newOf r_newCoin r_state r_kept r_tape r_brings_7 r_seen r_seenOut r_trace ++ R) := hD
          exact J_4 u_7 H locs ls (Eq.symm ((if_pos c_5).trans (lt_eq eu_6 (lt_eq eu_7 rfl)))) hP hD hS (lv_sub hl [0, 1, 2] rfl)
        · have d_5 := i_eqn rfl (show (0 : Int32).toInt = 0 from by decide) c_5
          refine lv_iconst (v := 0) hx hb dX11_year_28 (by decide) ?_
          refine lv_goto (tgt := 43) hx hb dX11_year_29 (by decide) ?_
          exact J_4 0 H locs ls (Eq.symm ((if_neg c_5).trans rfl)) hP hD hS (lv_sub hl [0, 1, 2] rfl)
  refine L_7 6 0 r_brings H locs ls (by decide) (by decide) (by decide) hP hD hS (lv_sub hl [0, 1, 2] rfl) (fun u_11 H locs ls eu_11  hP hD hS hl => ?_)
  have hP : va_P D vwCl (mdW Y cI m_thrown m_status m_isThere m_kinds m_newKinds m_print m_low m_high m_lot m_taped m_latest m_length m_cursor m_token m_from m_till m_fault m_faultAt m_traced r_lane r_many r_item r_market r_of r_newMarket r_newStart r_newOf r_newCoin r_state r_kept r_tape u_11.2 r_seen r_seenOut r_trace ++ R) H := hP
  have hD : va_D A (mdW Y cI m_thrown m_status m_isThere m_kinds m_newKinds m_print m_low m_high m_lot m_taped m_latest m_length m_cursor m_token m_from m_till m_fault m_faultAt m_traced r_lane r_many r_item r_market r_of r_newMarket r_newStart r_newOf r_newCoin r_state r_kept r_tape u_11.2 r_seen r_seenOut r_trace ++ R) := hD
  refine lv_aload_n hx hb dX11_year_50 rfl (lv_at hl 1 rfl) ?_
  refine lv_iload_n hx hb dX11_year_51 rfl (lv_at hl 0 rfl) ?_
  refine mx_callV (As := [.int u_1]) (rest := []) ⟨hx, hb, hml, hown, hts⟩ (mtX11_pigsWith l D cI cB cK cS Y R m_thrown m_status m_isThere m_kinds m_newKinds m_print m_low m_high m_lot m_taped m_latest m_length m_cursor m_token m_from m_till m_fault m_faultAt m_traced r_lane r_many r_item r_market r_of r_newMarket r_newStart r_newOf r_newCoin r_state r_kept r_tape u_11.2 r_seen r_seenOut r_trace u_1 (by omega)) (cwV 1 hts gX11_year_X11_pigsWith rfl rfl rfl (by decide +kernel) ⟨Nat.le_of_ble_eq_true rfl, Nat.le_of_ble_eq_true rfl⟩) pF0_ok trivial hK hP hD hS hA 0 rfl rfl rfl rfl hl.1 rfl (Nat.le_of_ble_eq_true rfl) dX11_year_52 ⟨Nat.le_refl _, Nat.le_refl _⟩ (fun u_12 H locs eu_12 hP hD hS => ?_)
  refine W.eq (g2 := F0 m 55 ls [.int u_12]) rfl ?_
  have hP : va_P D vwCl (mdW Y cI m_thrown m_status m_isThere m_kinds m_newKinds m_print m_low m_high m_lot m_taped m_latest m_length m_cursor m_token m_from m_till m_fault m_faultAt m_traced r_lane r_many r_item r_market r_of r_newMarket r_newStart r_newOf r_newCoin r_state r_kept r_tape u_11.2 r_seen r_seenOut r_trace ++ R) H := hP
  have hD : va_D A (mdW Y cI m_thrown m_status m_isThere m_kinds m_newKinds m_print m_low m_high m_lot m_taped m_latest m_length m_cursor m_token m_from m_till m_fault m_faultAt m_traced r_lane r_many r_item r_market r_of r_newMarket r_newStart r_newOf r_newCoin r_state r_kept r_tape u_11.2 r_seen r_seenOut r_trace ++ R) := hD
  refine lv_istore_n (lv' := [(2, .int u_12), (1, .int u_1), (0, .ref (Y 0))]) hx hb dX11_year_55 rfl hl (by decide) rfl (fun ls hl => ?_)
  refine lv_aload_n hx hb dX11_year_56 rfl (lv_at hl 2 rfl) ?_
  refine lv_iload_n hx hb dX11_year_57 rfl (lv_at hl 0 rfl) ?_
  refine mx_callV (As := [.int u_12]) (rest := []) ⟨hx, hb, hml, hown, hts⟩ (mtX11_priceOf l D cI cB cK cS Y R m_thrown m_status m_isThere m_kinds m_newKinds m_print m_low m_high m_lot m_taped m_latest m_length m_cursor m_token m_from m_till m_fault m_faultAt m_traced r_lane r_many r_item r_market r_of r_newMarket r_newStart r_newOf r_newCoin r_state r_kept r_tape u_11.2 r_seen r_seenOut r_trace u_12 hmk) (cwV 1 hts gX11_year_X11_priceOf rfl rfl rfl (by decide +kernel) ⟨Nat.le_of_ble_eq_true rfl, Nat.le_of_ble_eq_true rfl⟩) pF0_ok trivial hK hP hD hS hA 0 rfl rfl rfl rfl hl.1 rfl (Nat.le_of_ble_eq_true rfl) dX11_year_58 ⟨Nat.le_refl _, Nat.le_refl _⟩ (fun u_13 H locs eu_13 hP hD hS => ?_)
  refine W.eq (g2 := F0 m 61 ls [.int u_13]) rfl ?_
  have hP : va_P D vwCl (mdW Y cI m_thrown m_status m_isThere m_kinds m_newKinds m_print m_low m_high m_lot m_taped m_latest m_length m_cursor m_token m_from m_till m_fault m_faultAt m_traced r_lane r_many r_item r_market r_of r_newMarket r_newStart r_newOf r_newCoin r_state r_kept r_tape u_11.2 r_seen r_seenOut r_trace ++ R) H := hP
  have hD : va_D A (mdW Y cI m_thrown m_status m_isThere m_kinds m_newKinds m_print m_low m_high m_lot m_taped m_latest m_length m_cursor m_token m_from m_till m_fault m_faultAt m_traced r_lane r_many r_item r_market r_of r_newMarket r_newStart r_newOf r_newCoin r_state r_kept r_tape u_11.2 r_seen r_seenOut r_trace ++ R) := hD
  refine lv_istore_n (lv' := [(3, .int u_13), (2, .int u_12), (1, .int u_1), (0, .ref (Y 0))]) hx hb dX11_year_61 rfl hl (by decide) rfl (fun ls hl => ?_)
  refine lv_iconst (v := 0) hx hb dX11_year_62 (by decide) ?_
  refine lv_istore (lv' := [(4, .int 0), (3, .int u_13), (2, .int u_12), (1, .int u_1), (0, .ref (Y 0))]) hx hb dX11_year_63 hl (by decide) rfl (fun ls hl => ?_)
  refine lv_aload_n hx hb dX11_year_65 rfl (lv_at hl 4 rfl) ?_
  refine va_get (D := D) (ci := 9) (v := .int m_lot) (C := RX11) (T := TX11) (N := 35) hx hb hts iX11 hown hK hP 0 rfl rfl 19 (by decide) k194 (fun _ h9 => h9) rfl dX11_year_66 ?_
  have J_18 : ∀ (y_18 : Int32) (H : Heap) (locs : List Loc) (ls : Array Slot), y_18 = (if m_lot ≤ 0 then (if m_lot ≤ 0 then (0) else (if u_13 ≤ m_high then (0) else (lt (if (r_state 4) ≤ m_lot then ((-(r_state 4))) else ((-m_lot))) (fun y_24 : Int32 => y_24)))) else (if m_low ≤ u_13 then (if m_lot ≤ 0 then (0) else (if u_13 ≤ m_high then (0) else (lt (if (r_state 4) ≤ m_lot then ((-(r_state 4))) else ((-m_lot))) (fun y_32 : Int32 => y_32)))) else (lt (if u_12 ≤ m_lot then (u_12) else (m_lot)) (fun y_35 : Int32 => y_35)))) → va_P D vwCl (mdW Y cI m_thrown m_status m_isThere m_kinds m_newKinds m_print m_low m_high m_lot m_taped m_latest m_length m_cursor m_token m_from m_till m_fault m_faultAt m_traced r_lane r_many r_item r_market r_of r_newMarket r_newStart r_newOf r_newCoin r_state r_kept r_tape u_11.2 r_seen r_seenOut r_trace ++ R) H → va_D A (mdW Y cI m_thrown m_status m_isThere m_kinds m_newKinds m_print m_low m_high m_lot m_taped m_latest m_length m_cursor m_token m_from m_till m_fault m_faultAt m_traced r_lane r_many r_item r_market r_of r_newMarket r_newStart r_newOf r_newCoin r_state r_kept r_tape u_11.2 r_seen r_seenOut r_trace ++ R) → va_S A s.heap H locs → lv_has ls 7 [(4, .int y_18), (2, .int u_12), (0, .ref (Y 0))] → W p l e (rmX 6) s m ([.ref (Y 0)] : List Value).toArray below meth c H locs 0 0 Qm (F0 m 146 ls []) := by
    intro y_18 H locs ls ey_18 hP hD hS hl
    refine lv_aload_n hx hb dX11_year_146 rfl (lv_at hl 2 rfl) ?_
    refine lv_iload_n hx hb dX11_year_147 rfl (lv_at hl 1 rfl) ?_
    refine lv_iload hx hb dX11_year_148 (lv_at hl 0 rfl) ?_
    refine lv_isub hx hb dX11_year_150 ?_
    refine mx_callV (As := [.int (u_12 - y_18)]) (rest := []) ⟨hx, hb, hml, hown, hts⟩ (mtX11_priceOf l D cI cB cK cS Y R m_thrown m_status m_isThere m_kinds m_newKinds m_print m_low m_high m_lot m_taped m_latest m_length m_cursor m_token m_from m_till m_fault m_faultAt m_traced r_lane r_many r_item r_market r_of r_newMarket r_newStart r_newOf r_newCoin r_state r_kept r_tape u_11.2 r_seen r_seenOut r_trace (u_12 - y_18) hmk) (cwV 1 hts gX11_year_X11_priceOf rfl rfl rfl (by decide +kernel) ⟨Nat.le_of_ble_eq_true rfl, Nat.le_of_ble_eq_true rfl⟩) pF0_ok trivial hK hP hD hS hA 0 rfl rfl rfl rfl hl.1 rfl (Nat.le_of_ble_eq_true rfl) dX11_year_151 ⟨Nat.le_refl _, Nat.le_refl _⟩ (fun u_37 H locs eu_37 hP hD hS => ?_)
    refine W.eq (g2 := F0 m 154 ls [.int u_37]) rfl ?_
    have hP : va_P D vwCl (mdW Y cI m_thrown m_status m_isThere m_kinds m_newKinds m_print m_low m_high m_lot m_taped m_latest m_length m_cursor m_token m_from m_till m_fault m_faultAt m_traced r_lane r_many r_item r_market r_of r_newMarket r_newStart r_newOf r_newCoin r_state r_kept r_tape u_11.2 r_seen r_seenOut r_trace ++ R) H := hP
    have hD : va_D A (mdW Y cI m_thrown m_status m_isThere m_kinds m_newKinds m_print m_low m_high m_lot m_taped m_latest m_length m_cursor m_token m_from m_till m_fault m_faultAt m_traced r_lane r_many r_item r_market r_of r_newMarket r_newStart r_newOf r_newCoin r_state r_kept r_tape u_11.2 r_seen r_seenOut r_trace ++ R) := hD
    refine lv_istore (lv' := [(5, .int u_37), (4, .int y_18), (2, .int u_12), (0, .ref (Y 0))]) hx hb dX11_year_154 hl (by decide) rfl (fun ls hl => ?_)
    refine lv_aload_n hx hb dX11_year_156 rfl (lv_at hl 3 rfl) ?_
    refine va_get (D := D) (ci := 9) (v := .ref (Y 14)) (C := RX11) (T := TX11) (N := 35) hx hb hts iX11 hown hK hP 0 rfl rfl 14 (by decide) k37 (fun _ h9 => h9) rfl dX11_year_157 ?_
    refine lv_iconst (v := 4) hx hb dX11_year_160 (by decide) ?_
    refine lv_dup2_11 hx hb dX11_year_161 rfl rfl ?_
    have q_38 : vp_in (4 : Int32) 17 := vp_in_iff.mpr (by decide)
    refine va_iald hx hb hK hP 10 0 rfl rfl q_38 dX11_year_162 ?_
    refine W.eq (g2 := F0 m 163 ls [.int (r_state 4), .int 4, .ref (Y 14)]) rfl ?_
    refine lv_iload hx hb dX11_year_163 (lv_at hl 1 rfl) ?_
    refine lv_iadd hx hb dX11_year_165 ?_
    have q_39 : vp_in (4 : Int32) 17 := vp_in_iff.mpr (by decide)
    refine va_iast hx hb hK hP hD hS 10 0 rfl rfl q_39 dX11_year_166 (fun H locs hP hD hS => ?_)
    obtain ⟨ar_40, ear_40⟩ : ∃ z : Nat → Int32, z = upd r_state 4 ((r_state 4) + y_18) := ⟨_, rfl⟩
    have hP : va_P D vwCl (mdW Y cI m_thrown m_status m_isThere m_kinds m_newKinds m_print m_low m_high m_lot m_taped m_latest m_length m_cursor m_token m_from m_till m_fault m_faultAt m_traced r_lane r_many r_item r_market r_of r_newMarket r_newStart r_newOf r_newCoin (upd r_state 4 ((r_state 4) + y_18)) r_kept r_tape u_11.2 r_seen r_seenOut r_trace ++ R) H := hP
    have hD : va_D A (mdW Y cI m_thrown m_status m_isThere m_kinds m_newKinds m_print m_low m_high m_lot m_taped m_latest m_length m_cursor m_token m_from m_till m_fault m_faultAt m_traced r_lane r_many r_item r_market r_of r_newMarket r_newStart r_newOf r_newCoin (upd r_state 4 ((r_state 4) + y_18)) r_kept r_tape u_11.2 r_seen r_seenOut r_trace ++ R) := hD
    rw [← ear_40] at hP hD
    have hP : va_P D vwCl (mdW Y cI m_thrown m_status m_isThere m_kinds m_newKinds m_print m_low m_high m_lot m_taped m_latest m_length m_cursor m_token m_from m_till m_fault m_faultAt m_traced r_lane r_many r_item r_market r_of r_newMarket r_newStart r_newOf r_newCoin ar_40 r_kept r_tape u_11.2 r_seen r_seenOut r_trace ++ R) H := hP
    have hD : va_D A (mdW Y cI m_thrown m_status m_isThere m_kinds m_newKinds m_print m_low m_high m_lot m_taped m_latest m_length m_cursor m_token m_from m_till m_fault m_faultAt m_traced r_lane r_many r_item r_market r_of r_newMarket r_newStart r_newOf r_newCoin ar_40 r_kept r_tape u_11.2 r_seen r_seenOut r_trace ++ R) := hD
    refine lv_aload_n hx hb dX11_year_167 rfl (lv_at hl 3 rfl) ?_
    refine va_get (D := D) (ci := 9) (v := .ref (Y 14)) (C := RX11) (T := TX11) (N := 35) hx hb hts iX11 hown hK hP 0 rfl rfl 14 (by decide) k37 (fun _ h9 => h9) rfl dX11_year_168 ?_
    refine lv_iconst (v := 5) hx hb dX11_year_171 (by decide) ?_
    refine lv_dup2_11 hx hb dX11_year_172 rfl rfl ?_
    have q_41 : vp_in (5 : Int32) 17 := vp_in_iff.mpr (by decide)
    refine va_iald hx hb hK hP 10 0 rfl rfl q_41 dX11_year_173 ?_
    refine W.eq (g2 := F0 m 174 ls [.int (ar_40 5), .int 5, .ref (Y 14)]) rfl ?_
    refine lv_iload hx hb dX11_year_174 (lv_at hl 1 rfl) ?_
    refine lv_iload hx hb dX11_year_176 (lv_at hl 0 rfl) ?_
    refine lv_imul hx hb dX11_year_178 ?_
    refine lv_iadd hx hb dX11_year_179 ?_
    have q_42 : vp_in (5 : Int32) 17 := vp_in_iff.mpr (by decide)
    refine va_iast hx hb hK hP hD hS 10 0 rfl rfl q_42 dX11_year_180 (fun H locs hP hD hS => ?_)
    obtain ⟨ar_43, ear_43⟩ : ∃ z : Nat → Int32, z = upd ar_40 5 ((ar_40 5) + (y_18 * u_37)) := ⟨_, rfl⟩
    have hP : va_P D vwCl (mdW Y cI m_thrown m_status m_isThere m_kinds m_newKinds m_print m_low m_high m_lot m_taped m_latest m_length m_cursor m_token m_from m_till m_fault m_faultAt m_traced r_lane r_many r_item r_market r_of r_newMarket r_newStart r_newOf r_newCoin (upd ar_40 5 ((ar_40 5) + (y_18 * u_37))) r_kept r_tape u_11.2 r_seen r_seenOut r_trace ++ R) H := hP
    have hD : va_D A (mdW Y cI m_thrown m_status m_isThere m_kinds m_newKinds m_print m_low m_high m_lot m_taped m_latest m_length m_cursor m_token m_from m_till m_fault m_faultAt m_traced r_lane r_many r_item r_market r_of r_newMarket r_newStart r_newOf r_newCoin (upd ar_40 5 ((ar_40 5) + (y_18 * u_37))) r_kept r_tape u_11.2 r_seen r_seenOut r_trace ++ R) := hD
    rw [← ear_43] at hP hD
    have hP : va_P D vwCl (mdW Y cI m_thrown m_status m_isThere m_kinds m_newKinds m_print m_low m_high m_lot m_taped m_latest m_length m_cursor m_token m_from m_till m_fault m_faultAt m_traced r_lane r_many r_item r_market r_of r_newMarket r_newStart r_newOf r_newCoin ar_43 r_kept r_tape u_11.2 r_seen r_seenOut r_trace ++ R) H := hP
    have hD : va_D A (mdW Y cI m_thrown m_status m_isThere m_kinds m_newKinds m_print m_low m_high m_lot m_taped m_latest m_length m_cursor m_token m_from m_till m_fault m_faultAt m_traced r_lane r_many r_item r_market r_of r_newMarket r_newStart r_newOf r_newCoin ar_43 r_kept r_tape u_11.2 r_seen r_seenOut r_trace ++ R) := hD
    refine lv_iconst (v := 0) hx hb dX11_year_181 (by decide) ?_
    refine lv_istore (lv' := [(6, .int 0), (5, .int u_37), (4, .int y_18), (2, .int u_12), (0, .ref (Y 0))]) hx hb dX11_year_182 hl (by decide) rfl (fun ls hl => ?_)
    have L_184 : ∀ (n : Nat) (x6_184 : Int32) (r_state_184 : Nat → Int32) (H : Heap) (locs : List Loc) (ls : Array Slot), 0 ≤ x6_184.toInt → x6_184.toInt ≤ 5 → (5 : Int) < x6_184.toInt + ((n : Nat) : Int) → va_P D vwCl (mdW Y cI m_thrown m_status m_isThere m_kinds m_newKinds m_print m_low m_high m_lot m_taped m_latest m_length m_cursor m_token m_from m_till m_fault m_faultAt m_traced r_lane r_many r_item r_market r_of r_newMarket r_newStart r_newOf r_newCoin r_state_184 r_kept r_tape u_11.2 r_seen r_seenOut r_trace ++ R) H → va_D A (mdW Y cI m_thrown m_status m_isThere m_kinds m_newKinds m_print m_low m_high m_lot m_taped m_latest m_length m_cursor m_token m_from m_till m_fault m_faultAt m_traced r_lane r_many r_item r_market r_of r_newMarket r_newStart r_newOf r_newCoin r_state_184 r_kept r_tape u_11.2 r_seen r_seenOut r_trace ++ R) → va_S A s.heap H locs → lv_has ls 7 [(6, .int x6_184), (5, .int u_37), (2, .int u_12), (0, .ref (Y 0))] → (∀ (u : Int32 × (Nat → Int32)) (H : Heap) (locs : List Loc) (ls : Array Slot), u = lX11_year_184 m_kinds r_market r_of u_11 u_37 n x6_184 r_state_184 → va_P D vwCl (mdW Y cI m_thrown m_status m_isThere m_kinds m_newKinds m_print m_low m_high m_lot m_taped m_latest m_length m_cursor m_token m_from m_till m_fault m_faultAt m_traced r_lane r_many r_item r_market r_of r_newMarket r_newStart r_newOf r_newCoin u.2 r_kept r_tape u_11.2 r_seen r_seenOut r_trace ++ R) H → va_D A (mdW Y cI m_thrown m_status m_isThere m_kinds m_newKinds m_print m_low m_high m_lot m_taped m_latest m_length m_cursor m_token m_from m_till m_fault m_faultAt m_traced r_lane r_many r_item r_market r_of r_newMarket r_newStart r_newOf r_newCoin u.2 r_kept r_tape u_11.2 r_seen r_seenOut r_trace ++ R) → va_S A s.heap H locs → lv_has ls 7 [(5, .int u_37), (2, .int u_12), (0, .ref (Y 0))] → W p l e (rmX 6) s m ([.ref (Y 0)] : List Value).toArray below meth c H locs 0 0 Qm (F0 m 274 ls [])) → W p l e (rmX 6) s m ([.ref (Y 0)] : List Value).toArray below meth c H locs 0 0 Qm (F0 m 184 ls []) := by
      intro n
      induction n with
      | zero =>
        intro x6_184 r_state_184 H locs ls iv_184_0 iv_184_1 iv_184_2 hP hD hS hl kont_184
        exfalso; omega
      | succ n ih_184 =>
        intro x6_184 r_state_184 H locs ls iv_184_0 iv_184_1 iv_184_2 hP hD hS hl kont_184
        refine lv_iload hx hb dX11_year_184 (lv_at hl 0 rfl) ?_
        refine lv_aload_n hx hb dX11_year_186 rfl (lv_at hl 3 rfl) ?_
        refine va_get (D := D) (ci := 9) (v := .int m_kinds) (C := RX11) (T := TX11) (N := 35) hx hb hts iX11 hown hK hP 0 rfl rfl 6 (by decide) k180 (fun _ h9 => h9) rfl dX11_year_187 ?_
        refine lv_icmp_ge (tgt := 274) hx hb dX11_year_190 (by decide) (fun c_44 => ?_) (fun c_44 => ?_)
        · have d_44 := i_le rfl rfl c_44
          exact kont_184 (x6_184, r_state_184) H locs ls (show lX11_year_184 m_kinds r_market r_of u_11 u_37 (n + 1) x6_184 r_state_184 = (x6_184, r_state_184) from ((if_pos c_44).trans rfl)).symm  hP hD hS (lv_sub hl [1, 2, 3] rfl)
        · have d_44 := i_len rfl rfl c_44
          refine lv_aload_n hx hb dX11_year_193 rfl (lv_at hl 3 rfl) ?_
          refine lv_iload hx hb dX11_year_194 (lv_at hl 0 rfl) ?_
          refine mx_callV (As := [.int x6_184]) (rest := []) ⟨hx, hb, hml, hown, hts⟩ (mtX11_isOut l D cI cB cK cS Y R m_thrown m_status m_isThere m_kinds m_newKinds m_print m_low m_high m_lot m_taped m_latest m_length m_cursor m_token m_from m_till m_fault m_faultAt m_traced r_lane r_many r_item r_market r_of r_newMarket r_newStart r_newOf r_newCoin r_state_184 r_kept r_tape u_11.2 r_seen r_seenOut r_trace x6_184 (by omega) (by omega)) (cwV 1 hts gX11_year_X11_isOut rfl rfl rfl (by decide +kernel) ⟨Nat.le_of_ble_eq_true rfl, Nat.le_of_ble_eq_true rfl⟩) pF0_ok trivial hK hP hD hS hA 0 rfl rfl rfl rfl hl.1 rfl (Nat.le_of_ble_eq_true rfl) dX11_year_196 ⟨Nat.le_refl _, Nat.le_refl _⟩ (fun u_45 H locs eu_45 hP hD hS => ?_)
          refine W.eq (g2 := F0 m 199 ls [.int u_45]) rfl ?_
          have hP : va_P D vwCl (mdW Y cI m_thrown m_status m_isThere m_kinds m_newKinds m_print m_low m_high m_lot m_taped m_latest m_length m_cursor m_token m_from m_till m_fault m_faultAt m_traced r_lane r_many r_item r_market r_of r_newMarket r_newStart r_newOf r_newCoin r_state_184 r_kept r_tape u_11.2 r_seen r_seenOut r_trace ++ R) H := hP
          have hD : va_D A (mdW Y cI m_thrown m_status m_isThere m_kinds m_newKinds m_print m_low m_high m_lot m_taped m_latest m_length m_cursor m_token m_from m_till m_fault m_faultAt m_traced r_lane r_many r_item r_market r_of r_newMarket r_newStart r_newOf r_newCoin r_state_184 r_kept r_tape u_11.2 r_seen r_seenOut r_trace ++ R) := hD
          have J_53 : ∀ (y_53 : Nat → Int32) (H : Heap) (locs : List Loc) (ls : Array Slot), y_53 = (if u_45 = 0 then (lt (sX11_told x6_184 5 r_of) (fun u_58 : Int32 => lt ((r_state_184 (7 + x6_184).toNatClampNeg) + (((u_37 - (r_market 2)) * (u_11.2 x6_184.toNatClampNeg)) - u_58)) (fun x_59 : Int32 => lt (upd r_state_184 (7 + x6_184).toNatClampNeg x_59) (fun ar_61 : Nat → Int32 => lt (if 0 ≤ (ar_61 (7 + x6_184).toNatClampNeg) then (0) else (1)) (fun y_63 : Int32 => lt (upd ar_61 (12 + x6_184).toNatClampNeg y_63) (fun ar_66 : Nat → Int32 => ar_66)))))) else (r_state_184)) → va_P D vwCl (mdW Y cI m_thrown m_status m_isThere m_kinds m_newKinds m_print m_low m_high m_lot m_taped m_latest m_length m_cursor m_token m_from m_till m_fault m_faultAt m_traced r_lane r_many r_item r_market r_of r_newMarket r_newStart r_newOf r_newCoin y_53 r_kept r_tape u_11.2 r_seen r_seenOut r_trace ++ R) H → va_D A (mdW Y cI m_thrown m_status m_isThere m_kinds m_newKinds m_print m_low m_high m_lot m_taped m_latest m_length m_cursor m_token m_from m_till m_fault m_faultAt m_traced r_lane r_many r_item r_market r_of r_newMarket r_newStart r_newOf r_newCoin y_53 r_kept r_tape u_11.2 r_seen r_seenOut r_trace ++ R) → va_S A s.heap H locs → lv_has ls 7 [(6, .int x6_184), (5, .int u_37), (2, .int u_12), (0, .ref (Y 0))] → W p l e (rmX 6) s m ([.ref (Y 0)] : List Value).toArray below meth c H locs 0 0 Qm (F0 m 268 ls []) := by
            intro y_53 H locs ls ey_53 hP hD hS hl
            obtain ⟨x_67, ex_67⟩ : ∃ z : Int32, z = x6_184 + 1 := ⟨_, rfl⟩
            refine lv_iinc (v := x_67) (lv' := [(6, .int x_67), (5, .int u_37), (2, .int u_12), (0, .ref (Y 0))]) hx hb dX11_year_268 hl (k := 0) rfl (by rw [ex_67]; rfl) (by decide) rfl (fun ls hl => ?_)
            refine lv_goto (tgt := 184) hx hb dX11_year_271 (by decide) ?_
            have tx_67 : x_67.toInt = x6_184.toInt + 1 := i_inc ex_67 (by decide) (by omega) (by omega)
            refine ih_184 x_67 y_53 H locs ls (by omega) (by omega) (by omega) hP hD hS (lv_sub hl [0, 1, 2, 3] rfl) (fun u H locs ls eu  hP hD hS hl => ?_)
            exact kont_184 u H locs ls (eu.trans (show lX11_year_184 m_kinds r_market r_of u_11 u_37 (n + 1) x6_184 r_state_184 = lX11_year_184 m_kinds r_market r_of u_11 u_37 n x_67 y_53 from ((if_neg c_44).trans (lt_eq eu_45 (lt_eq ey_53 (lt_eq ex_67 rfl))))).symm)  hP hD hS hl
          refine lv_if_ne (tgt := 268) hx hb dX11_year_199 (by decide) (fun c_54 => ?_) (fun c_54 => ?_)
          · have d_54 := i_eqn rfl (show (0 : Int32).toInt = 0 from by decide) c_54
            exact J_53 r_state_184 H locs ls (Eq.symm ((if_neg c_54).trans rfl)) hP hD hS (lv_sub hl [0, 1, 2, 3] rfl)
          · have d_54 := i_eq rfl (show (0 : Int32).toInt = 0 from by decide) c_54
            refine lv_aload_n hx hb dX11_year_202 rfl (lv_at hl 3 rfl) ?_
            refine va_get (D := D) (ci := 9) (v := .ref (Y 14)) (C := RX11) (T := TX11) (N := 35) hx hb hts iX11 hown hK hP 0 rfl rfl 14 (by decide) k37 (fun _ h9 => h9) rfl dX11_year_203 ?_
            refine lv_bipush (v := 7) hx hb dX11_year_206 (by decide) ?_
            refine lv_iload hx hb dX11_year_208 (lv_at hl 0 rfl) ?_
            refine lv_iadd hx hb dX11_year_210 ?_
            refine lv_dup2_11 hx hb dX11_year_211 rfl rfl ?_
            have q_55 : vp_in (7 + x6_184) 17 := vp_in_iff.mpr (by rw [show (7 + x6_184).toInt = (7 + x6_184.toInt) from (i_addv (show (7 : Int32).toInt = 7 from by decide) rfl (by omega) (by omega))]; constructor <;> omega)
            refine va_iald hx hb hK hP 10 0 rfl rfl q_55 dX11_year_212 ?_
            refine lv_iload hx hb dX11_year_213 (lv_at hl 1 rfl) ?_
            refine lv_aload_n hx hb dX11_year_215 rfl (lv_at hl 3 rfl) ?_
            refine va_get (D := D) (ci := 9) (v := .ref (Y 7)) (C := RX11) (T := TX11) (N := 35) hx hb hts iX11 hown hK hP 0 rfl rfl 7 (by decide) k19 (fun _ h9 => h9) rfl dX11_year_216 ?_
            refine lv_iconst (v := 2) hx hb dX11_year_219 (by decide) ?_
            have q_56 : vp_in (2 : Int32) 3 := vp_in_iff.mpr (by decide)
            refine va_iald hx hb hK hP 4 0 rfl rfl q_56 dX11_year_220 ?_
            refine W.eq (g2 := F0 m 221 ls [.int (r_market 2), .int u_37, .int (r_state_184 (7 + x6_184).toNatClampNeg), .int (7 + x6_184), .ref (Y 14)]) rfl ?_
            refine lv_isub hx hb dX11_year_221 ?_
            refine lv_aload_n hx hb dX11_year_222 rfl (lv_at hl 3 rfl) ?_
            refine va_get (D := D) (ci := 9) (v := .ref (Y 30)) (C := RX11) (T := TX11) (N := 35) hx hb hts iX11 hown hK hP 0 rfl rfl 30 (by decide) k46 (fun _ h9 => h9) rfl dX11_year_223 ?_
            refine lv_iload hx hb dX11_year_226 (lv_at hl 0 rfl) ?_
            have q_57 : vp_in x6_184 5 := vp_in_iff.mpr ⟨by omega, by omega⟩
            refine va_iald hx hb hK hP 13 0 rfl rfl q_57 dX11_year_228 ?_
            refine lv_imul hx hb dX11_year_229 ?_
            refine lv_aload_n hx hb dX11_year_230 rfl (lv_at hl 3 rfl) ?_
            refine lv_iload hx hb dX11_year_231 (lv_at hl 0 rfl) ?_
            refine lv_iconst (v := 5) hx hb dX11_year_233 (by decide) ?_
            refine mx_callV (As := [.int x6_184, .int 5]) (rest := [.int ((u_37 - (r_market 2)) * (u_11.2 x6_184.toNatClampNeg)), .int (r_state_184 (7 + x6_184).toNatClampNeg), .int (7 + x6_184), .ref (Y 14)]) ⟨hx, hb, hml, hown, hts⟩ (mtX11_told l D cI cB cK cS Y R m_thrown m_status m_isThere m_kinds m_newKinds m_print m_low m_high m_lot m_taped m_latest m_length m_cursor m_token m_from m_till m_fault m_faultAt m_traced r_lane r_many r_item r_market r_of r_newMarket r_newStart r_newOf r_newCoin r_state_184 r_kept r_tape u_11.2 r_seen r_seenOut r_trace x6_184 5 (vp_in_iff.mpr (by rw [show (6 * x6_184 + 5).toInt = ((6 * x6_184.toInt) + 5) from (i_addv (i_mulv (show (6 : Int32).toInt = 6 from by decide) rfl (by omega) (by omega)) (show (5 : Int32).toInt = 5 from by decide) (by omega) (by omega))]; constructor <;> omega))) (cwV 2 hts gX11_year_X11_told rfl rfl rfl (by decide +kernel) ⟨Nat.le_of_ble_eq_true rfl, Nat.le_of_ble_eq_true rfl⟩) pF0_ok trivial hK hP hD hS hA 0 rfl rfl rfl rfl hl.1 rfl (Nat.le_of_ble_eq_true rfl) dX11_year_234 ⟨Nat.le_refl _, Nat.le_refl _⟩ (fun u_58 H locs eu_58 hP hD hS => ?_)
            refine W.eq (g2 := F0 m 237 ls [.int u_58, .int ((u_37 - (r_market 2)) * (u_11.2 x6_184.toNatClampNeg)), .int (r_state_184 (7 + x6_184).toNatClampNeg), .int (7 + x6_184), .ref (Y 14)]) rfl ?_
            have hP : va_P D vwCl (mdW Y cI m_thrown m_status m_isThere m_kinds m_newKinds m_print m_low m_high m_lot m_taped m_latest m_length m_cursor m_token m_from m_till m_fault m_faultAt m_traced r_lane r_many r_item r_market r_of r_newMarket r_newStart r_newOf r_newCoin r_state_184 r_kept r_tape u_11.2 r_seen r_seenOut r_trace ++ R) H := hP
            have hD : va_D A (mdW Y cI m_thrown m_status m_isThere m_kinds m_newKinds m_print m_low m_high m_lot m_taped m_latest m_length m_cursor m_token m_from m_till m_fault m_faultAt m_traced r_lane r_many r_item r_market r_of r_newMarket r_newStart r_newOf r_newCoin r_state_184 r_kept r_tape u_11.2 r_seen r_seenOut r_trace ++ R) := hD
            refine lv_isub hx hb dX11_year_237 ?_
            refine lv_iadd hx hb dX11_year_238 ?_
            refine lv_topi (fun x_59 ex_59 => ?_)
            have q_60 : vp_in (7 + x6_184) 17 := vp_in_iff.mpr (by rw [show (7 + x6_184).toInt = (7 + x6_184.toInt) from (i_addv (show (7 : Int32).toInt = 7 from by decide) rfl (by omega) (by omega))]; constructor <;> omega)
            refine va_iast hx hb hK hP hD hS 10 0 rfl rfl q_60 dX11_year_239 (fun H locs hP hD hS => ?_)
            obtain ⟨ar_61, ear_61⟩ : ∃ z : Nat → Int32, z = upd r_state_184 (7 + x6_184).toNatClampNeg x_59 := ⟨_, rfl⟩
            have hP : va_P D vwCl (mdW Y cI m_thrown m_status m_isThere m_kinds m_newKinds m_print m_low m_high m_lot m_taped m_latest m_length m_cursor m_token m_from m_till m_fault m_faultAt m_traced r_lane r_many r_item r_market r_of r_newMarket r_newStart r_newOf r_newCoin (upd r_state_184 (7 + x6_184).toNatClampNeg x_59) r_kept r_tape u_11.2 r_seen r_seenOut r_trace ++ R) H := hP
            have hD : va_D A (mdW Y cI m_thrown m_status m_isThere m_kinds m_newKinds m_print m_low m_high m_lot m_taped m_latest m_length m_cursor m_token m_from m_till m_fault m_faultAt m_traced r_lane r_many r_item r_market r_of r_newMarket r_newStart r_newOf r_newCoin (upd r_state_184 (7 + x6_184).toNatClampNeg x_59) r_kept r_tape u_11.2 r_seen r_seenOut r_trace ++ R) := hD
            rw [← ear_61] at hP hD
            have hP : va_P D vwCl (mdW Y cI m_thrown m_status m_isThere m_kinds m_newKinds m_print m_low m_high m_lot m_taped m_latest m_length m_cursor m_token m_from m_till m_fault m_faultAt m_traced r_lane r_many r_item r_market r_of r_newMarket r_newStart r_newOf r_newCoin ar_61 r_kept r_tape u_11.2 r_seen r_seenOut r_trace ++ R) H := hP
            have hD : va_D A (mdW Y cI m_thrown m_status m_isThere m_kinds m_newKinds m_print m_low m_high m_lot m_taped m_latest m_length m_cursor m_token m_from m_till m_fault m_faultAt m_traced r_lane r_many r_item r_market r_of r_newMarket r_newStart r_newOf r_newCoin ar_61 r_kept r_tape u_11.2 r_seen r_seenOut r_trace ++ R) := hD
            refine lv_aload_n hx hb dX11_year_240 rfl (lv_at hl 3 rfl) ?_
            refine va_get (D := D) (ci := 9) (v := .ref (Y 14)) (C := RX11) (T := TX11) (N := 35) hx hb hts iX11 hown hK hP 0 rfl rfl 14 (by decide) k37 (fun _ h9 => h9) rfl dX11_year_241 ?_
            refine lv_bipush (v := 12) hx hb dX11_year_244 (by decide) ?_
            refine lv_iload hx hb dX11_year_246 (lv_at hl 0 rfl) ?_
            refine lv_iadd hx hb dX11_year_248 ?_
            refine lv_aload_n hx hb dX11_year_249 rfl (lv_at hl 3 rfl) ?_
            refine va_get (D := D) (ci := 9) (v := .ref (Y 14)) (C := RX11) (T := TX11) (N := 35) hx hb hts iX11 hown hK hP 0 rfl rfl 14 (by decide) k37 (fun _ h9 => h9) rfl dX11_year_250 ?_
            refine lv_bipush (v := 7) hx hb dX11_year_253 (by decide) ?_
            refine lv_iload hx hb dX11_year_255 (lv_at hl 0 rfl) ?_
            refine lv_iadd hx hb dX11_year_257 ?_
            have q_62 : vp_in (7 + x6_184) 17 := vp_in_iff.mpr (by rw [show (7 + x6_184).toInt = (7 + x6_184.toInt) from (i_addv (show (7 : Int32).toInt = 7 from by decide) rfl (by omega) (by omega))]; constructor <;> omega)
            refine va_iald hx hb hK hP 10 0 rfl rfl q_62 dX11_year_258 ?_
            have J_63 : ∀ (y_63 : Int32) (H : Heap) (locs : List Loc) (ls : Array Slot), y_63 = (if 0 ≤ (ar_61 (7 + x6_184).toNatClampNeg) then (0) else (1)) → va_P D vwCl (mdW Y cI m_thrown m_status m_isThere m_kinds m_newKinds m_print m_low m_high m_lot m_taped m_latest m_length m_cursor m_token m_from m_till m_fault m_faultAt m_traced r_lane r_many r_item r_market r_of r_newMarket r_newStart r_newOf r_newCoin ar_61 r_kept r_tape u_11.2 r_seen r_seenOut r_trace ++ R) H → va_D A (mdW Y cI m_thrown m_status m_isThere m_kinds m_newKinds m_print m_low m_high m_lot m_taped m_latest m_length m_cursor m_token m_from m_till m_fault m_faultAt m_traced r_lane r_many r_item r_market r_of r_newMarket r_newStart r_newOf r_newCoin ar_61 r_kept r_tape u_11.2 r_seen r_seenOut r_trace ++ R) → va_S A s.heap H locs → lv_has ls 7 [(6, .int x6_184), (5, .int u_37), (2, .int u_12), (0, .ref (Y 0))] → W p l e (rmX 6) s m ([.ref (Y 0)] : List Value).toArray below meth c H locs 0 0 Qm (F0 m 267 ls [.int y_63, .int (12 + x6_184), .ref (Y 14)]) := by
              intro y_63 H locs ls ey_63 hP hD hS hl
              have q_65 : vp_in (12 + x6_184) 17 := vp_in_iff.mpr (by rw [show (12 + x6_184).toInt = (12 + x6_184.toInt) from (i_addv (show (12 : Int32).toInt = 12 from by decide) rfl (by omega) (by omega))]; constructor <;> omega)
              refine va_iast hx hb hK hP hD hS 10 0 rfl rfl q_65 dX11_year_267 (fun H locs hP hD hS => ?_)
              obtain ⟨ar_66, ear_66⟩ : ∃ z : Nat → Int32, z = upd ar_61 (12 + x6_184).toNatClampNeg y_63 := ⟨_, rfl⟩
              have hP : va_P D vwCl (mdW Y cI m_thrown m_status m_isThere m_kinds m_newKinds m_print m_low m_high m_lot m_taped m_latest m_length m_cursor m_token m_from m_till m_fault m_faultAt m_traced r_lane r_many r_item r_market r_of r_newMarket r_newStart r_newOf r_newCoin (upd ar_61 (12 + x6_184).toNatClampNeg y_63) r_kept r_tape u_11.2 r_seen r_seenOut r_trace ++ R) H := hP
              have hD : va_D A (mdW Y cI m_thrown m_status m_isThere m_kinds m_newKinds m_print m_low m_high m_lot m_taped m_latest m_length m_cursor m_token m_from m_till m_fault m_faultAt m_traced r_lane r_many r_item r_market r_of r_newMarket r_newStart r_newOf r_newCoin (upd ar_61 (12 + x6_184).toNatClampNeg y_63) r_kept r_tape u_11.2 r_seen r_seenOut r_trace ++ R) := hD
              rw [← ear_66] at hP hD
              have hP : va_P D vwCl (mdW Y cI m_thrown m_status m_isThere m_kinds m_newKinds m_print m_low m_high m_lot m_taped m_latest m_length m_cursor m_token m_from m_till m_fault m_faultAt m_traced r_lane r_many r_item r_market r_of r_newMarket r_newStart r_newOf r_newCoin ar_66 r_kept r_tape u_11.2 r_seen r_seenOut r_trace ++ R) H := hP
              have hD : va_D A (mdW Y cI m_thrown m_status m_isThere m_kinds m_newKinds m_print m_low m_high m_lot m_taped m_latest m_length m_cursor m_token m_from m_till m_fault m_faultAt m_traced r_lane r_many r_item r_market r_of r_newMarket r_newStart r_newOf r_newCoin ar_66 r_kept r_tape u_11.2 r_seen r_seenOut r_trace ++ R) := hD
              exact J_53 ar_66 H locs ls (Eq.symm ((if_pos c_54).trans (lt_eq eu_58 (lt_eq ex_59 (lt_eq ear_61 (lt_eq ey_63 (lt_eq ear_66 rfl))))))) hP hD hS (lv_sub hl [0, 1, 2, 3] rfl)
            refine lv_if_ge (tgt := 266) hx hb dX11_year_259 (by decide) (fun c_64 => ?_) (fun c_64 => ?_)
            · have d_64 := i_le (show (0 : Int32).toInt = 0 from by decide) rfl c_64
              refine lv_iconst (v := 0) hx hb dX11_year_266 (by decide) ?_
              exact J_63 0 H locs ls (Eq.symm ((if_pos c_64).trans rfl)) hP hD hS (lv_sub hl [0, 1, 2, 3] rfl)
            · have d_64 := i_len (show (0 : Int32).toInt = 0 from by decide) rfl c_64
              refine lv_iconst (v := 1) hx hb dX11_year_262 (by decide) ?_
              refine lv_goto (tgt := 267) hx hb dX11_year_263 (by decide) ?_
              exact J_63 1 H locs ls (Eq.symm ((if_neg c_64).trans rfl)) hP hD hS (lv_sub hl [0, 1, 2, 3] rfl)
    refine L_184 6 0 ar_43 H locs ls (by decide) (by decide) (by decide) hP hD hS (lv_sub hl [0, 1, 3, 4] rfl) (fun u_68 H locs ls eu_68  hP hD hS hl => ?_)
    have hP : va_P D vwCl (mdW Y cI m_thrown m_status m_isThere m_kinds m_newKinds m_print m_low m_high m_lot m_taped m_latest m_length m_cursor m_token m_from m_till m_fault m_faultAt m_traced r_lane r_many r_item r_market r_of r_newMarket r_newStart r_newOf r_newCoin u_68.2 r_kept r_tape u_11.2 r_seen r_seenOut r_trace ++ R) H := hP
    have hD : va_D A (mdW Y cI m_thrown m_status m_isThere m_kinds m_newKinds m_print m_low m_high m_lot m_taped m_latest m_length m_cursor m_token m_from m_till m_fault m_faultAt m_traced r_lane r_many r_item r_market r_of r_newMarket r_newStart r_newOf r_newCoin u_68.2 r_kept r_tape u_11.2 r_seen r_seenOut r_trace ++ R) := hD
    refine lv_aload_n hx hb dX11_year_274 rfl (lv_at hl 2 rfl) ?_
    refine va_get (D := D) (ci := 9) (v := .ref (Y 14)) (C := RX11) (T := TX11) (N := 35) hx hb hts iX11 hown hK hP 0 rfl rfl 14 (by decide) k37 (fun _ h9 => h9) rfl dX11_year_275 ?_
    refine lv_iconst (v := 2) hx hb dX11_year_278 (by decide) ?_
    refine lv_aload_n hx hb dX11_year_279 rfl (lv_at hl 2 rfl) ?_
    refine va_get (D := D) (ci := 9) (v := .ref (Y 14)) (C := RX11) (T := TX11) (N := 35) hx hb hts iX11 hown hK hP 0 rfl rfl 14 (by decide) k37 (fun _ h9 => h9) rfl dX11_year_280 ?_
    refine lv_iconst (v := 1) hx hb dX11_year_283 (by decide) ?_
    have q_69 : vp_in (1 : Int32) 17 := vp_in_iff.mpr (by decide)
    refine va_iald hx hb hK hP 10 0 rfl rfl q_69 dX11_year_284 ?_
    refine W.eq (g2 := F0 m 285 ls [.int (u_68.2 1), .int 2, .ref (Y 14)]) rfl ?_
    have q_70 : vp_in (2 : Int32) 17 := vp_in_iff.mpr (by decide)
    refine va_iast hx hb hK hP hD hS 10 0 rfl rfl q_70 dX11_year_285 (fun H locs hP hD hS => ?_)
    obtain ⟨ar_71, ear_71⟩ : ∃ z : Nat → Int32, z = upd u_68.2 2 (u_68.2 1) := ⟨_, rfl⟩
    have hP : va_P D vwCl (mdW Y cI m_thrown m_status m_isThere m_kinds m_newKinds m_print m_low m_high m_lot m_taped m_latest m_length m_cursor m_token m_from m_till m_fault m_faultAt m_traced r_lane r_many r_item r_market r_of r_newMarket r_newStart r_newOf r_newCoin (upd u_68.2 2 (u_68.2 1)) r_kept r_tape u_11.2 r_seen r_seenOut r_trace ++ R) H := hP
    have hD : va_D A (mdW Y cI m_thrown m_status m_isThere m_kinds m_newKinds m_print m_low m_high m_lot m_taped m_latest m_length m_cursor m_token m_from m_till m_fault m_faultAt m_traced r_lane r_many r_item r_market r_of r_newMarket r_newStart r_newOf r_newCoin (upd u_68.2 2 (u_68.2 1)) r_kept r_tape u_11.2 r_seen r_seenOut r_trace ++ R) := hD
    rw [← ear_71] at hP hD
    have hP : va_P D vwCl (mdW Y cI m_thrown m_status m_isThere m_kinds m_newKinds m_print m_low m_high m_lot m_taped m_latest m_length m_cursor m_token m_from m_till m_fault m_faultAt m_traced r_lane r_many r_item r_market r_of r_newMarket r_newStart r_newOf r_newCoin ar_71 r_kept r_tape u_11.2 r_seen r_seenOut r_trace ++ R) H := hP
    have hD : va_D A (mdW Y cI m_thrown m_status m_isThere m_kinds m_newKinds m_print m_low m_high m_lot m_taped m_latest m_length m_cursor m_token m_from m_till m_fault m_faultAt m_traced r_lane r_many r_item r_market r_of r_newMarket r_newStart r_newOf r_newCoin ar_71 r_kept r_tape u_11.2 r_seen r_seenOut r_trace ++ R) := hD
    refine lv_aload_n hx hb dX11_year_286 rfl (lv_at hl 2 rfl) ?_
    refine va_get (D := D) (ci := 9) (v := .ref (Y 14)) (C := RX11) (T := TX11) (N := 35) hx hb hts iX11 hown hK hP 0 rfl rfl 14 (by decide) k37 (fun _ h9 => h9) rfl dX11_year_287 ?_
    refine lv_iconst (v := 1) hx hb dX11_year_290 (by decide) ?_
    refine lv_aload_n hx hb dX11_year_291 rfl (lv_at hl 2 rfl) ?_
    refine va_get (D := D) (ci := 9) (v := .ref (Y 14)) (C := RX11) (T := TX11) (N := 35) hx hb hts iX11 hown hK hP 0 rfl rfl 14 (by decide) k37 (fun _ h9 => h9) rfl dX11_year_292 ?_
    refine lv_iconst (v := 0) hx hb dX11_year_295 (by decide) ?_
    have q_72 : vp_in (0 : Int32) 17 := vp_in_iff.mpr (by decide)
    refine va_iald hx hb hK hP 10 0 rfl rfl q_72 dX11_year_296 ?_
    refine W.eq (g2 := F0 m 297 ls [.int (ar_71 0), .int 1, .ref (Y 14)]) rfl ?_
    have q_73 : vp_in (1 : Int32) 17 := vp_in_iff.mpr (by decide)
    refine va_iast hx hb hK hP hD hS 10 0 rfl rfl q_73 dX11_year_297 (fun H locs hP hD hS => ?_)
    obtain ⟨ar_74, ear_74⟩ : ∃ z : Nat → Int32, z = upd ar_71 1 (ar_71 0) := ⟨_, rfl⟩
    have hP : va_P D vwCl (mdW Y cI m_thrown m_status m_isThere m_kinds m_newKinds m_print m_low m_high m_lot m_taped m_latest m_length m_cursor m_token m_from m_till m_fault m_faultAt m_traced r_lane r_many r_item r_market r_of r_newMarket r_newStart r_newOf r_newCoin (upd ar_71 1 (ar_71 0)) r_kept r_tape u_11.2 r_seen r_seenOut r_trace ++ R) H := hP
    have hD : va_D A (mdW Y cI m_thrown m_status m_isThere m_kinds m_newKinds m_print m_low m_high m_lot m_taped m_latest m_length m_cursor m_token m_from m_till m_fault m_faultAt m_traced r_lane r_many r_item r_market r_of r_newMarket r_newStart r_newOf r_newCoin (upd ar_71 1 (ar_71 0)) r_kept r_tape u_11.2 r_seen r_seenOut r_trace ++ R) := hD
    rw [← ear_74] at hP hD
    have hP : va_P D vwCl (mdW Y cI m_thrown m_status m_isThere m_kinds m_newKinds m_print m_low m_high m_lot m_taped m_latest m_length m_cursor m_token m_from m_till m_fault m_faultAt m_traced r_lane r_many r_item r_market r_of r_newMarket r_newStart r_newOf r_newCoin ar_74 r_kept r_tape u_11.2 r_seen r_seenOut r_trace ++ R) H := hP
    have hD : va_D A (mdW Y cI m_thrown m_status m_isThere m_kinds m_newKinds m_print m_low m_high m_lot m_taped m_latest m_length m_cursor m_token m_from m_till m_fault m_faultAt m_traced r_lane r_many r_item r_market r_of r_newMarket r_newStart r_newOf r_newCoin ar_74 r_kept r_tape u_11.2 r_seen r_seenOut r_trace ++ R) := hD
    refine lv_aload_n hx hb dX11_year_298 rfl (lv_at hl 2 rfl) ?_
    refine va_get (D := D) (ci := 9) (v := .ref (Y 14)) (C := RX11) (T := TX11) (N := 35) hx hb hts iX11 hown hK hP 0 rfl rfl 14 (by decide) k37 (fun _ h9 => h9) rfl dX11_year_299 ?_
    refine lv_iconst (v := 0) hx hb dX11_year_302 (by decide) ?_
    refine lv_iload hx hb dX11_year_303 (lv_at hl 0 rfl) ?_
    have q_75 : vp_in (0 : Int32) 17 := vp_in_iff.mpr (by decide)
    refine va_iast hx hb hK hP hD hS 10 0 rfl rfl q_75 dX11_year_305 (fun H locs hP hD hS => ?_)
    obtain ⟨ar_76, ear_76⟩ : ∃ z : Nat → Int32, z = upd ar_74 0 u_37 := ⟨_, rfl⟩
    have hP : va_P D vwCl (mdW Y cI m_thrown m_status m_isThere m_kinds m_newKinds m_print m_low m_high m_lot m_taped m_latest m_length m_cursor m_token m_from m_till m_fault m_faultAt m_traced r_lane r_many r_item r_market r_of r_newMarket r_newStart r_newOf r_newCoin (upd ar_74 0 u_37) r_kept r_tape u_11.2 r_seen r_seenOut r_trace ++ R) H := hP
    have hD : va_D A (mdW Y cI m_thrown m_status m_isThere m_kinds m_newKinds m_print m_low m_high m_lot m_taped m_latest m_length m_cursor m_token m_from m_till m_fault m_faultAt m_traced r_lane r_many r_item r_market r_of r_newMarket r_newStart r_newOf r_newCoin (upd ar_74 0 u_37) r_kept r_tape u_11.2 r_seen r_seenOut r_trace ++ R) := hD
    rw [← ear_76] at hP hD
    have hP : va_P D vwCl (mdW Y cI m_thrown m_status m_isThere m_kinds m_newKinds m_print m_low m_high m_lot m_taped m_latest m_length m_cursor m_token m_from m_till m_fault m_faultAt m_traced r_lane r_many r_item r_market r_of r_newMarket r_newStart r_newOf r_newCoin ar_76 r_kept r_tape u_11.2 r_seen r_seenOut r_trace ++ R) H := hP
    have hD : va_D A (mdW Y cI m_thrown m_status m_isThere m_kinds m_newKinds m_print m_low m_high m_lot m_taped m_latest m_length m_cursor m_token m_from m_till m_fault m_faultAt m_traced r_lane r_many r_item r_market r_of r_newMarket r_newStart r_newOf r_newCoin ar_76 r_kept r_tape u_11.2 r_seen r_seenOut r_trace ++ R) := hD
    refine lv_aload_n hx hb dX11_year_306 rfl (lv_at hl 2 rfl) ?_
    refine va_get (D := D) (ci := 9) (v := .ref (Y 14)) (C := RX11) (T := TX11) (N := 35) hx hb hts iX11 hown hK hP 0 rfl rfl 14 (by decide) k37 (fun _ h9 => h9) rfl dX11_year_307 ?_
    refine lv_iconst (v := 3) hx hb dX11_year_310 (by decide) ?_
    refine lv_iload_n hx hb dX11_year_311 rfl (lv_at hl 1 rfl) ?_
    have q_77 : vp_in (3 : Int32) 17 := vp_in_iff.mpr (by decide)
    refine va_iast hx hb hK hP hD hS 10 0 rfl rfl q_77 dX11_year_312 (fun H locs hP hD hS => ?_)
    obtain ⟨ar_78, ear_78⟩ : ∃ z : Nat → Int32, z = upd ar_76 3 u_12 := ⟨_, rfl⟩
    have hP : va_P D vwCl (mdW Y cI m_thrown m_status m_isThere m_kinds m_newKinds m_print m_low m_high m_lot m_taped m_latest m_length m_cursor m_token m_from m_till m_fault m_faultAt m_traced r_lane r_many r_item r_market r_of r_newMarket r_newStart r_newOf r_newCoin (upd ar_76 3 u_12) r_kept r_tape u_11.2 r_seen r_seenOut r_trace ++ R) H := hP
    have hD : va_D A (mdW Y cI m_thrown m_status m_isThere m_kinds m_newKinds m_print m_low m_high m_lot m_taped m_latest m_length m_cursor m_token m_from m_till m_fault m_faultAt m_traced r_lane r_many r_item r_market r_of r_newMarket r_newStart r_newOf r_newCoin (upd ar_76 3 u_12) r_kept r_tape u_11.2 r_seen r_seenOut r_trace ++ R) := hD
    rw [← ear_78] at hP hD
    have hP : va_P D vwCl (mdW Y cI m_thrown m_status m_isThere m_kinds m_newKinds m_print m_low m_high m_lot m_taped m_latest m_length m_cursor m_token m_from m_till m_fault m_faultAt m_traced r_lane r_many r_item r_market r_of r_newMarket r_newStart r_newOf r_newCoin ar_78 r_kept r_tape u_11.2 r_seen r_seenOut r_trace ++ R) H := hP
    have hD : va_D A (mdW Y cI m_thrown m_status m_isThere m_kinds m_newKinds m_print m_low m_high m_lot m_taped m_latest m_length m_cursor m_token m_from m_till m_fault m_faultAt m_traced r_lane r_many r_item r_market r_of r_newMarket r_newStart r_newOf r_newCoin ar_78 r_kept r_tape u_11.2 r_seen r_seenOut r_trace ++ R) := hD
    refine lv_aload_n hx hb dX11_year_313 rfl (lv_at hl 2 rfl) ?_
    refine va_get (D := D) (ci := 9) (v := .ref (Y 14)) (C := RX11) (T := TX11) (N := 35) hx hb hts iX11 hown hK hP 0 rfl rfl 14 (by decide) k37 (fun _ h9 => h9) rfl dX11_year_314 ?_
    refine lv_bipush (v := 6) hx hb dX11_year_317 (by decide) ?_
    refine lv_dup2_11 hx hb dX11_year_319 rfl rfl ?_
    have q_79 : vp_in (6 : Int32) 17 := vp_in_iff.mpr (by decide)
    refine va_iald hx hb hK hP 10 0 rfl rfl q_79 dX11_year_320 ?_
    refine W.eq (g2 := F0 m 321 ls [.int (ar_78 6), .int 6, .ref (Y 14)]) rfl ?_
    refine lv_iconst (v := 1) hx hb dX11_year_321 (by decide) ?_
    refine lv_iadd hx hb dX11_year_322 ?_
    have q_80 : vp_in (6 : Int32) 17 := vp_in_iff.mpr (by decide)
    refine va_iast hx hb hK hP hD hS 10 0 rfl rfl q_80 dX11_year_323 (fun H locs hP hD hS => ?_)
    obtain ⟨ar_81, ear_81⟩ : ∃ z : Nat → Int32, z = upd ar_78 6 ((ar_78 6) + 1) := ⟨_, rfl⟩
    have hP : va_P D vwCl (mdW Y cI m_thrown m_status m_isThere m_kinds m_newKinds m_print m_low m_high m_lot m_taped m_latest m_length m_cursor m_token m_from m_till m_fault m_faultAt m_traced r_lane r_many r_item r_market r_of r_newMarket r_newStart r_newOf r_newCoin (upd ar_78 6 ((ar_78 6) + 1)) r_kept r_tape u_11.2 r_seen r_seenOut r_trace ++ R) H := hP
    have hD : va_D A (mdW Y cI m_thrown m_status m_isThere m_kinds m_newKinds m_print m_low m_high m_lot m_taped m_latest m_length m_cursor m_token m_from m_till m_fault m_faultAt m_traced r_lane r_many r_item r_market r_of r_newMarket r_newStart r_newOf r_newCoin (upd ar_78 6 ((ar_78 6) + 1)) r_kept r_tape u_11.2 r_seen r_seenOut r_trace ++ R) := hD
    rw [← ear_81] at hP hD
    have hP : va_P D vwCl (mdW Y cI m_thrown m_status m_isThere m_kinds m_newKinds m_print m_low m_high m_lot m_taped m_latest m_length m_cursor m_token m_from m_till m_fault m_faultAt m_traced r_lane r_many r_item r_market r_of r_newMarket r_newStart r_newOf r_newCoin ar_81 r_kept r_tape u_11.2 r_seen r_seenOut r_trace ++ R) H := hP
    have hD : va_D A (mdW Y cI m_thrown m_status m_isThere m_kinds m_newKinds m_print m_low m_high m_lot m_taped m_latest m_length m_cursor m_token m_from m_till m_fault m_faultAt m_traced r_lane r_many r_item r_market r_of r_newMarket r_newStart r_newOf r_newCoin ar_81 r_kept r_tape u_11.2 r_seen r_seenOut r_trace ++ R) := hD
    rw [hQm]
    exact mx_vret (u0 := sX11_year m_kinds m_print m_low m_high m_lot r_market r_of r_state r_brings) (rv := (fun _ => none)) (w1 := (fun u => mdW Y cI m_thrown m_status m_isThere m_kinds m_newKinds m_print m_low m_high m_lot m_taped m_latest m_length m_cursor m_token m_from m_till m_fault m_faultAt m_traced r_lane r_many r_item r_market r_of r_newMarket r_newStart r_newOf r_newCoin u.1 r_kept r_tape u.2 r_seen r_seenOut r_trace ++ R)) (u := (ar_81, u_11.2)) hx hb hr hlocks hK hS (lt_eq eu_1 (lt_eq eu_11 (lt_eq eu_12 (lt_eq eu_13 (lt_eq ey_18 (lt_eq eu_37 (lt_eq ear_40 (lt_eq ear_43 (lt_eq eu_68 (lt_eq ear_71 (lt_eq ear_74 (lt_eq ear_76 (lt_eq ear_78 (lt_eq ear_81 rfl)))))))))))))) hP hD rfl dX11_year_324
  refine lv_if_le (tgt := 101) hx hb dX11_year_69 (by decide) (fun c_19 => ?_) (fun c_19 => ?_)
  · have d_19 := i_le rfl (show (0 : Int32).toInt = 0 from by decide) c_19
    refine lv_aload_n hx hb dX11_year_101 rfl (lv_at hl 4 rfl) ?_
    refine va_get (D := D) (ci := 9) (v := .int m_lot) (C := RX11) (T := TX11) (N := 35) hx hb hts iX11 hown hK hP 0 rfl rfl 19 (by decide) k194 (fun _ h9 => h9) rfl dX11_year_102 ?_
    refine lv_if_le (tgt := 146) hx hb dX11_year_105 (by decide) (fun c_20 => ?_) (fun c_20 => ?_)
    · have d_20 := i_le rfl (show (0 : Int32).toInt = 0 from by decide) c_20
      exact J_18 0 H locs ls (Eq.symm ((if_pos c_19).trans ((if_pos c_20).trans rfl))) hP hD hS (lv_sub hl [0, 2, 4] rfl)
    · have d_20 := i_len rfl (show (0 : Int32).toInt = 0 from by decide) c_20
      refine lv_iload_n hx hb dX11_year_108 rfl (lv_at hl 1 rfl) ?_
      refine lv_aload_n hx hb dX11_year_109 rfl (lv_at hl 4 rfl) ?_
      refine va_get (D := D) (ci := 9) (v := .int m_high) (C := RX11) (T := TX11) (N := 35) hx hb hts iX11 hown hK hP 0 rfl rfl 18 (by decide) k191 (fun _ h9 => h9) rfl dX11_year_110 ?_
      refine lv_icmp_le (tgt := 146) hx hb dX11_year_113 (by decide) (fun c_21 => ?_) (fun c_21 => ?_)
      · have d_21 := i_le rfl rfl c_21
        exact J_18 0 H locs ls (Eq.symm ((if_pos c_19).trans ((if_neg c_20).trans ((if_pos c_21).trans rfl)))) hP hD hS (lv_sub hl [0, 2, 4] rfl)
      · have d_21 := i_len rfl rfl c_21
        refine lv_aload_n hx hb dX11_year_116 rfl (lv_at hl 4 rfl) ?_
        refine va_get (D := D) (ci := 9) (v := .int m_lot) (C := RX11) (T := TX11) (N := 35) hx hb hts iX11 hown hK hP 0 rfl rfl 19 (by decide) k194 (fun _ h9 => h9) rfl dX11_year_117 ?_
        refine lv_aload_n hx hb dX11_year_120 rfl (lv_at hl 4 rfl) ?_
        refine va_get (D := D) (ci := 9) (v := .ref (Y 14)) (C := RX11) (T := TX11) (N := 35) hx hb hts iX11 hown hK hP 0 rfl rfl 14 (by decide) k37 (fun _ h9 => h9) rfl dX11_year_121 ?_
        refine lv_iconst (v := 4) hx hb dX11_year_124 (by decide) ?_
        have q_22 : vp_in (4 : Int32) 17 := vp_in_iff.mpr (by decide)
        refine va_iald hx hb hK hP 10 0 rfl rfl q_22 dX11_year_125 ?_
        refine W.eq (g2 := F0 m 126 ls [.int (r_state 4), .int m_lot]) rfl ?_
        have J_24 : ∀ (y_24 : Int32) (H : Heap) (locs : List Loc) (ls : Array Slot), y_24 = (if (r_state 4) ≤ m_lot then ((-(r_state 4))) else ((-m_lot))) → va_P D vwCl (mdW Y cI m_thrown m_status m_isThere m_kinds m_newKinds m_print m_low m_high m_lot m_taped m_latest m_length m_cursor m_token m_from m_till m_fault m_faultAt m_traced r_lane r_many r_item r_market r_of r_newMarket r_newStart r_newOf r_newCoin r_state r_kept r_tape u_11.2 r_seen r_seenOut r_trace ++ R) H → va_D A (mdW Y cI m_thrown m_status m_isThere m_kinds m_newKinds m_print m_low m_high m_lot m_taped m_latest m_length m_cursor m_token m_from m_till m_fault m_faultAt m_traced r_lane r_many r_item r_market r_of r_newMarket r_newStart r_newOf r_newCoin r_state r_kept r_tape u_11.2 r_seen r_seenOut r_trace ++ R) → va_S A s.heap H locs → lv_has ls 7 [(2, .int u_12), (0, .ref (Y 0))] → W p l e (rmX 6) s m ([.ref (Y 0)] : List Value).toArray below meth c H locs 0 0 Qm (F0 m 144 ls [.int y_24]) := by
          intro y_24 H locs ls ey_24 hP hD hS hl
          refine lv_istore (lv' := [(4, .int y_24), (2, .int u_12), (0, .ref (Y 0))]) hx hb dX11_year_144 hl (by decide) rfl (fun ls hl => ?_)
          exact J_18 y_24 H locs ls (Eq.symm ((if_pos c_19).trans ((if_neg c_20).trans ((if_neg c_21).trans (lt_eq ey_24 rfl))))) hP hD hS (lv_sub hl [0, 1, 2] rfl)
        refine lv_icmp_ge (tgt := 137) hx hb dX11_year_126 (by decide) (fun c_25 => ?_) (fun c_25 => ?_)
        · have d_25 := i_le rfl rfl c_25
          refine lv_aload_n hx hb dX11_year_137 rfl (lv_at hl 4 rfl) ?_
          refine va_get (D := D) (ci := 9) (v := .ref (Y 14)) (C := RX11) (T := TX11) (N := 35) hx hb hts iX11 hown hK hP 0 rfl rfl 14 (by decide) k37 (fun _ h9 => h9) rfl dX11_year_138 ?_
          refine lv_iconst (v := 4) hx hb dX11_year_141 (by decide) ?_
          have q_26 : vp_in (4 : Int32) 17 := vp_in_iff.mpr (by decide)
          refine va_iald hx hb hK hP 10 0 rfl rfl q_26 dX11_year_142 ?_
          refine W.eq (g2 := F0 m 143 ls [.int (r_state 4)]) rfl ?_
          refine lv_ineg hx hb dX11_year_143 ?_
          exact J_24 (-(r_state 4)) H locs ls (Eq.symm ((if_pos c_25).trans rfl)) hP hD hS (lv_sub hl [2, 4] rfl)
        · have d_25 := i_len rfl rfl c_25
          refine lv_aload_n hx hb dX11_year_129 rfl (lv_at hl 4 rfl) ?_
          refine va_get (D := D) (ci := 9) (v := .int m_lot) (C := RX11) (T := TX11) (N := 35) hx hb hts iX11 hown hK hP 0 rfl rfl 19 (by decide) k194 (fun _ h9 => h9) rfl dX11_year_130 ?_
          refine lv_ineg hx hb dX11_year_133 ?_
          refine lv_goto (tgt := 144) hx hb dX11_year_134 (by decide) ?_
          exact J_24 (-m_lot) H locs ls (Eq.symm ((if_neg c_25).trans rfl)) hP hD hS (lv_sub hl [2, 4] rfl)
  · have d_19 := i_len rfl (show (0 : Int32).toInt = 0 from by decide) c_19
    refine lv_iload_n hx hb dX11_year_72 rfl (lv_at hl 1 rfl) ?_
    refine lv_aload_n hx hb dX11_year_73 rfl (lv_at hl 4 rfl) ?_
    refine va_get (D := D) (ci := 9) (v := .int m_low) (C := RX11) (T := TX11) (N := 35) hx hb hts iX11 hown hK hP 0 rfl rfl 17 (by decide) k188 (fun _ h9 => h9) rfl dX11_year_74 ?_
    refine lv_icmp_ge (tgt := 101) hx hb dX11_year_77 (by decide) (fun c_27 => ?_) (fun c_27 => ?_)
    · have d_27 := i_le rfl rfl c_27
      refine lv_aload_n hx hb dX11_year_101 rfl (lv_at hl 4 rfl) ?_
      refine va_get (D := D) (ci := 9) (v := .int m_lot) (C := RX11) (T := TX11) (N := 35) hx hb hts iX11 hown hK hP 0 rfl rfl 19 (by decide) k194 (fun _ h9 => h9) rfl dX11_year_102 ?_
      refine lv_if_le (tgt := 146) hx hb dX11_year_105 (by decide) (fun c_28 => ?_) (fun c_28 => ?_)
      · have d_28 := i_le rfl (show (0 : Int32).toInt = 0 from by decide) c_28
        exact J_18 0 H locs ls (Eq.symm ((if_neg c_19).trans ((if_pos c_27).trans ((if_pos c_28).trans rfl)))) hP hD hS (lv_sub hl [0, 2, 4] rfl)
      · have d_28 := i_len rfl (show (0 : Int32).toInt = 0 from by decide) c_28
        refine lv_iload_n hx hb dX11_year_108 rfl (lv_at hl 1 rfl) ?_
        refine lv_aload_n hx hb dX11_year_109 rfl (lv_at hl 4 rfl) ?_
        refine va_get (D := D) (ci := 9) (v := .int m_high) (C := RX11) (T := TX11) (N := 35) hx hb hts iX11 hown hK hP 0 rfl rfl 18 (by decide) k191 (fun _ h9 => h9) rfl dX11_year_110 ?_
        refine lv_icmp_le (tgt := 146) hx hb dX11_year_113 (by decide) (fun c_29 => ?_) (fun c_29 => ?_)
        · have d_29 := i_le rfl rfl c_29
          exact J_18 0 H locs ls (Eq.symm ((if_neg c_19).trans ((if_pos c_27).trans ((if_neg c_28).trans ((if_pos c_29).trans rfl))))) hP hD hS (lv_sub hl [0, 2, 4] rfl)
        · have d_29 := i_len rfl rfl c_29
          refine lv_aload_n hx hb dX11_year_116 rfl (lv_at hl 4 rfl) ?_
          refine va_get (D := D) (ci := 9) (v := .int m_lot) (C := RX11) (T := TX11) (N := 35) hx hb hts iX11 hown hK hP 0 rfl rfl 19 (by decide) k194 (fun _ h9 => h9) rfl dX11_year_117 ?_
          refine lv_aload_n hx hb dX11_year_120 rfl (lv_at hl 4 rfl) ?_
          refine va_get (D := D) (ci := 9) (v := .ref (Y 14)) (C := RX11) (T := TX11) (N := 35) hx hb hts iX11 hown hK hP 0 rfl rfl 14 (by decide) k37 (fun _ h9 => h9) rfl dX11_year_121 ?_
          refine lv_iconst (v := 4) hx hb dX11_year_124 (by decide) ?_
          have q_30 : vp_in (4 : Int32) 17 := vp_in_iff.mpr (by decide)
          refine va_iald hx hb hK hP 10 0 rfl rfl q_30 dX11_year_125 ?_
          refine W.eq (g2 := F0 m 126 ls [.int (r_state 4), .int m_lot]) rfl ?_
          have J_32 : ∀ (y_32 : Int32) (H : Heap) (locs : List Loc) (ls : Array Slot), y_32 = (if (r_state 4) ≤ m_lot then ((-(r_state 4))) else ((-m_lot))) → va_P D vwCl (mdW Y cI m_thrown m_status m_isThere m_kinds m_newKinds m_print m_low m_high m_lot m_taped m_latest m_length m_cursor m_token m_from m_till m_fault m_faultAt m_traced r_lane r_many r_item r_market r_of r_newMarket r_newStart r_newOf r_newCoin r_state r_kept r_tape u_11.2 r_seen r_seenOut r_trace ++ R) H → va_D A (mdW Y cI m_thrown m_status m_isThere m_kinds m_newKinds m_print m_low m_high m_lot m_taped m_latest m_length m_cursor m_token m_from m_till m_fault m_faultAt m_traced r_lane r_many r_item r_market r_of r_newMarket r_newStart r_newOf r_newCoin r_state r_kept r_tape u_11.2 r_seen r_seenOut r_trace ++ R) → va_S A s.heap H locs → lv_has ls 7 [(2, .int u_12), (0, .ref (Y 0))] → W p l e (rmX 6) s m ([.ref (Y 0)] : List Value).toArray below meth c H locs 0 0 Qm (F0 m 144 ls [.int y_32]) := by
            intro y_32 H locs ls ey_32 hP hD hS hl
            refine lv_istore (lv' := [(4, .int y_32), (2, .int u_12), (0, .ref (Y 0))]) hx hb dX11_year_144 hl (by decide) rfl (fun ls hl => ?_)
            exact J_18 y_32 H locs ls (Eq.symm ((if_neg c_19).trans ((if_pos c_27).trans ((if_neg c_28).trans ((if_neg c_29).trans (lt_eq ey_32 rfl)))))) hP hD hS (lv_sub hl [0, 1, 2] rfl)
          refine lv_icmp_ge (tgt := 137) hx hb dX11_year_126 (by decide) (fun c_33 => ?_) (fun c_33 => ?_)
          · have d_33 := i_le rfl rfl c_33
            refine lv_aload_n hx hb dX11_year_137 rfl (lv_at hl 4 rfl) ?_
            refine va_get (D := D) (ci := 9) (v := .ref (Y 14)) (C := RX11) (T := TX11) (N := 35) hx hb hts iX11 hown hK hP 0 rfl rfl 14 (by decide) k37 (fun _ h9 => h9) rfl dX11_year_138 ?_
            refine lv_iconst (v := 4) hx hb dX11_year_141 (by decide) ?_
            have q_34 : vp_in (4 : Int32) 17 := vp_in_iff.mpr (by decide)
            refine va_iald hx hb hK hP 10 0 rfl rfl q_34 dX11_year_142 ?_
            refine W.eq (g2 := F0 m 143 ls [.int (r_state 4)]) rfl ?_
            refine lv_ineg hx hb dX11_year_143 ?_
            exact J_32 (-(r_state 4)) H locs ls (Eq.symm ((if_pos c_33).trans rfl)) hP hD hS (lv_sub hl [2, 4] rfl)
          · have d_33 := i_len rfl rfl c_33
            refine lv_aload_n hx hb dX11_year_129 rfl (lv_at hl 4 rfl) ?_
            refine va_get (D := D) (ci := 9) (v := .int m_lot) (C := RX11) (T := TX11) (N := 35) hx hb hts iX11 hown hK hP 0 rfl rfl 19 (by decide) k194 (fun _ h9 => h9) rfl dX11_year_130 ?_
            refine lv_ineg hx hb dX11_year_133 ?_
            refine lv_goto (tgt := 144) hx hb dX11_year_134 (by decide) ?_
            exact J_32 (-m_lot) H locs ls (Eq.symm ((if_neg c_33).trans rfl)) hP hD hS (lv_sub hl [2, 4] rfl)
    · have d_27 := i_len rfl rfl c_27
      refine lv_aload_n hx hb dX11_year_80 rfl (lv_at hl 4 rfl) ?_
      refine va_get (D := D) (ci := 9) (v := .int m_lot) (C := RX11) (T := TX11) (N := 35) hx hb hts iX11 hown hK hP 0 rfl rfl 19 (by decide) k194 (fun _ h9 => h9) rfl dX11_year_81 ?_
      refine lv_iload_n hx hb dX11_year_84 rfl (lv_at hl 2 rfl) ?_
      have J_35 : ∀ (y_35 : Int32) (H : Heap) (locs : List Loc) (ls : Array Slot), y_35 = (if u_12 ≤ m_lot then (u_12) else (m_lot)) → va_P D vwCl (mdW Y cI m_thrown m_status m_isThere m_kinds m_newKinds m_print m_low m_high m_lot m_taped m_latest m_length m_cursor m_token m_from m_till m_fault m_faultAt m_traced r_lane r_many r_item r_market r_of r_newMarket r_newStart r_newOf r_newCoin r_state r_kept r_tape u_11.2 r_seen r_seenOut r_trace ++ R) H → va_D A (mdW Y cI m_thrown m_status m_isThere m_kinds m_newKinds m_print m_low m_high m_lot m_taped m_latest m_length m_cursor m_token m_from m_till m_fault m_faultAt m_traced r_lane r_many r_item r_market r_of r_newMarket r_newStart r_newOf r_newCoin r_state r_kept r_tape u_11.2 r_seen r_seenOut r_trace ++ R) → va_S A s.heap H locs → lv_has ls 7 [(2, .int u_12), (0, .ref (Y 0))] → W p l e (rmX 6) s m ([.ref (Y 0)] : List Value).toArray below meth c H locs 0 0 Qm (F0 m 96 ls [.int y_35]) := by
        intro y_35 H locs ls ey_35 hP hD hS hl
        refine lv_istore (lv' := [(4, .int y_35), (2, .int u_12), (0, .ref (Y 0))]) hx hb dX11_year_96 hl (by decide) rfl (fun ls hl => ?_)
        refine lv_goto (tgt := 146) hx hb dX11_year_98 (by decide) ?_
        exact J_18 y_35 H locs ls (Eq.symm ((if_neg c_19).trans ((if_neg c_27).trans (lt_eq ey_35 rfl)))) hP hD hS (lv_sub hl [0, 1, 2] rfl)
      refine lv_icmp_ge (tgt := 95) hx hb dX11_year_85 (by decide) (fun c_36 => ?_) (fun c_36 => ?_)
      · have d_36 := i_le rfl rfl c_36
        refine lv_iload_n hx hb dX11_year_95 rfl (lv_at hl 2 rfl) ?_
        exact J_35 u_12 H locs ls (Eq.symm ((if_pos c_36).trans rfl)) hP hD hS (lv_sub hl [2, 4] rfl)
      · have d_36 := i_len rfl rfl c_36
        refine lv_aload_n hx hb dX11_year_88 rfl (lv_at hl 4 rfl) ?_
        refine va_get (D := D) (ci := 9) (v := .int m_lot) (C := RX11) (T := TX11) (N := 35) hx hb hts iX11 hown hK hP 0 rfl rfl 19 (by decide) k194 (fun _ h9 => h9) rfl dX11_year_89 ?_
        refine lv_goto (tgt := 96) hx hb dX11_year_92 (by decide) ?_
        exact J_35 m_lot H locs ls (Eq.symm ((if_neg c_36).trans rfl)) hP hD hS (lv_sub hl [2, 4] rfl)

def lX11_keep_2 (r_state : Nat → Int32) : Nat → Int32 → (Nat → Int32) → Int32 × (Nat → Int32)
  | 0, x1_2, r_kept_2 => (x1_2, r_kept_2)
  | n + 1, x1_2, r_kept_2 => if 17 ≤ x1_2 then ((x1_2, r_kept_2)) else (lt (upd r_kept_2 x1_2.toNatClampNeg (r_state x1_2.toNatClampNeg)) (fun ar_4 : Nat → Int32 => lt (x1_2 + 1) (fun x_5 : Int32 => lX11_keep_2 r_state n x_5 ar_4)))

def sX11_keep (r_state : Nat → Int32) (r_kept : Nat → Int32) : (Nat → Int32) := lt (lX11_keep_2 r_state 18 0 r_kept) (fun u_6 : Int32 × (Nat → Int32) => (u_6.2))
set_option maxHeartbeats 4000000 in
set_option maxRecDepth 100000 in
theorem mtX11_keep (l : Launch) (D : va_G) (cI cB cK cS : ClassId) (Y : Nat → Nat) (R : va_W) (m_thrown : Int32) (m_status : Int32) (m_isThere : Int32) (m_kinds : Int32) (m_newKinds : Int32) (m_print : Int32) (m_low : Int32) (m_high : Int32) (m_lot : Int32) (m_taped : Int32) (m_latest : Int32) (m_length : Int32) (m_cursor : Int32) (m_token : Int32) (m_from : Int32) (m_till : Int32) (m_fault : Int32) (m_faultAt : Int32) (m_traced : Int32) (r_lane : Nat → Int32) (r_many : Nat → Int32) (r_item : Nat → Int32) (r_market : Nat → Int32) (r_of : Nat → Int32) (r_newMarket : Nat → Int32) (r_newStart : Nat → Int32) (r_newOf : Nat → Int32) (r_newCoin : Nat → Int32) (r_state : Nat → Int32) (r_kept : Nat → Int32) (r_tape : Nat → Int32) (r_brings : Nat → Int32) (r_seen : Nat → Int32) (r_seenOut : Nat → Int32) (r_trace : Nat → Int32) : MX l yX11_keep wsX11_keep (rmX 1) D (tyX cI cB cK cS) pF0 (mdW Y cI m_thrown m_status m_isThere m_kinds m_newKinds m_print m_low m_high m_lot m_taped m_latest m_length m_cursor m_token m_from m_till m_fault m_faultAt m_traced r_lane r_many r_item r_market r_of r_newMarket r_newStart r_newOf r_newCoin r_state r_kept r_tape r_brings r_seen r_seenOut r_trace ++ R) [.ref (Y 0)] (sX11_keep r_state r_kept) (fun _ => none) (fun u => mdW Y cI m_thrown m_status m_isThere m_kinds m_newKinds m_print m_low m_high m_lot m_taped m_latest m_length m_cursor m_token m_from m_till m_fault m_faultAt m_traced r_lane r_many r_item r_market r_of r_newMarket r_newStart r_newOf r_newCoin r_state u r_tape r_brings r_seen r_seenOut r_trace ++ R) := by
  refine mx_intro (cc := cX11_keep) (maxL := 2) (ret := none) (by decide) rfl (Nat.le_of_ble_eq_true rfl) ?_
  intro p e s m below meth c A ls H locs Qm hQm hx hb hr hml hts hown hlocks hA hS hP hK hD hF hl
  have hown : s.vm.findClass RX11 = some m.cls := hown
  have hl : lv_has ls 2 [(0, .ref (Y 0))] := hl
  have k40 := hts (.fieldLink RX11 40 "PigRoundsModel" "kept" "[I") (by decide +kernel)
  have k37 := hts (.fieldLink RX11 37 "PigRoundsModel" "state" "[I") (by decide +kernel)
  have iX11 : ∀ w ∈ u_ws RX11 TX11 35, w ∈ wsX11_keep := by decide +kernel
  refine lv_iconst (v := 0) hx hb dX11_keep_0 (by decide) ?_
  refine lv_istore_n (lv' := [(1, .int 0), (0, .ref (Y 0))]) hx hb dX11_keep_1 rfl hl (by decide) rfl (fun ls hl => ?_)
  have L_2 : ∀ (n : Nat) (x1_2 : Int32) (r_kept_2 : Nat → Int32) (H : Heap) (locs : List Loc) (ls : Array Slot), 0 ≤ x1_2.toInt → x1_2.toInt ≤ 17 → (17 : Int) < x1_2.toInt + ((n : Nat) : Int) → va_P D vwCl (mdW Y cI m_thrown m_status m_isThere m_kinds m_newKinds m_print m_low m_high m_lot m_taped m_latest m_length m_cursor m_token m_from m_till m_fault m_faultAt m_traced r_lane r_many r_item r_market r_of r_newMarket r_newStart r_newOf r_newCoin r_state r_kept_2 r_tape r_brings r_seen r_seenOut r_trace ++ R) H → va_D A (mdW Y cI m_thrown m_status m_isThere m_kinds m_newKinds m_print m_low m_high m_lot m_taped m_latest m_length m_cursor m_token m_from m_till m_fault m_faultAt m_traced r_lane r_many r_item r_market r_of r_newMarket r_newStart r_newOf r_newCoin r_state r_kept_2 r_tape r_brings r_seen r_seenOut r_trace ++ R) → va_S A s.heap H locs → lv_has ls 2 [(1, .int x1_2), (0, .ref (Y 0))] → (∀ (u : Int32 × (Nat → Int32)) (H : Heap) (locs : List Loc) (ls : Array Slot), u = lX11_keep_2 r_state n x1_2 r_kept_2 → va_P D vwCl (mdW Y cI m_thrown m_status m_isThere m_kinds m_newKinds m_print m_low m_high m_lot m_taped m_latest m_length m_cursor m_token m_from m_till m_fault m_faultAt m_traced r_lane r_many r_item r_market r_of r_newMarket r_newStart r_newOf r_newCoin r_state u.2 r_tape r_brings r_seen r_seenOut r_trace ++ R) H → va_D A (mdW Y cI m_thrown m_status m_isThere m_kinds m_newKinds m_print m_low m_high m_lot m_taped m_latest m_length m_cursor m_token m_from m_till m_fault m_faultAt m_traced r_lane r_many r_item r_market r_of r_newMarket r_newStart r_newOf r_newCoin r_state u.2 r_tape r_brings r_seen r_seenOut r_trace ++ R) → va_S A s.heap H locs → lv_has ls 2 [] → W p l e (rmX 1) s m ([.ref (Y 0)] : List Value).toArray below meth c H locs 0 0 Qm (F0 m 26 ls [])) → W p l e (rmX 1) s m ([.ref (Y 0)] : List Value).toArray below meth c H locs 0 0 Qm (F0 m 2 ls []) := by
    intro n
    induction n with
    | zero =>
      intro x1_2 r_kept_2 H locs ls iv_2_0 iv_2_1 iv_2_2 hP hD hS hl kont_2
      exfalso; omega
    | succ n ih_2 =>
      intro x1_2 r_kept_2 H locs ls iv_2_0 iv_2_1 iv_2_2 hP hD hS hl kont_2
      refine lv_iload_n hx hb dX11_keep_2 rfl (lv_at hl 0 rfl) ?_
      refine lv_bipush (v := 17) hx hb dX11_keep_3 (by decide) ?_
      refine lv_icmp_ge (tgt := 26) hx hb dX11_keep_5 (by decide) (fun c_1 => ?_) (fun c_1 => ?_)
      · have d_1 := i_le (show (17 : Int32).toInt = 17 from by decide) rfl c_1
        exact kont_2 (x1_2, r_kept_2) H locs ls (show lX11_keep_2 r_state (n + 1) x1_2 r_kept_2 = (x1_2, r_kept_2) from ((if_pos c_1).trans rfl)).symm  hP hD hS (lv_sub hl [] rfl)
      · have d_1 := i_len (show (17 : Int32).toInt = 17 from by decide) rfl c_1
        refine lv_aload_n hx hb dX11_keep_8 rfl (lv_at hl 1 rfl) ?_
        refine va_get (D := D) (ci := 9) (v := .ref (Y 15)) (C := RX11) (T := TX11) (N := 35) hx hb hts iX11 hown hK hP 0 rfl rfl 15 (by decide) k40 (fun _ h9 => h9) rfl dX11_keep_9 ?_
        refine lv_iload_n hx hb dX11_keep_12 rfl (lv_at hl 0 rfl) ?_
        refine lv_aload_n hx hb dX11_keep_13 rfl (lv_at hl 1 rfl) ?_
        refine va_get (D := D) (ci := 9) (v := .ref (Y 14)) (C := RX11) (T := TX11) (N := 35) hx hb hts iX11 hown hK hP 0 rfl rfl 14 (by decide) k37 (fun _ h9 => h9) rfl dX11_keep_14 ?_
        refine lv_iload_n hx hb dX11_keep_17 rfl (lv_at hl 0 rfl) ?_
        have q_2 : vp_in x1_2 17 := vp_in_iff.mpr ⟨by omega, by omega⟩
        refine va_iald hx hb hK hP 10 0 rfl rfl q_2 dX11_keep_18 ?_
        have q_3 : vp_in x1_2 17 := vp_in_iff.mpr ⟨by omega, by omega⟩
        refine va_iast hx hb hK hP hD hS 11 0 rfl rfl q_3 dX11_keep_19 (fun H locs hP hD hS => ?_)
        obtain ⟨ar_4, ear_4⟩ : ∃ z : Nat → Int32, z = upd r_kept_2 x1_2.toNatClampNeg (r_state x1_2.toNatClampNeg) := ⟨_, rfl⟩
        have hP : va_P D vwCl (mdW Y cI m_thrown m_status m_isThere m_kinds m_newKinds m_print m_low m_high m_lot m_taped m_latest m_length m_cursor m_token m_from m_till m_fault m_faultAt m_traced r_lane r_many r_item r_market r_of r_newMarket r_newStart r_newOf r_newCoin r_state (upd r_kept_2 x1_2.toNatClampNeg (r_state x1_2.toNatClampNeg)) r_tape r_brings r_seen r_seenOut r_trace ++ R) H := hP
        have hD : va_D A (mdW Y cI m_thrown m_status m_isThere m_kinds m_newKinds m_print m_low m_high m_lot m_taped m_latest m_length m_cursor m_token m_from m_till m_fault m_faultAt m_traced r_lane r_many r_item r_market r_of r_newMarket r_newStart r_newOf r_newCoin r_state (upd r_kept_2 x1_2.toNatClampNeg (r_state x1_2.toNatClampNeg)) r_tape r_brings r_seen r_seenOut r_trace ++ R) := hD
        rw [← ear_4] at hP hD
        have hP : va_P D vwCl (mdW Y cI m_thrown m_status m_isThere m_kinds m_newKinds m_print m_low m_high m_lot m_taped m_latest m_length m_cursor m_token m_from m_till m_fault m_faultAt m_traced r_lane r_many r_item r_market r_of r_newMarket r_newStart r_newOf r_newCoin r_state ar_4 r_tape r_brings r_seen r_seenOut r_trace ++ R) H := hP
        have hD : va_D A (mdW Y cI m_thrown m_status m_isThere m_kinds m_newKinds m_print m_low m_high m_lot m_taped m_latest m_length m_cursor m_token m_from m_till m_fault m_faultAt m_traced r_lane r_many r_item r_market r_of r_newMarket r_newStart r_newOf r_newCoin r_state ar_4 r_tape r_brings r_seen r_seenOut r_trace ++ R) := hD
        obtain ⟨x_5, ex_5⟩ : ∃ z : Int32, z = x1_2 + 1 := ⟨_, rfl⟩
        refine lv_iinc (v := x_5) (lv' := [(1, .int x_5), (0, .ref (Y 0))]) hx hb dX11_keep_20 hl (k := 0) rfl (by rw [ex_5]; rfl) (by decide) rfl (fun ls hl => ?_)
        refine lv_goto (tgt := 2) hx hb dX11_keep_23 (by decide) ?_
        have tx_5 : x_5.toInt = x1_2.toInt + 1 := i_inc ex_5 (by decide) (by omega) (by omega)
        refine ih_2 x_5 ar_4 H locs ls (by omega) (by omega) (by omega) hP hD hS (lv_sub hl [0, 1] rfl) (fun u H locs ls eu  hP hD hS hl => ?_)
        exact kont_2 u H locs ls (eu.trans (show lX11_keep_2 r_state (n + 1) x1_2 r_kept_2 = lX11_keep_2 r_state n x_5 ar_4 from ((if_neg c_1).trans (lt_eq ear_4 (lt_eq ex_5 rfl)))).symm)  hP hD hS hl
  refine L_2 18 0 r_kept H locs ls (by decide) (by decide) (by decide) hP hD hS (lv_sub hl [0, 1] rfl) (fun u_6 H locs ls eu_6  hP hD hS hl => ?_)
  have hP : va_P D vwCl (mdW Y cI m_thrown m_status m_isThere m_kinds m_newKinds m_print m_low m_high m_lot m_taped m_latest m_length m_cursor m_token m_from m_till m_fault m_faultAt m_traced r_lane r_many r_item r_market r_of r_newMarket r_newStart r_newOf r_newCoin r_state u_6.2 r_tape r_brings r_seen r_seenOut r_trace ++ R) H := hP
  have hD : va_D A (mdW Y cI m_thrown m_status m_isThere m_kinds m_newKinds m_print m_low m_high m_lot m_taped m_latest m_length m_cursor m_token m_from m_till m_fault m_faultAt m_traced r_lane r_many r_item r_market r_of r_newMarket r_newStart r_newOf r_newCoin r_state u_6.2 r_tape r_brings r_seen r_seenOut r_trace ++ R) := hD
  rw [hQm]
  exact mx_vret (u0 := sX11_keep r_state r_kept) (rv := (fun _ => none)) (w1 := (fun u => mdW Y cI m_thrown m_status m_isThere m_kinds m_newKinds m_print m_low m_high m_lot m_taped m_latest m_length m_cursor m_token m_from m_till m_fault m_faultAt m_traced r_lane r_many r_item r_market r_of r_newMarket r_newStart r_newOf r_newCoin r_state u r_tape r_brings r_seen r_seenOut r_trace ++ R)) (u := (u_6.2)) hx hb hr hlocks hK hS (lt_eq eu_6 rfl) hP hD rfl dX11_keep_26

def lX11_comeBack_2 (r_kept : Nat → Int32) : Nat → Int32 → (Nat → Int32) → Int32 × (Nat → Int32)
  | 0, x1_2, r_state_2 => (x1_2, r_state_2)
  | n + 1, x1_2, r_state_2 => if 17 ≤ x1_2 then ((x1_2, r_state_2)) else (lt (upd r_state_2 x1_2.toNatClampNeg (r_kept x1_2.toNatClampNeg)) (fun ar_4 : Nat → Int32 => lt (x1_2 + 1) (fun x_5 : Int32 => lX11_comeBack_2 r_kept n x_5 ar_4)))

def sX11_comeBack (r_state : Nat → Int32) (r_kept : Nat → Int32) : (Nat → Int32) := lt (lX11_comeBack_2 r_kept 18 0 r_state) (fun u_6 : Int32 × (Nat → Int32) => (u_6.2))
set_option maxHeartbeats 4000000 in
set_option maxRecDepth 100000 in
theorem mtX11_comeBack (l : Launch) (D : va_G) (cI cB cK cS : ClassId) (Y : Nat → Nat) (R : va_W) (m_thrown : Int32) (m_status : Int32) (m_isThere : Int32) (m_kinds : Int32) (m_newKinds : Int32) (m_print : Int32) (m_low : Int32) (m_high : Int32) (m_lot : Int32) (m_taped : Int32) (m_latest : Int32) (m_length : Int32) (m_cursor : Int32) (m_token : Int32) (m_from : Int32) (m_till : Int32) (m_fault : Int32) (m_faultAt : Int32) (m_traced : Int32) (r_lane : Nat → Int32) (r_many : Nat → Int32) (r_item : Nat → Int32) (r_market : Nat → Int32) (r_of : Nat → Int32) (r_newMarket : Nat → Int32) (r_newStart : Nat → Int32) (r_newOf : Nat → Int32) (r_newCoin : Nat → Int32) (r_state : Nat → Int32) (r_kept : Nat → Int32) (r_tape : Nat → Int32) (r_brings : Nat → Int32) (r_seen : Nat → Int32) (r_seenOut : Nat → Int32) (r_trace : Nat → Int32) : MX l yX11_comeBack wsX11_comeBack (rmX 1) D (tyX cI cB cK cS) pF0 (mdW Y cI m_thrown m_status m_isThere m_kinds m_newKinds m_print m_low m_high m_lot m_taped m_latest m_length m_cursor m_token m_from m_till m_fault m_faultAt m_traced r_lane r_many r_item r_market r_of r_newMarket r_newStart r_newOf r_newCoin r_state r_kept r_tape r_brings r_seen r_seenOut r_trace ++ R) [.ref (Y 0)] (sX11_comeBack r_state r_kept) (fun _ => none) (fun u => mdW Y cI m_thrown m_status m_isThere m_kinds m_newKinds m_print m_low m_high m_lot m_taped m_latest m_length m_cursor m_token m_from m_till m_fault m_faultAt m_traced r_lane r_many r_item r_market r_of r_newMarket r_newStart r_newOf r_newCoin u r_kept r_tape r_brings r_seen r_seenOut r_trace ++ R) := by
  refine mx_intro (cc := cX11_comeBack) (maxL := 2) (ret := none) (by decide) rfl (Nat.le_of_ble_eq_true rfl) ?_
  intro p e s m below meth c A ls H locs Qm hQm hx hb hr hml hts hown hlocks hA hS hP hK hD hF hl
  have hown : s.vm.findClass RX11 = some m.cls := hown
  have hl : lv_has ls 2 [(0, .ref (Y 0))] := hl
  have k37 := hts (.fieldLink RX11 37 "PigRoundsModel" "state" "[I") (by decide +kernel)
  have k40 := hts (.fieldLink RX11 40 "PigRoundsModel" "kept" "[I") (by decide +kernel)
  have iX11 : ∀ w ∈ u_ws RX11 TX11 35, w ∈ wsX11_comeBack := by decide +kernel
  refine lv_iconst (v := 0) hx hb dX11_comeBack_0 (by decide) ?_
  refine lv_istore_n (lv' := [(1, .int 0), (0, .ref (Y 0))]) hx hb dX11_comeBack_1 rfl hl (by decide) rfl (fun ls hl => ?_)
  have L_2 : ∀ (n : Nat) (x1_2 : Int32) (r_state_2 : Nat → Int32) (H : Heap) (locs : List Loc) (ls : Array Slot), 0 ≤ x1_2.toInt → x1_2.toInt ≤ 17 → (17 : Int) < x1_2.toInt + ((n : Nat) : Int) → va_P D vwCl (mdW Y cI m_thrown m_status m_isThere m_kinds m_newKinds m_print m_low m_high m_lot m_taped m_latest m_length m_cursor m_token m_from m_till m_fault m_faultAt m_traced r_lane r_many r_item r_market r_of r_newMarket r_newStart r_newOf r_newCoin r_state_2 r_kept r_tape r_brings r_seen r_seenOut r_trace ++ R) H → va_D A (mdW Y cI m_thrown m_status m_isThere m_kinds m_newKinds m_print m_low m_high m_lot m_taped m_latest m_length m_cursor m_token m_from m_till m_fault m_faultAt m_traced r_lane r_many r_item r_market r_of r_newMarket r_newStart r_newOf r_newCoin r_state_2 r_kept r_tape r_brings r_seen r_seenOut r_trace ++ R) → va_S A s.heap H locs → lv_has ls 2 [(1, .int x1_2), (0, .ref (Y 0))] → (∀ (u : Int32 × (Nat → Int32)) (H : Heap) (locs : List Loc) (ls : Array Slot), u = lX11_comeBack_2 r_kept n x1_2 r_state_2 → va_P D vwCl (mdW Y cI m_thrown m_status m_isThere m_kinds m_newKinds m_print m_low m_high m_lot m_taped m_latest m_length m_cursor m_token m_from m_till m_fault m_faultAt m_traced r_lane r_many r_item r_market r_of r_newMarket r_newStart r_newOf r_newCoin u.2 r_kept r_tape r_brings r_seen r_seenOut r_trace ++ R) H → va_D A (mdW Y cI m_thrown m_status m_isThere m_kinds m_newKinds m_print m_low m_high m_lot m_taped m_latest m_length m_cursor m_token m_from m_till m_fault m_faultAt m_traced r_lane r_many r_item r_market r_of r_newMarket r_newStart r_newOf r_newCoin u.2 r_kept r_tape r_brings r_seen r_seenOut r_trace ++ R) → va_S A s.heap H locs → lv_has ls 2 [] → W p l e (rmX 1) s m ([.ref (Y 0)] : List Value).toArray below meth c H locs 0 0 Qm (F0 m 26 ls [])) → W p l e (rmX 1) s m ([.ref (Y 0)] : List Value).toArray below meth c H locs 0 0 Qm (F0 m 2 ls []) := by
    intro n
    induction n with
    | zero =>
      intro x1_2 r_state_2 H locs ls iv_2_0 iv_2_1 iv_2_2 hP hD hS hl kont_2
      exfalso; omega
    | succ n ih_2 =>
      intro x1_2 r_state_2 H locs ls iv_2_0 iv_2_1 iv_2_2 hP hD hS hl kont_2
      refine lv_iload_n hx hb dX11_comeBack_2 rfl (lv_at hl 0 rfl) ?_
      refine lv_bipush (v := 17) hx hb dX11_comeBack_3 (by decide) ?_
      refine lv_icmp_ge (tgt := 26) hx hb dX11_comeBack_5 (by decide) (fun c_1 => ?_) (fun c_1 => ?_)
      · have d_1 := i_le (show (17 : Int32).toInt = 17 from by decide) rfl c_1
        exact kont_2 (x1_2, r_state_2) H locs ls (show lX11_comeBack_2 r_kept (n + 1) x1_2 r_state_2 = (x1_2, r_state_2) from ((if_pos c_1).trans rfl)).symm  hP hD hS (lv_sub hl [] rfl)
      · have d_1 := i_len (show (17 : Int32).toInt = 17 from by decide) rfl c_1
        refine lv_aload_n hx hb dX11_comeBack_8 rfl (lv_at hl 1 rfl) ?_
        refine va_get (D := D) (ci := 9) (v := .ref (Y 14)) (C := RX11) (T := TX11) (N := 35) hx hb hts iX11 hown hK hP 0 rfl rfl 14 (by decide) k37 (fun _ h9 => h9) rfl dX11_comeBack_9 ?_
        refine lv_iload_n hx hb dX11_comeBack_12 rfl (lv_at hl 0 rfl) ?_
        refine lv_aload_n hx hb dX11_comeBack_13 rfl (lv_at hl 1 rfl) ?_
        refine va_get (D := D) (ci := 9) (v := .ref (Y 15)) (C := RX11) (T := TX11) (N := 35) hx hb hts iX11 hown hK hP 0 rfl rfl 15 (by decide) k40 (fun _ h9 => h9) rfl dX11_comeBack_14 ?_
        refine lv_iload_n hx hb dX11_comeBack_17 rfl (lv_at hl 0 rfl) ?_
        have q_2 : vp_in x1_2 17 := vp_in_iff.mpr ⟨by omega, by omega⟩
        refine va_iald hx hb hK hP 11 0 rfl rfl q_2 dX11_comeBack_18 ?_
        have q_3 : vp_in x1_2 17 := vp_in_iff.mpr ⟨by omega, by omega⟩
        refine va_iast hx hb hK hP hD hS 10 0 rfl rfl q_3 dX11_comeBack_19 (fun H locs hP hD hS => ?_)
        obtain ⟨ar_4, ear_4⟩ : ∃ z : Nat → Int32, z = upd r_state_2 x1_2.toNatClampNeg (r_kept x1_2.toNatClampNeg) := ⟨_, rfl⟩
        have hP : va_P D vwCl (mdW Y cI m_thrown m_status m_isThere m_kinds m_newKinds m_print m_low m_high m_lot m_taped m_latest m_length m_cursor m_token m_from m_till m_fault m_faultAt m_traced r_lane r_many r_item r_market r_of r_newMarket r_newStart r_newOf r_newCoin (upd r_state_2 x1_2.toNatClampNeg (r_kept x1_2.toNatClampNeg)) r_kept r_tape r_brings r_seen r_seenOut r_trace ++ R) H := hP
        have hD : va_D A (mdW Y cI m_thrown m_status m_isThere m_kinds m_newKinds m_print m_low m_high m_lot m_taped m_latest m_length m_cursor m_token m_from m_till m_fault m_faultAt m_traced r_lane r_many r_item r_market r_of r_newMarket r_newStart r_newOf r_newCoin (upd r_state_2 x1_2.toNatClampNeg (r_kept x1_2.toNatClampNeg)) r_kept r_tape r_brings r_seen r_seenOut r_trace ++ R) := hD
        rw [← ear_4] at hP hD
        have hP : va_P D vwCl (mdW Y cI m_thrown m_status m_isThere m_kinds m_newKinds m_print m_low m_high m_lot m_taped m_latest m_length m_cursor m_token m_from m_till m_fault m_faultAt m_traced r_lane r_many r_item r_market r_of r_newMarket r_newStart r_newOf r_newCoin ar_4 r_kept r_tape r_brings r_seen r_seenOut r_trace ++ R) H := hP
        have hD : va_D A (mdW Y cI m_thrown m_status m_isThere m_kinds m_newKinds m_print m_low m_high m_lot m_taped m_latest m_length m_cursor m_token m_from m_till m_fault m_faultAt m_traced r_lane r_many r_item r_market r_of r_newMarket r_newStart r_newOf r_newCoin ar_4 r_kept r_tape r_brings r_seen r_seenOut r_trace ++ R) := hD
        obtain ⟨x_5, ex_5⟩ : ∃ z : Int32, z = x1_2 + 1 := ⟨_, rfl⟩
        refine lv_iinc (v := x_5) (lv' := [(1, .int x_5), (0, .ref (Y 0))]) hx hb dX11_comeBack_20 hl (k := 0) rfl (by rw [ex_5]; rfl) (by decide) rfl (fun ls hl => ?_)
        refine lv_goto (tgt := 2) hx hb dX11_comeBack_23 (by decide) ?_
        have tx_5 : x_5.toInt = x1_2.toInt + 1 := i_inc ex_5 (by decide) (by omega) (by omega)
        refine ih_2 x_5 ar_4 H locs ls (by omega) (by omega) (by omega) hP hD hS (lv_sub hl [0, 1] rfl) (fun u H locs ls eu  hP hD hS hl => ?_)
        exact kont_2 u H locs ls (eu.trans (show lX11_comeBack_2 r_kept (n + 1) x1_2 r_state_2 = lX11_comeBack_2 r_kept n x_5 ar_4 from ((if_neg c_1).trans (lt_eq ear_4 (lt_eq ex_5 rfl)))).symm)  hP hD hS hl
  refine L_2 18 0 r_state H locs ls (by decide) (by decide) (by decide) hP hD hS (lv_sub hl [0, 1] rfl) (fun u_6 H locs ls eu_6  hP hD hS hl => ?_)
  have hP : va_P D vwCl (mdW Y cI m_thrown m_status m_isThere m_kinds m_newKinds m_print m_low m_high m_lot m_taped m_latest m_length m_cursor m_token m_from m_till m_fault m_faultAt m_traced r_lane r_many r_item r_market r_of r_newMarket r_newStart r_newOf r_newCoin u_6.2 r_kept r_tape r_brings r_seen r_seenOut r_trace ++ R) H := hP
  have hD : va_D A (mdW Y cI m_thrown m_status m_isThere m_kinds m_newKinds m_print m_low m_high m_lot m_taped m_latest m_length m_cursor m_token m_from m_till m_fault m_faultAt m_traced r_lane r_many r_item r_market r_of r_newMarket r_newStart r_newOf r_newCoin u_6.2 r_kept r_tape r_brings r_seen r_seenOut r_trace ++ R) := hD
  rw [hQm]
  exact mx_vret (u0 := sX11_comeBack r_state r_kept) (rv := (fun _ => none)) (w1 := (fun u => mdW Y cI m_thrown m_status m_isThere m_kinds m_newKinds m_print m_low m_high m_lot m_taped m_latest m_length m_cursor m_token m_from m_till m_fault m_faultAt m_traced r_lane r_many r_item r_market r_of r_newMarket r_newStart r_newOf r_newCoin u r_kept r_tape r_brings r_seen r_seenOut r_trace ++ R)) (u := (u_6.2)) hx hb hr hlocks hK hS (lt_eq eu_6 rfl) hP hD rfl dX11_comeBack_26
