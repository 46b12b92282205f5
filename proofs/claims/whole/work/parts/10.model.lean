def sX11_isLetter (k : Int32) : Int32 := if k < 97 then ((0)) else (if 122 < k then ((0)) else ((1)))
set_option maxHeartbeats 4000000 in
set_option maxRecDepth 100000 in
theorem mtX11_isLetter (l : Launch) (D : va_G) (cI cB cK cS : ClassId) (ws : va_W)  (k : Int32) : MX l yX11_isLetter wsX11_isLetter (rmX 1) D (tyX cI cB cK cS) pF0 (ws) [.int k] (sX11_isLetter k) (fun u => some (.int u)) (fun _ => ws) := by
  refine mx_intro (cc := cX11_isLetter) (maxL := 1) (ret := (some .boolean)) (by decide) rfl (Nat.le_of_ble_eq_true rfl) ?_
  intro p e s m below meth c A ls H locs Qm hQm hx hb hr hml hts hown hlocks hA hS hP hK hD hF hl
  have hown : s.vm.findClass RX11 = some m.cls := hown
  have hl : lv_has ls 1 [(0, .int k)] := hl
  refine lv_iload_n hx hb dX11_isLetter_0 rfl (lv_at hl 0 rfl) ?_
  refine lv_bipush (v := 97) hx hb dX11_isLetter_1 (by decide) ?_
  refine lv_icmp_lt (tgt := 16) hx hb dX11_isLetter_3 (by decide) (fun c_1 => ?_) (fun c_1 => ?_)
  · refine lv_iconst (v := 0) hx hb dX11_isLetter_16 (by decide) ?_
    rw [hQm]
    exact mx_zret (u0 := sX11_isLetter k) (rv := (fun u => some (.int u))) (w1 := (fun _ => ws)) (u := (0)) hx hb hr hlocks hK hS ((if_pos c_1).trans rfl) hP hD rfl rfl dX11_isLetter_17
  · refine lv_iload_n hx hb dX11_isLetter_6 rfl (lv_at hl 0 rfl) ?_
    refine lv_bipush (v := 122) hx hb dX11_isLetter_7 (by decide) ?_
    refine lv_icmp_gt (tgt := 16) hx hb dX11_isLetter_9 (by decide) (fun c_2 => ?_) (fun c_2 => ?_)
    · refine lv_iconst (v := 0) hx hb dX11_isLetter_16 (by decide) ?_
      rw [hQm]
      exact mx_zret (u0 := sX11_isLetter k) (rv := (fun u => some (.int u))) (w1 := (fun _ => ws)) (u := (0)) hx hb hr hlocks hK hS ((if_neg c_1).trans ((if_pos c_2).trans rfl)) hP hD rfl rfl dX11_isLetter_17
    · refine lv_iconst (v := 1) hx hb dX11_isLetter_12 (by decide) ?_
      refine lv_goto (tgt := 17) hx hb dX11_isLetter_13 (by decide) ?_
      rw [hQm]
      exact mx_zret (u0 := sX11_isLetter k) (rv := (fun u => some (.int u))) (w1 := (fun _ => ws)) (u := (1)) hx hb hr hlocks hK hS ((if_neg c_1).trans ((if_neg c_2).trans rfl)) hP hD rfl rfl dX11_isLetter_17

def sX11_isFigure (k : Int32) : Int32 := if k < 48 then ((0)) else (if 57 < k then ((0)) else ((1)))
set_option maxHeartbeats 4000000 in
set_option maxRecDepth 100000 in
theorem mtX11_isFigure (l : Launch) (D : va_G) (cI cB cK cS : ClassId) (ws : va_W)  (k : Int32) : MX l yX11_isFigure wsX11_isFigure (rmX 1) D (tyX cI cB cK cS) pF0 (ws) [.int k] (sX11_isFigure k) (fun u => some (.int u)) (fun _ => ws) := by
  refine mx_intro (cc := cX11_isFigure) (maxL := 1) (ret := (some .boolean)) (by decide) rfl (Nat.le_of_ble_eq_true rfl) ?_
  intro p e s m below meth c A ls H locs Qm hQm hx hb hr hml hts hown hlocks hA hS hP hK hD hF hl
  have hown : s.vm.findClass RX11 = some m.cls := hown
  have hl : lv_has ls 1 [(0, .int k)] := hl
  refine lv_iload_n hx hb dX11_isFigure_0 rfl (lv_at hl 0 rfl) ?_
  refine lv_bipush (v := 48) hx hb dX11_isFigure_1 (by decide) ?_
  refine lv_icmp_lt (tgt := 16) hx hb dX11_isFigure_3 (by decide) (fun c_1 => ?_) (fun c_1 => ?_)
  · refine lv_iconst (v := 0) hx hb dX11_isFigure_16 (by decide) ?_
    rw [hQm]
    exact mx_zret (u0 := sX11_isFigure k) (rv := (fun u => some (.int u))) (w1 := (fun _ => ws)) (u := (0)) hx hb hr hlocks hK hS ((if_pos c_1).trans rfl) hP hD rfl rfl dX11_isFigure_17
  · refine lv_iload_n hx hb dX11_isFigure_6 rfl (lv_at hl 0 rfl) ?_
    refine lv_bipush (v := 57) hx hb dX11_isFigure_7 (by decide) ?_
    refine lv_icmp_gt (tgt := 16) hx hb dX11_isFigure_9 (by decide) (fun c_2 => ?_) (fun c_2 => ?_)
    · refine lv_iconst (v := 0) hx hb dX11_isFigure_16 (by decide) ?_
      rw [hQm]
      exact mx_zret (u0 := sX11_isFigure k) (rv := (fun u => some (.int u))) (w1 := (fun _ => ws)) (u := (0)) hx hb hr hlocks hK hS ((if_neg c_1).trans ((if_pos c_2).trans rfl)) hP hD rfl rfl dX11_isFigure_17
    · refine lv_iconst (v := 1) hx hb dX11_isFigure_12 (by decide) ?_
      refine lv_goto (tgt := 17) hx hb dX11_isFigure_13 (by decide) ?_
      rw [hQm]
      exact mx_zret (u0 := sX11_isFigure k) (rv := (fun u => some (.int u))) (w1 := (fun _ => ws)) (u := (1)) hx hb hr hlocks hK hS ((if_neg c_1).trans ((if_neg c_2).trans rfl)) hP hD rfl rfl dX11_isFigure_17
theorem sX11_isLetter_t {u k : Int32} (e : u = sX11_isLetter k) (h : ¬ u = 0) : 97 ≤ k.toInt ∧ k.toInt ≤ 122 := by
  subst e; unfold sX11_isLetter at h
  split at h
  · exact absurd rfl h
  · rename_i h1
    split at h
    · exact absurd rfl h
    · rename_i h2
      have := i_ltn rfl (show (97 : Int32).toInt = 97 from by decide) h1
      have := i_ltn (show (122 : Int32).toInt = 122 from by decide) rfl h2
      omega
theorem sX11_isFigure_t {u k : Int32} (e : u = sX11_isFigure k) (h : ¬ u = 0) : 48 ≤ k.toInt ∧ k.toInt ≤ 57 := by
  subst e; unfold sX11_isFigure at h
  split at h
  · exact absurd rfl h
  · rename_i h1
    split at h
    · exact absurd rfl h
    · rename_i h2
      have := i_ltn rfl (show (48 : Int32).toInt = 48 from by decide) h1
      have := i_ltn (show (57 : Int32).toInt = 57 from by decide) rfl h2
      omega
def sX11_byteAt (k : Int32) (m_length : Int32) (r_tape : Nat → Int32) : Int32 := if m_length ≤ k then (((-1000000))) else (((r_tape k.toNatClampNeg)))
set_option maxHeartbeats 4000000 in
set_option maxRecDepth 100000 in
theorem mtX11_byteAt (l : Launch) (D : va_G) (cI cB cK cS : ClassId) (Y : Nat → Nat) (R : va_W) (m_thrown : Int32) (m_status : Int32) (m_isThere : Int32) (m_kinds : Int32) (m_newKinds : Int32) (m_print : Int32) (m_low : Int32) (m_high : Int32) (m_lot : Int32) (m_taped : Int32) (m_latest : Int32) (m_length : Int32) (m_cursor : Int32) (m_token : Int32) (m_from : Int32) (m_till : Int32) (m_fault : Int32) (m_faultAt : Int32) (m_traced : Int32) (r_lane : Nat → Int32) (r_many : Nat → Int32) (r_item : Nat → Int32) (r_market : Nat → Int32) (r_of : Nat → Int32) (r_newMarket : Nat → Int32) (r_newStart : Nat → Int32) (r_newOf : Nat → Int32) (r_newCoin : Nat → Int32) (r_state : Nat → Int32) (r_kept : Nat → Int32) (r_tape : Nat → Int32) (r_brings : Nat → Int32) (r_seen : Nat → Int32) (r_seenOut : Nat → Int32) (r_trace : Nat → Int32) (k : Int32) (hln : m_length.toInt ≤ 400) (hk0 : 0 ≤ k.toInt) : MX l yX11_byteAt wsX11_byteAt (rmX 1) D (tyX cI cB cK cS) pF0 (mdW Y cI m_thrown m_status m_isThere m_kinds m_newKinds m_print m_low m_high m_lot m_taped m_latest m_length m_cursor m_token m_from m_till m_fault m_faultAt m_traced r_lane r_many r_item r_market r_of r_newMarket r_newStart r_newOf r_newCoin r_state r_kept r_tape r_brings r_seen r_seenOut r_trace ++ R) [.ref (Y 0), .int k] (sX11_byteAt k m_length r_tape) (fun u => some (.int u)) (fun _ => mdW Y cI m_thrown m_status m_isThere m_kinds m_newKinds m_print m_low m_high m_lot m_taped m_latest m_length m_cursor m_token m_from m_till m_fault m_faultAt m_traced r_lane r_many r_item r_market r_of r_newMarket r_newStart r_newOf r_newCoin r_state r_kept r_tape r_brings r_seen r_seenOut r_trace ++ R) := by
  refine mx_intro (cc := cX11_byteAt) (maxL := 2) (ret := (some .int)) (by decide) rfl (Nat.le_of_ble_eq_true rfl) ?_
  intro p e s m below meth c A ls H locs Qm hQm hx hb hr hml hts hown hlocks hA hS hP hK hD hF hl
  have hown : s.vm.findClass RX11 = some m.cls := hown
  have hl : lv_has ls 2 [(0, .ref (Y 0)), (1, .int k)] := hl
  have k91 := hts (.fieldLink RX11 91 "PigRoundsModel" "length" "I") (by decide +kernel)
  have k94 := hts (.constant RX11 94 (-1000000)) (by decide +kernel)
  have k43 := hts (.fieldLink RX11 43 "PigRoundsModel" "tape" "[I") (by decide +kernel)
  have iX11 : ∀ w ∈ u_ws RX11 TX11 35, w ∈ wsX11_byteAt := by decide +kernel
  refine lv_iload_n hx hb dX11_byteAt_0 rfl (lv_at hl 1 rfl) ?_
  refine lv_aload_n hx hb dX11_byteAt_1 rfl (lv_at hl 0 rfl) ?_
  refine va_get (D := D) (ci := 9) (v := .int m_length) (C := RX11) (T := TX11) (N := 35) hx hb hts iX11 hown hK hP 0 rfl rfl 23 (by decide) k91 (fun _ h9 => h9) rfl dX11_byteAt_2 ?_
  refine lv_icmp_ge (tgt := 17) hx hb dX11_byteAt_5 (by decide) (fun c_1 => ?_) (fun c_1 => ?_)
  · have d_1 := i_le rfl rfl c_1
    refine lv_ldc (v := (-1000000)) hx hb hown k94 dX11_byteAt_17 ?_
    rw [hQm]
    exact mx_iret (u0 := sX11_byteAt k m_length r_tape) (rv := (fun u => some (.int u))) (w1 := (fun _ => mdW Y cI m_thrown m_status m_isThere m_kinds m_newKinds m_print m_low m_high m_lot m_taped m_latest m_length m_cursor m_token m_from m_till m_fault m_faultAt m_traced r_lane r_many r_item r_market r_of r_newMarket r_newStart r_newOf r_newCoin r_state r_kept r_tape r_brings r_seen r_seenOut r_trace ++ R)) (u := ((-1000000))) hx hb hr hlocks hK hS ((if_pos c_1).trans rfl) hP hD rfl dX11_byteAt_19
  · have d_1 := i_len rfl rfl c_1
    refine lv_aload_n hx hb dX11_byteAt_8 rfl (lv_at hl 0 rfl) ?_
    refine va_get (D := D) (ci := 9) (v := .ref (Y 20)) (C := RX11) (T := TX11) (N := 35) hx hb hts iX11 hown hK hP 0 rfl rfl 20 (by decide) k43 (fun _ h9 => h9) rfl dX11_byteAt_9 ?_
    refine lv_iload_n hx hb dX11_byteAt_12 rfl (lv_at hl 1 rfl) ?_
    have q_2 : vp_in k 400 := vp_in_iff.mpr ⟨by omega, by omega⟩
    refine va_iald hx hb hK hP 12 0 rfl rfl q_2 dX11_byteAt_13 ?_
    refine lv_goto (tgt := 19) hx hb dX11_byteAt_14 (by decide) ?_
    rw [hQm]
    exact mx_iret (u0 := sX11_byteAt k m_length r_tape) (rv := (fun u => some (.int u))) (w1 := (fun _ => mdW Y cI m_thrown m_status m_isThere m_kinds m_newKinds m_print m_low m_high m_lot m_taped m_latest m_length m_cursor m_token m_from m_till m_fault m_faultAt m_traced r_lane r_many r_item r_market r_of r_newMarket r_newStart r_newOf r_newCoin r_state r_kept r_tape r_brings r_seen r_seenOut r_trace ++ R)) (u := ((r_tape k.toNatClampNeg))) hx hb hr hlocks hK hS ((if_neg c_1).trans rfl) hP hD rfl dX11_byteAt_19
theorem sX11_byteAt_lt {u k len : Int32} {tape : Nat → Int32} (e : u = sX11_byteAt k len tape) (h : ¬ u.toInt = -1000000) : k.toInt < len.toInt := by
  subst e; unfold sX11_byteAt at h
  split at h
  · exact absurd (by decide) h
  · rename_i h1
    have := i_len rfl rfl h1
    omega
def rd_ok (cu fr ti : Int32) : Prop := (0 ≤ cu.toInt ∧ cu.toInt ≤ 400) ∧ (0 ≤ fr.toInt ∧ fr.toInt ≤ 400) ∧ (0 ≤ ti.toInt ∧ ti.toInt ≤ 400)
def sX11_bad (k : Int32) (m_from : Int32) (m_fault : Int32) (m_faultAt : Int32) : (Int32) × (Int32) := if m_fault = 0 then ((k, m_from)) else ((m_fault, m_faultAt))
set_option maxHeartbeats 4000000 in
set_option maxRecDepth 100000 in
theorem mtX11_bad (l : Launch) (D : va_G) (cI cB cK cS : ClassId) (Y : Nat → Nat) (R : va_W) (m_thrown : Int32) (m_status : Int32) (m_isThere : Int32) (m_kinds : Int32) (m_newKinds : Int32) (m_print : Int32) (m_low : Int32) (m_high : Int32) (m_lot : Int32) (m_taped : Int32) (m_latest : Int32) (m_length : Int32) (m_cursor : Int32) (m_token : Int32) (m_from : Int32) (m_till : Int32) (m_fault : Int32) (m_faultAt : Int32) (m_traced : Int32) (r_lane : Nat → Int32) (r_many : Nat → Int32) (r_item : Nat → Int32) (r_market : Nat → Int32) (r_of : Nat → Int32) (r_newMarket : Nat → Int32) (r_newStart : Nat → Int32) (r_newOf : Nat → Int32) (r_newCoin : Nat → Int32) (r_state : Nat → Int32) (r_kept : Nat → Int32) (r_tape : Nat → Int32) (r_brings : Nat → Int32) (r_seen : Nat → Int32) (r_seenOut : Nat → Int32) (r_trace : Nat → Int32) (k : Int32) : MX l yX11_bad wsX11_bad (rmX 1) D (tyX cI cB cK cS) pF0 (mdW Y cI m_thrown m_status m_isThere m_kinds m_newKinds m_print m_low m_high m_lot m_taped m_latest m_length m_cursor m_token m_from m_till m_fault m_faultAt m_traced r_lane r_many r_item r_market r_of r_newMarket r_newStart r_newOf r_newCoin r_state r_kept r_tape r_brings r_seen r_seenOut r_trace ++ R) [.ref (Y 0), .int k] (sX11_bad k m_from m_fault m_faultAt) (fun _ => none) (fun u => mdW Y cI m_thrown m_status m_isThere m_kinds m_newKinds m_print m_low m_high m_lot m_taped m_latest m_length m_cursor m_token m_from m_till u.1 u.2 m_traced r_lane r_many r_item r_market r_of r_newMarket r_newStart r_newOf r_newCoin r_state r_kept r_tape r_brings r_seen r_seenOut r_trace ++ R) := by
  refine mx_intro (cc := cX11_bad) (maxL := 2) (ret := none) (by decide) rfl (Nat.le_of_ble_eq_true rfl) ?_
  intro p e s m below meth c A ls H locs Qm hQm hx hb hr hml hts hown hlocks hA hS hP hK hD hF hl
  have hown : s.vm.findClass RX11 = some m.cls := hown
  have hl : lv_has ls 2 [(0, .ref (Y 0)), (1, .int k)] := hl
  have k116 := hts (.fieldLink RX11 116 "PigRoundsModel" "fault" "I") (by decide +kernel)
  have k101 := hts (.fieldLink RX11 101 "PigRoundsModel" "from" "I") (by decide +kernel)
  have k119 := hts (.fieldLink RX11 119 "PigRoundsModel" "faultAt" "I") (by decide +kernel)
  have iX11 : ∀ w ∈ u_ws RX11 TX11 35, w ∈ wsX11_bad := by decide +kernel
  refine lv_aload_n hx hb dX11_bad_0 rfl (lv_at hl 0 rfl) ?_
  refine va_get (D := D) (ci := 9) (v := .int m_fault) (C := RX11) (T := TX11) (N := 35) hx hb hts iX11 hown hK hP 0 rfl rfl 28 (by decide) k116 (fun _ h9 => h9) rfl dX11_bad_1 ?_
  refine lv_if_ne (tgt := 20) hx hb dX11_bad_4 (by decide) (fun c_1 => ?_) (fun c_1 => ?_)
  · rw [hQm]
    exact mx_vret (u0 := sX11_bad k m_from m_fault m_faultAt) (rv := (fun _ => none)) (w1 := (fun u => mdW Y cI m_thrown m_status m_isThere m_kinds m_newKinds m_print m_low m_high m_lot m_taped m_latest m_length m_cursor m_token m_from m_till u.1 u.2 m_traced r_lane r_many r_item r_market r_of r_newMarket r_newStart r_newOf r_newCoin r_state r_kept r_tape r_brings r_seen r_seenOut r_trace ++ R)) (u := (m_fault, m_faultAt)) hx hb hr hlocks hK hS ((if_neg c_1).trans rfl) hP hD rfl dX11_bad_20
  · refine lv_aload_n hx hb dX11_bad_7 rfl (lv_at hl 0 rfl) ?_
    refine lv_iload_n hx hb dX11_bad_8 rfl (lv_at hl 1 rfl) ?_
    refine va_put (D := D) (ci := 9) (v := .int k) (ty := .int) (C := RX11) (T := TX11) (N := 35) hx hb hts iX11 tyX11 tyX11_ok nmX11 hown hK hP hD hS 0 rfl rfl 28 (by decide) k116 (fun _ h9 => h9) rfl (by decide +kernel) rfl rfl (Nat.le_of_ble_eq_true rfl) dX11_bad_9 (fun H locs hP hD hS => ?_)
    have hP : va_P D vwCl (mdW Y cI m_thrown m_status m_isThere m_kinds m_newKinds m_print m_low m_high m_lot m_taped m_latest m_length m_cursor m_token m_from m_till k m_faultAt m_traced r_lane r_many r_item r_market r_of r_newMarket r_newStart r_newOf r_newCoin r_state r_kept r_tape r_brings r_seen r_seenOut r_trace ++ R) H := hP
    have hD : va_D A (mdW Y cI m_thrown m_status m_isThere m_kinds m_newKinds m_print m_low m_high m_lot m_taped m_latest m_length m_cursor m_token m_from m_till k m_faultAt m_traced r_lane r_many r_item r_market r_of r_newMarket r_newStart r_newOf r_newCoin r_state r_kept r_tape r_brings r_seen r_seenOut r_trace ++ R) := hD
    refine lv_aload_n hx hb dX11_bad_12 rfl (lv_at hl 0 rfl) ?_
    refine lv_aload_n hx hb dX11_bad_13 rfl (lv_at hl 0 rfl) ?_
    refine va_get (D := D) (ci := 9) (v := .int m_from) (C := RX11) (T := TX11) (N := 35) hx hb hts iX11 hown hK hP 0 rfl rfl 26 (by decide) k101 (fun _ h9 => h9) rfl dX11_bad_14 ?_
    refine va_put (D := D) (ci := 9) (v := .int m_from) (ty := .int) (C := RX11) (T := TX11) (N := 35) hx hb hts iX11 tyX11 tyX11_ok nmX11 hown hK hP hD hS 0 rfl rfl 29 (by decide) k119 (fun _ h9 => h9) rfl (by decide +kernel) rfl rfl (Nat.le_of_ble_eq_true rfl) dX11_bad_17 (fun H locs hP hD hS => ?_)
    have hP : va_P D vwCl (mdW Y cI m_thrown m_status m_isThere m_kinds m_newKinds m_print m_low m_high m_lot m_taped m_latest m_length m_cursor m_token m_from m_till k m_from m_traced r_lane r_many r_item r_market r_of r_newMarket r_newStart r_newOf r_newCoin r_state r_kept r_tape r_brings r_seen r_seenOut r_trace ++ R) H := hP
    have hD : va_D A (mdW Y cI m_thrown m_status m_isThere m_kinds m_newKinds m_print m_low m_high m_lot m_taped m_latest m_length m_cursor m_token m_from m_till k m_from m_traced r_lane r_many r_item r_market r_of r_newMarket r_newStart r_newOf r_newCoin r_state r_kept r_tape r_brings r_seen r_seenOut r_trace ++ R) := hD
    rw [hQm]
    exact mx_vret (u0 := sX11_bad k m_from m_fault m_faultAt) (rv := (fun _ => none)) (w1 := (fun u => mdW Y cI m_thrown m_status m_isThere m_kinds m_newKinds m_print m_low m_high m_lot m_taped m_latest m_length m_cursor m_token m_from m_till u.1 u.2 m_traced r_lane r_many r_item r_market r_of r_newMarket r_newStart r_newOf r_newCoin r_state r_kept r_tape r_brings r_seen r_seenOut r_trace ++ R)) (u := (k, m_from)) hx hb hr hlocks hK hS ((if_pos c_1).trans rfl) hP hD rfl dX11_bad_20

def lX11_next_0 (m_length : Int32) (r_tape : Nat → Int32) : Nat → Int32 → Int32
  | 0, m_cursor_0 => m_cursor_0
  | n + 1, m_cursor_0 => lt (sX11_byteAt m_cursor_0 m_length r_tape) (fun u_1 : Int32 => if u_1 = 32 then (lX11_next_0 m_length r_tape n (m_cursor_0 + 1)) else (lt (sX11_byteAt m_cursor_0 m_length r_tape) (fun u_3 : Int32 => if u_3 = 10 then (lX11_next_0 m_length r_tape n (m_cursor_0 + 1)) else (m_cursor_0))))

def lX11_next_119 (m_length : Int32) (r_tape : Nat → Int32) : Nat → Int32 → Int32
  | 0, m_cursor_119 => m_cursor_119
  | n + 1, m_cursor_119 => lt (sX11_byteAt m_cursor_119 m_length r_tape) (fun u_14 : Int32 => lt (sX11_isFigure u_14) (fun u_15 : Int32 => if u_15 = 0 then (m_cursor_119) else (lX11_next_119 m_length r_tape n (m_cursor_119 + 1))))

def lX11_next_77 (m_length : Int32) (r_tape : Nat → Int32) : Nat → Int32 → Int32
  | 0, m_cursor_77 => m_cursor_77
  | n + 1, m_cursor_77 => lt (sX11_byteAt m_cursor_77 m_length r_tape) (fun u_20 : Int32 => lt (sX11_isLetter u_20) (fun u_21 : Int32 => if u_21 = 0 then (m_cursor_77) else (lX11_next_77 m_length r_tape n (m_cursor_77 + 1))))

def sX11_next (m_length : Int32) (m_cursor : Int32) (r_tape : Nat → Int32) : (Int32) × (Int32) × (Int32) × (Int32) := lt (lX11_next_0 m_length r_tape 401 m_cursor) (fun u_5 : Int32 => lt (sX11_byteAt u_5 m_length r_tape) (fun u_6 : Int32 => if u_6 = (-1000000) then ((u_5, 1, u_5, u_5)) else (lt (sX11_isLetter u_6) (fun u_8 : Int32 => if u_8 = 0 then (lt (sX11_isFigure u_6) (fun u_10 : Int32 => if u_10 = 0 then (lt (if u_6 = 59 then (4) else (0)) (fun y_12 : Int32 => (u_5 + 1, y_12, u_5, (u_5 + 1)))) else (lt (lX11_next_119 m_length r_tape 401 u_5) (fun u_17 : Int32 => lt (if (u_17 - u_5) ≤ 3 then (3) else (0)) (fun y_18 : Int32 => (u_17, y_18, u_5, u_17)))))) else (lt (lX11_next_77 m_length r_tape 401 u_5) (fun u_23 : Int32 => (u_23, 2, u_5, u_23)))))))
set_option maxHeartbeats 4000000 in
set_option maxRecDepth 100000 in
theorem mtX11_next (l : Launch) (D : va_G) (cI cB cK cS : ClassId) (Y : Nat → Nat) (R : va_W) (m_thrown : Int32) (m_status : Int32) (m_isThere : Int32) (m_kinds : Int32) (m_newKinds : Int32) (m_print : Int32) (m_low : Int32) (m_high : Int32) (m_lot : Int32) (m_taped : Int32) (m_latest : Int32) (m_length : Int32) (m_cursor : Int32) (m_token : Int32) (m_from : Int32) (m_till : Int32) (m_fault : Int32) (m_faultAt : Int32) (m_traced : Int32) (r_lane : Nat → Int32) (r_many : Nat → Int32) (r_item : Nat → Int32) (r_market : Nat → Int32) (r_of : Nat → Int32) (r_newMarket : Nat → Int32) (r_newStart : Nat → Int32) (r_newOf : Nat → Int32) (r_newCoin : Nat → Int32) (r_state : Nat → Int32) (r_kept : Nat → Int32) (r_tape : Nat → Int32) (r_brings : Nat → Int32) (r_seen : Nat → Int32) (r_seenOut : Nat → Int32) (r_trace : Nat → Int32) (hln : m_length.toInt ≤ 400) (hrd : rd_ok m_cursor m_from m_till) : MX l yX11_next wsX11_next (rmX 2) D (tyX cI cB cK cS) pF0 (mdW Y cI m_thrown m_status m_isThere m_kinds m_newKinds m_print m_low m_high m_lot m_taped m_latest m_length m_cursor m_token m_from m_till m_fault m_faultAt m_traced r_lane r_many r_item r_market r_of r_newMarket r_newStart r_newOf r_newCoin r_state r_kept r_tape r_brings r_seen r_seenOut r_trace ++ R) [.ref (Y 0)] (sX11_next m_length m_cursor r_tape) (fun _ => none) (fun u => mdW Y cI m_thrown m_status m_isThere m_kinds m_newKinds m_print m_low m_high m_lot m_taped m_latest m_length u.1 u.2.1 u.2.2.1 u.2.2.2 m_fault m_faultAt m_traced r_lane r_many r_item r_market r_of r_newMarket r_newStart r_newOf r_newCoin r_state r_kept r_tape r_brings r_seen r_seenOut r_trace ++ R) := by
  refine mx_intro (cc := cX11_next) (maxL := 2) (ret := none) (by decide) rfl (Nat.le_of_ble_eq_true rfl) ?_
  intro p e s m below meth c A ls H locs Qm hQm hx hb hr hml hts hown hlocks hA hS hP hK hD hF hl
  have hown : s.vm.findClass RX11 = some m.cls := hown
  have hl : lv_has ls 2 [(0, .ref (Y 0))] := hl
  obtain ⟨⟨hc0, hc1⟩, ⟨hf0, hf1⟩, ⟨ht0, ht1⟩⟩ := id hrd
  have k95 := hts (.fieldLink RX11 95 "PigRoundsModel" "cursor" "I") (by decide +kernel)
  have k101 := hts (.fieldLink RX11 101 "PigRoundsModel" "from" "I") (by decide +kernel)
  have k94 := hts (.constant RX11 94 (-1000000)) (by decide +kernel)
  have k104 := hts (.fieldLink RX11 104 "PigRoundsModel" "token" "I") (by decide +kernel)
  have k113 := hts (.fieldLink RX11 113 "PigRoundsModel" "till" "I") (by decide +kernel)
  have iX11 : ∀ w ∈ u_ws RX11 TX11 35, w ∈ wsX11_next := by decide +kernel
  have L_0 : ∀ (n : Nat) (m_cursor_0 : Int32) (H : Heap) (locs : List Loc) (ls : Array Slot), 0 ≤ m_cursor_0.toInt → m_cursor_0.toInt ≤ 400 → (400 : Int) < m_cursor_0.toInt + ((n : Nat) : Int) → va_P D vwCl (mdW Y cI m_thrown m_status m_isThere m_kinds m_newKinds m_print m_low m_high m_lot m_taped m_latest m_length m_cursor_0 m_token m_from m_till m_fault m_faultAt m_traced r_lane r_many r_item r_market r_of r_newMarket r_newStart r_newOf r_newCoin r_state r_kept r_tape r_brings r_seen r_seenOut r_trace ++ R) H → va_D A (mdW Y cI m_thrown m_status m_isThere m_kinds m_newKinds m_print m_low m_high m_lot m_taped m_latest m_length m_cursor_0 m_token m_from m_till m_fault m_faultAt m_traced r_lane r_many r_item r_market r_of r_newMarket r_newStart r_newOf r_newCoin r_state r_kept r_tape r_brings r_seen r_seenOut r_trace ++ R) → va_S A s.heap H locs → lv_has ls 2 [(0, .ref (Y 0))] → (∀ (u : Int32) (H : Heap) (locs : List Loc) (ls : Array Slot), u = lX11_next_0 m_length r_tape n m_cursor_0 → (0 ≤ u.toInt) → (u.toInt ≤ 400) → va_P D vwCl (mdW Y cI m_thrown m_status m_isThere m_kinds m_newKinds m_print m_low m_high m_lot m_taped m_latest m_length u m_token m_from m_till m_fault m_faultAt m_traced r_lane r_many r_item r_market r_of r_newMarket r_newStart r_newOf r_newCoin r_state r_kept r_tape r_brings r_seen r_seenOut r_trace ++ R) H → va_D A (mdW Y cI m_thrown m_status m_isThere m_kinds m_newKinds m_print m_low m_high m_lot m_taped m_latest m_length u m_token m_from m_till m_fault m_faultAt m_traced r_lane r_many r_item r_market r_of r_newMarket r_newStart r_newOf r_newCoin r_state r_kept r_tape r_brings r_seen r_seenOut r_trace ++ R) → va_S A s.heap H locs → lv_has ls 2 [(0, .ref (Y 0))] → W p l e (rmX 2) s m ([.ref (Y 0)] : List Value).toArray below meth c H locs 0 0 Qm (F0 m 39 ls [])) → W p l e (rmX 2) s m ([.ref (Y 0)] : List Value).toArray below meth c H locs 0 0 Qm (F0 m 0 ls []) := by
    intro n
    induction n with
    | zero =>
      intro m_cursor_0 H locs ls iv_0_0 iv_0_1 iv_0_2 hP hD hS hl kont_0
      exfalso; omega
    | succ n ih_0 =>
      intro m_cursor_0 H locs ls iv_0_0 iv_0_1 iv_0_2 hP hD hS hl kont_0
      refine lv_aload_n hx hb dX11_next_0 rfl (lv_at hl 0 rfl) ?_
      refine lv_aload_n hx hb dX11_next_1 rfl (lv_at hl 0 rfl) ?_
      refine va_get (D := D) (ci := 9) (v := .int m_cursor_0) (C := RX11) (T := TX11) (N := 35) hx hb hts iX11 hown hK hP 0 rfl rfl 24 (by decide) k95 (fun _ h9 => h9) rfl dX11_next_2 ?_
      refine mx_callV (As := [.int m_cursor_0]) (rest := []) ⟨hx, hb, hml, hown, hts⟩ (mtX11_byteAt l D cI cB cK cS Y R m_thrown m_status m_isThere m_kinds m_newKinds m_print m_low m_high m_lot m_taped m_latest m_length m_cursor_0 m_token m_from m_till m_fault m_faultAt m_traced r_lane r_many r_item r_market r_of r_newMarket r_newStart r_newOf r_newCoin r_state r_kept r_tape r_brings r_seen r_seenOut r_trace m_cursor_0 (by first | assumption | omega) (by first | assumption | omega)) (cwV 1 hts gX11_next_X11_byteAt rfl rfl rfl (by decide +kernel) ⟨Nat.le_of_ble_eq_true rfl, Nat.le_of_ble_eq_true rfl⟩) pF0_ok trivial hK hP hD hS hA 0 rfl rfl rfl rfl hl.1 rfl (Nat.le_of_ble_eq_true rfl) dX11_next_5 ⟨Nat.le_refl _, Nat.le_refl _⟩ (fun u_1 H locs eu_1 hP hD hS => ?_)
      refine W.eq (g2 := F0 m 8 ls [.int u_1]) rfl ?_
      have hP : va_P D vwCl (mdW Y cI m_thrown m_status m_isThere m_kinds m_newKinds m_print m_low m_high m_lot m_taped m_latest m_length m_cursor_0 m_token m_from m_till m_fault m_faultAt m_traced r_lane r_many r_item r_market r_of r_newMarket r_newStart r_newOf r_newCoin r_state r_kept r_tape r_brings r_seen r_seenOut r_trace ++ R) H := hP
      have hD : va_D A (mdW Y cI m_thrown m_status m_isThere m_kinds m_newKinds m_print m_low m_high m_lot m_taped m_latest m_length m_cursor_0 m_token m_from m_till m_fault m_faultAt m_traced r_lane r_many r_item r_market r_of r_newMarket r_newStart r_newOf r_newCoin r_state r_kept r_tape r_brings r_seen r_seenOut r_trace ++ R) := hD
      refine lv_bipush (v := 32) hx hb dX11_next_8 (by decide) ?_
      refine lv_icmp_eq (tgt := 26) hx hb dX11_next_10 (by decide) (fun c_2 => ?_) (fun c_2 => ?_)
      · have d_2 := i_eq rfl (show (32 : Int32).toInt = 32 from by decide) c_2
        have dlt := sX11_byteAt_lt eu_1 (by omega)
        refine lv_aload_n hx hb dX11_next_26 rfl (lv_at hl 0 rfl) ?_
        refine lv_dup hx hb dX11_next_27 rfl ?_
        refine va_get (D := D) (ci := 9) (v := .int m_cursor_0) (C := RX11) (T := TX11) (N := 35) hx hb hts iX11 hown hK hP 0 rfl rfl 24 (by decide) k95 (fun _ h9 => h9) rfl dX11_next_28 ?_
        refine lv_iconst (v := 1) hx hb dX11_next_31 (by decide) ?_
        refine lv_iadd hx hb dX11_next_32 ?_
        refine va_put (D := D) (ci := 9) (v := .int (m_cursor_0 + 1)) (ty := .int) (C := RX11) (T := TX11) (N := 35) hx hb hts iX11 tyX11 tyX11_ok nmX11 hown hK hP hD hS 0 rfl rfl 24 (by decide) k95 (fun _ h9 => h9) rfl (by decide +kernel) rfl rfl (Nat.le_of_ble_eq_true rfl) dX11_next_33 (fun H locs hP hD hS => ?_)
        have hP : va_P D vwCl (mdW Y cI m_thrown m_status m_isThere m_kinds m_newKinds m_print m_low m_high m_lot m_taped m_latest m_length (m_cursor_0 + 1) m_token m_from m_till m_fault m_faultAt m_traced r_lane r_many r_item r_market r_of r_newMarket r_newStart r_newOf r_newCoin r_state r_kept r_tape r_brings r_seen r_seenOut r_trace ++ R) H := hP
        have hD : va_D A (mdW Y cI m_thrown m_status m_isThere m_kinds m_newKinds m_print m_low m_high m_lot m_taped m_latest m_length (m_cursor_0 + 1) m_token m_from m_till m_fault m_faultAt m_traced r_lane r_many r_item r_market r_of r_newMarket r_newStart r_newOf r_newCoin r_state r_kept r_tape r_brings r_seen r_seenOut r_trace ++ R) := hD
        refine lv_goto (tgt := 0) hx hb dX11_next_36 (by decide) ?_
        have tf_c : (m_cursor_0 + 1).toInt = m_cursor_0.toInt + 1 := i_addv rfl (show (1 : Int32).toInt = 1 from by decide) (by omega) (by omega)
        refine ih_0 (m_cursor_0 + 1) H locs ls (by omega) (by omega) (by omega) hP hD hS (lv_sub hl [0] rfl) (fun u H locs ls eu pv_0_0 pv_0_1 hP hD hS hl => ?_)
        exact kont_0 u H locs ls (eu.trans (show lX11_next_0 m_length r_tape (n + 1) m_cursor_0 = lX11_next_0 m_length r_tape n (m_cursor_0 + 1) from (lt_eq eu_1 ((if_pos c_2).trans rfl))).symm) pv_0_0 pv_0_1 hP hD hS hl
      · have d_2 := i_eqn rfl (show (32 : Int32).toInt = 32 from by decide) c_2
        refine lv_aload_n hx hb dX11_next_13 rfl (lv_at hl 0 rfl) ?_
        refine lv_aload_n hx hb dX11_next_14 rfl (lv_at hl 0 rfl) ?_
        refine va_get (D := D) (ci := 9) (v := .int m_cursor_0) (C := RX11) (T := TX11) (N := 35) hx hb hts iX11 hown hK hP 0 rfl rfl 24 (by decide) k95 (fun _ h9 => h9) rfl dX11_next_15 ?_
        refine mx_callV (As := [.int m_cursor_0]) (rest := []) ⟨hx, hb, hml, hown, hts⟩ (mtX11_byteAt l D cI cB cK cS Y R m_thrown m_status m_isThere m_kinds m_newKinds m_print m_low m_high m_lot m_taped m_latest m_length m_cursor_0 m_token m_from m_till m_fault m_faultAt m_traced r_lane r_many r_item r_market r_of r_newMarket r_newStart r_newOf r_newCoin r_state r_kept r_tape r_brings r_seen r_seenOut r_trace m_cursor_0 (by first | assumption | omega) (by first | assumption | omega)) (cwV 1 hts gX11_next_X11_byteAt rfl rfl rfl (by decide +kernel) ⟨Nat.le_of_ble_eq_true rfl, Nat.le_of_ble_eq_true rfl⟩) pF0_ok trivial hK hP hD hS hA 0 rfl rfl rfl rfl hl.1 rfl (Nat.le_of_ble_eq_true rfl) dX11_next_18 ⟨Nat.le_refl _, Nat.le_refl _⟩ (fun u_3 H locs eu_3 hP hD hS => ?_)
        refine W.eq (g2 := F0 m 21 ls [.int u_3]) rfl ?_
        have hP : va_P D vwCl (mdW Y cI m_thrown m_status m_isThere m_kinds m_newKinds m_print m_low m_high m_lot m_taped m_latest m_length m_cursor_0 m_token m_from m_till m_fault m_faultAt m_traced r_lane r_many r_item r_market r_of r_newMarket r_newStart r_newOf r_newCoin r_state r_kept r_tape r_brings r_seen r_seenOut r_trace ++ R) H := hP
        have hD : va_D A (mdW Y cI m_thrown m_status m_isThere m_kinds m_newKinds m_print m_low m_high m_lot m_taped m_latest m_length m_cursor_0 m_token m_from m_till m_fault m_faultAt m_traced r_lane r_many r_item r_market r_of r_newMarket r_newStart r_newOf r_newCoin r_state r_kept r_tape r_brings r_seen r_seenOut r_trace ++ R) := hD
        refine lv_bipush (v := 10) hx hb dX11_next_21 (by decide) ?_
        refine lv_icmp_ne (tgt := 39) hx hb dX11_next_23 (by decide) (fun c_4 => ?_) (fun c_4 => ?_)
        · have d_4 := i_eqn rfl (show (10 : Int32).toInt = 10 from by decide) c_4
          exact kont_0 m_cursor_0 H locs ls (show lX11_next_0 m_length r_tape (n + 1) m_cursor_0 = m_cursor_0 from (lt_eq eu_1 ((if_neg c_2).trans (lt_eq eu_3 ((if_neg c_4).trans rfl))))).symm (show 0 ≤ m_cursor_0.toInt from by omega) (show m_cursor_0.toInt ≤ 400 from by omega) hP hD hS (lv_sub hl [0] rfl)
        · have d_4 := i_eq rfl (show (10 : Int32).toInt = 10 from by decide) c_4
          have dlt := sX11_byteAt_lt eu_3 (by omega)
          refine lv_aload_n hx hb dX11_next_26 rfl (lv_at hl 0 rfl) ?_
          refine lv_dup hx hb dX11_next_27 rfl ?_
          refine va_get (D := D) (ci := 9) (v := .int m_cursor_0) (C := RX11) (T := TX11) (N := 35) hx hb hts iX11 hown hK hP 0 rfl rfl 24 (by decide) k95 (fun _ h9 => h9) rfl dX11_next_28 ?_
          refine lv_iconst (v := 1) hx hb dX11_next_31 (by decide) ?_
          refine lv_iadd hx hb dX11_next_32 ?_
          refine va_put (D := D) (ci := 9) (v := .int (m_cursor_0 + 1)) (ty := .int) (C := RX11) (T := TX11) (N := 35) hx hb hts iX11 tyX11 tyX11_ok nmX11 hown hK hP hD hS 0 rfl rfl 24 (by decide) k95 (fun _ h9 => h9) rfl (by decide +kernel) rfl rfl (Nat.le_of_ble_eq_true rfl) dX11_next_33 (fun H locs hP hD hS => ?_)
          have hP : va_P D vwCl (mdW Y cI m_thrown m_status m_isThere m_kinds m_newKinds m_print m_low m_high m_lot m_taped m_latest m_length (m_cursor_0 + 1) m_token m_from m_till m_fault m_faultAt m_traced r_lane r_many r_item r_market r_of r_newMarket r_newStart r_newOf r_newCoin r_state r_kept r_tape r_brings r_seen r_seenOut r_trace ++ R) H := hP
          have hD : va_D A (mdW Y cI m_thrown m_status m_isThere m_kinds m_newKinds m_print m_low m_high m_lot m_taped m_latest m_length (m_cursor_0 + 1) m_token m_from m_till m_fault m_faultAt m_traced r_lane r_many r_item r_market r_of r_newMarket r_newStart r_newOf r_newCoin r_state r_kept r_tape r_brings r_seen r_seenOut r_trace ++ R) := hD
          refine lv_goto (tgt := 0) hx hb dX11_next_36 (by decide) ?_
          have tf_c : (m_cursor_0 + 1).toInt = m_cursor_0.toInt + 1 := i_addv rfl (show (1 : Int32).toInt = 1 from by decide) (by omega) (by omega)
          refine ih_0 (m_cursor_0 + 1) H locs ls (by omega) (by omega) (by omega) hP hD hS (lv_sub hl [0] rfl) (fun u H locs ls eu pv_0_0 pv_0_1 hP hD hS hl => ?_)
          exact kont_0 u H locs ls (eu.trans (show lX11_next_0 m_length r_tape (n + 1) m_cursor_0 = lX11_next_0 m_length r_tape n (m_cursor_0 + 1) from (lt_eq eu_1 ((if_neg c_2).trans (lt_eq eu_3 ((if_pos c_4).trans rfl))))).symm) pv_0_0 pv_0_1 hP hD hS hl
  refine L_0 401 m_cursor H locs ls (by omega) (by omega) (by omega) hP hD hS (lv_sub hl [0] rfl) (fun u_5 H locs ls eu_5 pv_0_0 pv_0_1 hP hD hS hl => ?_)
  have hP : va_P D vwCl (mdW Y cI m_thrown m_status m_isThere m_kinds m_newKinds m_print m_low m_high m_lot m_taped m_latest m_length u_5 m_token m_from m_till m_fault m_faultAt m_traced r_lane r_many r_item r_market r_of r_newMarket r_newStart r_newOf r_newCoin r_state r_kept r_tape r_brings r_seen r_seenOut r_trace ++ R) H := hP
  have hD : va_D A (mdW Y cI m_thrown m_status m_isThere m_kinds m_newKinds m_print m_low m_high m_lot m_taped m_latest m_length u_5 m_token m_from m_till m_fault m_faultAt m_traced r_lane r_many r_item r_market r_of r_newMarket r_newStart r_newOf r_newCoin r_state r_kept r_tape r_brings r_seen r_seenOut r_trace ++ R) := hD
  refine lv_aload_n hx hb dX11_next_39 rfl (lv_at hl 0 rfl) ?_
  refine lv_aload_n hx hb dX11_next_40 rfl (lv_at hl 0 rfl) ?_
  refine va_get (D := D) (ci := 9) (v := .int u_5) (C := RX11) (T := TX11) (N := 35) hx hb hts iX11 hown hK hP 0 rfl rfl 24 (by decide) k95 (fun _ h9 => h9) rfl dX11_next_41 ?_
  refine va_put (D := D) (ci := 9) (v := .int u_5) (ty := .int) (C := RX11) (T := TX11) (N := 35) hx hb hts iX11 tyX11 tyX11_ok nmX11 hown hK hP hD hS 0 rfl rfl 26 (by decide) k101 (fun _ h9 => h9) rfl (by decide +kernel) rfl rfl (Nat.le_of_ble_eq_true rfl) dX11_next_44 (fun H locs hP hD hS => ?_)
  have hP : va_P D vwCl (mdW Y cI m_thrown m_status m_isThere m_kinds m_newKinds m_print m_low m_high m_lot m_taped m_latest m_length u_5 m_token u_5 m_till m_fault m_faultAt m_traced r_lane r_many r_item r_market r_of r_newMarket r_newStart r_newOf r_newCoin r_state r_kept r_tape r_brings r_seen r_seenOut r_trace ++ R) H := hP
  have hD : va_D A (mdW Y cI m_thrown m_status m_isThere m_kinds m_newKinds m_print m_low m_high m_lot m_taped m_latest m_length u_5 m_token u_5 m_till m_fault m_faultAt m_traced r_lane r_many r_item r_market r_of r_newMarket r_newStart r_newOf r_newCoin r_state r_kept r_tape r_brings r_seen r_seenOut r_trace ++ R) := hD
  refine lv_aload_n hx hb dX11_next_47 rfl (lv_at hl 0 rfl) ?_
  refine lv_aload_n hx hb dX11_next_48 rfl (lv_at hl 0 rfl) ?_
  refine va_get (D := D) (ci := 9) (v := .int u_5) (C := RX11) (T := TX11) (N := 35) hx hb hts iX11 hown hK hP 0 rfl rfl 24 (by decide) k95 (fun _ h9 => h9) rfl dX11_next_49 ?_
  refine mx_callV (As := [.int u_5]) (rest := []) ⟨hx, hb, hml, hown, hts⟩ (mtX11_byteAt l D cI cB cK cS Y R m_thrown m_status m_isThere m_kinds m_newKinds m_print m_low m_high m_lot m_taped m_latest m_length u_5 m_token u_5 m_till m_fault m_faultAt m_traced r_lane r_many r_item r_market r_of r_newMarket r_newStart r_newOf r_newCoin r_state r_kept r_tape r_brings r_seen r_seenOut r_trace u_5 (by first | assumption | omega) (by first | assumption | omega)) (cwV 1 hts gX11_next_X11_byteAt rfl rfl rfl (by decide +kernel) ⟨Nat.le_of_ble_eq_true rfl, Nat.le_of_ble_eq_true rfl⟩) pF0_ok trivial hK hP hD hS hA 0 rfl rfl rfl rfl hl.1 rfl (Nat.le_of_ble_eq_true rfl) dX11_next_52 ⟨Nat.le_refl _, Nat.le_refl _⟩ (fun u_6 H locs eu_6 hP hD hS => ?_)
  refine W.eq (g2 := F0 m 55 ls [.int u_6]) rfl ?_
  have hP : va_P D vwCl (mdW Y cI m_thrown m_status m_isThere m_kinds m_newKinds m_print m_low m_high m_lot m_taped m_latest m_length u_5 m_token u_5 m_till m_fault m_faultAt m_traced r_lane r_many r_item r_market r_of r_newMarket r_newStart r_newOf r_newCoin r_state r_kept r_tape r_brings r_seen r_seenOut r_trace ++ R) H := hP
  have hD : va_D A (mdW Y cI m_thrown m_status m_isThere m_kinds m_newKinds m_print m_low m_high m_lot m_taped m_latest m_length u_5 m_token u_5 m_till m_fault m_faultAt m_traced r_lane r_many r_item r_market r_of r_newMarket r_newStart r_newOf r_newCoin r_state r_kept r_tape r_brings r_seen r_seenOut r_trace ++ R) := hD
  refine lv_istore_n (lv' := [(1, .int u_6), (0, .ref (Y 0))]) hx hb dX11_next_55 rfl hl (by decide) rfl (fun ls hl => ?_)
  refine lv_iload_n hx hb dX11_next_56 rfl (lv_at hl 0 rfl) ?_
  refine lv_ldc (v := (-1000000)) hx hb hown k94 dX11_next_57 ?_
  refine lv_icmp_ne (tgt := 70) hx hb dX11_next_59 (by decide) (fun c_7 => ?_) (fun c_7 => ?_)
  · have d_7 := i_eqn rfl (show ((-1000000) : Int32).toInt = (-1000000) from by decide) c_7
    refine lv_iload_n hx hb dX11_next_70 rfl (lv_at hl 0 rfl) ?_
    refine mx_callS (As := [.int u_6]) (rest := []) ⟨hx, hb, hml, hown, hts⟩ (mtX11_isLetter l D cI cB cK cS (mdW Y cI m_thrown m_status m_isThere m_kinds m_newKinds m_print m_low m_high m_lot m_taped m_latest m_length u_5 m_token u_5 m_till m_fault m_faultAt m_traced r_lane r_many r_item r_market r_of r_newMarket r_newStart r_newOf r_newCoin r_state r_kept r_tape r_brings r_seen r_seenOut r_trace ++ R) u_6) (va_cwS 1 hts gX11_next_X11_isLetter rfl rfl rfl (by decide +kernel) ⟨Nat.le_of_ble_eq_true rfl, Nat.le_of_ble_eq_true rfl⟩) pF0_ok trivial hK hP hD hS hA rfl hl.1 rfl (Nat.le_of_ble_eq_true rfl) dX11_next_71 ⟨Nat.le_refl _, Nat.le_refl _⟩ (fun u_8 H locs eu_8 hP hD hS => ?_)
    refine W.eq (g2 := F0 m 74 ls [.int u_8]) rfl ?_
    have hP : va_P D vwCl (mdW Y cI m_thrown m_status m_isThere m_kinds m_newKinds m_print m_low m_high m_lot m_taped m_latest m_length u_5 m_token u_5 m_till m_fault m_faultAt m_traced r_lane r_many r_item r_market r_of r_newMarket r_newStart r_newOf r_newCoin r_state r_kept r_tape r_brings r_seen r_seenOut r_trace ++ R) H := hP
    have hD : va_D A (mdW Y cI m_thrown m_status m_isThere m_kinds m_newKinds m_print m_low m_high m_lot m_taped m_latest m_length u_5 m_token u_5 m_till m_fault m_faultAt m_traced r_lane r_many r_item r_market r_of r_newMarket r_newStart r_newOf r_newCoin r_state r_kept r_tape r_brings r_seen r_seenOut r_trace ++ R) := hD
    refine lv_if_eq (tgt := 112) hx hb dX11_next_74 (by decide) (fun c_9 => ?_) (fun c_9 => ?_)
    · have d_9 := i_eq rfl (show (0 : Int32).toInt = 0 from by decide) c_9
      refine lv_iload_n hx hb dX11_next_112 rfl (lv_at hl 0 rfl) ?_
      refine mx_callS (As := [.int u_6]) (rest := []) ⟨hx, hb, hml, hown, hts⟩ (mtX11_isFigure l D cI cB cK cS (mdW Y cI m_thrown m_status m_isThere m_kinds m_newKinds m_print m_low m_high m_lot m_taped m_latest m_length u_5 m_token u_5 m_till m_fault m_faultAt m_traced r_lane r_many r_item r_market r_of r_newMarket r_newStart r_newOf r_newCoin r_state r_kept r_tape r_brings r_seen r_seenOut r_trace ++ R) u_6) (va_cwS 1 hts gX11_next_X11_isFigure rfl rfl rfl (by decide +kernel) ⟨Nat.le_of_ble_eq_true rfl, Nat.le_of_ble_eq_true rfl⟩) pF0_ok trivial hK hP hD hS hA rfl hl.1 rfl (Nat.le_of_ble_eq_true rfl) dX11_next_113 ⟨Nat.le_refl _, Nat.le_refl _⟩ (fun u_10 H locs eu_10 hP hD hS => ?_)
      refine W.eq (g2 := F0 m 116 ls [.int u_10]) rfl ?_
      have hP : va_P D vwCl (mdW Y cI m_thrown m_status m_isThere m_kinds m_newKinds m_print m_low m_high m_lot m_taped m_latest m_length u_5 m_token u_5 m_till m_fault m_faultAt m_traced r_lane r_many r_item r_market r_of r_newMarket r_newStart r_newOf r_newCoin r_state r_kept r_tape r_brings r_seen r_seenOut r_trace ++ R) H := hP
      have hD : va_D A (mdW Y cI m_thrown m_status m_isThere m_kinds m_newKinds m_print m_low m_high m_lot m_taped m_latest m_length u_5 m_token u_5 m_till m_fault m_faultAt m_traced r_lane r_many r_item r_market r_of r_newMarket r_newStart r_newOf r_newCoin r_state r_kept r_tape r_brings r_seen r_seenOut r_trace ++ R) := hD
      refine lv_if_eq (tgt := 171) hx hb dX11_next_116 (by decide) (fun c_11 => ?_) (fun c_11 => ?_)
      · have d_11 := i_eq rfl (show (0 : Int32).toInt = 0 from by decide) c_11
        refine lv_aload_n hx hb dX11_next_171 rfl (lv_at hl 1 rfl) ?_
        refine lv_dup hx hb dX11_next_172 rfl ?_
        refine va_get (D := D) (ci := 9) (v := .int u_5) (C := RX11) (T := TX11) (N := 35) hx hb hts iX11 hown hK hP 0 rfl rfl 24 (by decide) k95 (fun _ h9 => h9) rfl dX11_next_173 ?_
        refine lv_iconst (v := 1) hx hb dX11_next_176 (by decide) ?_
        refine lv_iadd hx hb dX11_next_177 ?_
        refine va_put (D := D) (ci := 9) (v := .int (u_5 + 1)) (ty := .int) (C := RX11) (T := TX11) (N := 35) hx hb hts iX11 tyX11 tyX11_ok nmX11 hown hK hP hD hS 0 rfl rfl 24 (by decide) k95 (fun _ h9 => h9) rfl (by decide +kernel) rfl rfl (Nat.le_of_ble_eq_true rfl) dX11_next_178 (fun H locs hP hD hS => ?_)
        have hP : va_P D vwCl (mdW Y cI m_thrown m_status m_isThere m_kinds m_newKinds m_print m_low m_high m_lot m_taped m_latest m_length (u_5 + 1) m_token u_5 m_till m_fault m_faultAt m_traced r_lane r_many r_item r_market r_of r_newMarket r_newStart r_newOf r_newCoin r_state r_kept r_tape r_brings r_seen r_seenOut r_trace ++ R) H := hP
        have hD : va_D A (mdW Y cI m_thrown m_status m_isThere m_kinds m_newKinds m_print m_low m_high m_lot m_taped m_latest m_length (u_5 + 1) m_token u_5 m_till m_fault m_faultAt m_traced r_lane r_many r_item r_market r_of r_newMarket r_newStart r_newOf r_newCoin r_state r_kept r_tape r_brings r_seen r_seenOut r_trace ++ R) := hD
        refine lv_aload_n hx hb dX11_next_181 rfl (lv_at hl 1 rfl) ?_
        refine lv_iload_n hx hb dX11_next_182 rfl (lv_at hl 0 rfl) ?_
        refine lv_bipush (v := 59) hx hb dX11_next_183 (by decide) ?_
        have J_12 : ∀ (y_12 : Int32) (H : Heap) (locs : List Loc) (ls : Array Slot), y_12 = (if u_6 = 59 then (4) else (0)) → va_P D vwCl (mdW Y cI m_thrown m_status m_isThere m_kinds m_newKinds m_print m_low m_high m_lot m_taped m_latest m_length (u_5 + 1) m_token u_5 m_till m_fault m_faultAt m_traced r_lane r_many r_item r_market r_of r_newMarket r_newStart r_newOf r_newCoin r_state r_kept r_tape r_brings r_seen r_seenOut r_trace ++ R) H → va_D A (mdW Y cI m_thrown m_status m_isThere m_kinds m_newKinds m_print m_low m_high m_lot m_taped m_latest m_length (u_5 + 1) m_token u_5 m_till m_fault m_faultAt m_traced r_lane r_many r_item r_market r_of r_newMarket r_newStart r_newOf r_newCoin r_state r_kept r_tape r_brings r_seen r_seenOut r_trace ++ R) → va_S A s.heap H locs → lv_has ls 2 [(0, .ref (Y 0))] → W p l e (rmX 2) s m ([.ref (Y 0)] : List Value).toArray below meth c H locs 0 0 Qm (F0 m 193 ls [.int y_12, .ref (Y 0)]) := by
          intro y_12 H locs ls ey_12 hP hD hS hl
          refine va_put (D := D) (ci := 9) (v := .int y_12) (ty := .int) (C := RX11) (T := TX11) (N := 35) hx hb hts iX11 tyX11 tyX11_ok nmX11 hown hK hP hD hS 0 rfl rfl 25 (by decide) k104 (fun _ h9 => h9) rfl (by decide +kernel) rfl rfl (Nat.le_of_ble_eq_true rfl) dX11_next_193 (fun H locs hP hD hS => ?_)
          have hP : va_P D vwCl (mdW Y cI m_thrown m_status m_isThere m_kinds m_newKinds m_print m_low m_high m_lot m_taped m_latest m_length (u_5 + 1) y_12 u_5 m_till m_fault m_faultAt m_traced r_lane r_many r_item r_market r_of r_newMarket r_newStart r_newOf r_newCoin r_state r_kept r_tape r_brings r_seen r_seenOut r_trace ++ R) H := hP
          have hD : va_D A (mdW Y cI m_thrown m_status m_isThere m_kinds m_newKinds m_print m_low m_high m_lot m_taped m_latest m_length (u_5 + 1) y_12 u_5 m_till m_fault m_faultAt m_traced r_lane r_many r_item r_market r_of r_newMarket r_newStart r_newOf r_newCoin r_state r_kept r_tape r_brings r_seen r_seenOut r_trace ++ R) := hD
          refine lv_aload_n hx hb dX11_next_196 rfl (lv_at hl 0 rfl) ?_
          refine lv_aload_n hx hb dX11_next_197 rfl (lv_at hl 0 rfl) ?_
          refine va_get (D := D) (ci := 9) (v := .int (u_5 + 1)) (C := RX11) (T := TX11) (N := 35) hx hb hts iX11 hown hK hP 0 rfl rfl 24 (by decide) k95 (fun _ h9 => h9) rfl dX11_next_198 ?_
          refine va_put (D := D) (ci := 9) (v := .int (u_5 + 1)) (ty := .int) (C := RX11) (T := TX11) (N := 35) hx hb hts iX11 tyX11 tyX11_ok nmX11 hown hK hP hD hS 0 rfl rfl 27 (by decide) k113 (fun _ h9 => h9) rfl (by decide +kernel) rfl rfl (Nat.le_of_ble_eq_true rfl) dX11_next_201 (fun H locs hP hD hS => ?_)
          have hP : va_P D vwCl (mdW Y cI m_thrown m_status m_isThere m_kinds m_newKinds m_print m_low m_high m_lot m_taped m_latest m_length (u_5 + 1) y_12 u_5 (u_5 + 1) m_fault m_faultAt m_traced r_lane r_many r_item r_market r_of r_newMarket r_newStart r_newOf r_newCoin r_state r_kept r_tape r_brings r_seen r_seenOut r_trace ++ R) H := hP
          have hD : va_D A (mdW Y cI m_thrown m_status m_isThere m_kinds m_newKinds m_print m_low m_high m_lot m_taped m_latest m_length (u_5 + 1) y_12 u_5 (u_5 + 1) m_fault m_faultAt m_traced r_lane r_many r_item r_market r_of r_newMarket r_newStart r_newOf r_newCoin r_state r_kept r_tape r_brings r_seen r_seenOut r_trace ++ R) := hD
          rw [hQm]
          exact mx_vret (u0 := sX11_next m_length m_cursor r_tape) (rv := (fun _ => none)) (w1 := (fun u => mdW Y cI m_thrown m_status m_isThere m_kinds m_newKinds m_print m_low m_high m_lot m_taped m_latest m_length u.1 u.2.1 u.2.2.1 u.2.2.2 m_fault m_faultAt m_traced r_lane r_many r_item r_market r_of r_newMarket r_newStart r_newOf r_newCoin r_state r_kept r_tape r_brings r_seen r_seenOut r_trace ++ R)) (u := (u_5 + 1, y_12, u_5, (u_5 + 1))) hx hb hr hlocks hK hS (lt_eq eu_5 (lt_eq eu_6 ((if_neg c_7).trans (lt_eq eu_8 ((if_pos c_9).trans (lt_eq eu_10 ((if_pos c_11).trans (lt_eq ey_12 rfl)))))))) hP hD rfl dX11_next_204
        refine lv_icmp_ne (tgt := 192) hx hb dX11_next_185 (by decide) (fun c_13 => ?_) (fun c_13 => ?_)
        · have d_13 := i_eqn rfl (show (59 : Int32).toInt = 59 from by decide) c_13
          refine lv_iconst (v := 0) hx hb dX11_next_192 (by decide) ?_
          exact J_12 0 H locs ls (Eq.symm ((if_neg c_13).trans rfl)) hP hD hS (lv_sub hl [1] rfl)
        · have d_13 := i_eq rfl (show (59 : Int32).toInt = 59 from by decide) c_13
          refine lv_iconst (v := 4) hx hb dX11_next_188 (by decide) ?_
          refine lv_goto (tgt := 193) hx hb dX11_next_189 (by decide) ?_
          exact J_12 4 H locs ls (Eq.symm ((if_pos c_13).trans rfl)) hP hD hS (lv_sub hl [1] rfl)
      · have d_11 := i_eqn rfl (show (0 : Int32).toInt = 0 from by decide) c_11
        have dt_11 := sX11_isFigure_t eu_10 c_11
        have L_119 : ∀ (n : Nat) (m_cursor_119 : Int32) (H : Heap) (locs : List Loc) (ls : Array Slot), 0 ≤ m_cursor_119.toInt → m_cursor_119.toInt ≤ 400 → (400 : Int) < m_cursor_119.toInt + ((n : Nat) : Int) → va_P D vwCl (mdW Y cI m_thrown m_status m_isThere m_kinds m_newKinds m_print m_low m_high m_lot m_taped m_latest m_length m_cursor_119 m_token u_5 m_till m_fault m_faultAt m_traced r_lane r_many r_item r_market r_of r_newMarket r_newStart r_newOf r_newCoin r_state r_kept r_tape r_brings r_seen r_seenOut r_trace ++ R) H → va_D A (mdW Y cI m_thrown m_status m_isThere m_kinds m_newKinds m_print m_low m_high m_lot m_taped m_latest m_length m_cursor_119 m_token u_5 m_till m_fault m_faultAt m_traced r_lane r_many r_item r_market r_of r_newMarket r_newStart r_newOf r_newCoin r_state r_kept r_tape r_brings r_seen r_seenOut r_trace ++ R) → va_S A s.heap H locs → lv_has ls 2 [(0, .ref (Y 0))] → (∀ (u : Int32) (H : Heap) (locs : List Loc) (ls : Array Slot), u = lX11_next_119 m_length r_tape n m_cursor_119 → (0 ≤ u.toInt) → (u.toInt ≤ 400) → va_P D vwCl (mdW Y cI m_thrown m_status m_isThere m_kinds m_newKinds m_print m_low m_high m_lot m_taped m_latest m_length u m_token u_5 m_till m_fault m_faultAt m_traced r_lane r_many r_item r_market r_of r_newMarket r_newStart r_newOf r_newCoin r_state r_kept r_tape r_brings r_seen r_seenOut r_trace ++ R) H → va_D A (mdW Y cI m_thrown m_status m_isThere m_kinds m_newKinds m_print m_low m_high m_lot m_taped m_latest m_length u m_token u_5 m_till m_fault m_faultAt m_traced r_lane r_many r_item r_market r_of r_newMarket r_newStart r_newOf r_newCoin r_state r_kept r_tape r_brings r_seen r_seenOut r_trace ++ R) → va_S A s.heap H locs → lv_has ls 2 [(0, .ref (Y 0))] → W p l e (rmX 2) s m ([.ref (Y 0)] : List Value).toArray below meth c H locs 0 0 Qm (F0 m 146 ls [])) → W p l e (rmX 2) s m ([.ref (Y 0)] : List Value).toArray below meth c H locs 0 0 Qm (F0 m 119 ls []) := by
          intro n
          induction n with
          | zero =>
            intro m_cursor_119 H locs ls iv_119_0 iv_119_1 iv_119_2 hP hD hS hl kont_119
            exfalso; omega
          | succ n ih_119 =>
            intro m_cursor_119 H locs ls iv_119_0 iv_119_1 iv_119_2 hP hD hS hl kont_119
            refine lv_aload_n hx hb dX11_next_119 rfl (lv_at hl 0 rfl) ?_
            refine lv_aload_n hx hb dX11_next_120 rfl (lv_at hl 0 rfl) ?_
            refine va_get (D := D) (ci := 9) (v := .int m_cursor_119) (C := RX11) (T := TX11) (N := 35) hx hb hts iX11 hown hK hP 0 rfl rfl 24 (by decide) k95 (fun _ h9 => h9) rfl dX11_next_121 ?_
            refine mx_callV (As := [.int m_cursor_119]) (rest := []) ⟨hx, hb, hml, hown, hts⟩ (mtX11_byteAt l D cI cB cK cS Y R m_thrown m_status m_isThere m_kinds m_newKinds m_print m_low m_high m_lot m_taped m_latest m_length m_cursor_119 m_token u_5 m_till m_fault m_faultAt m_traced r_lane r_many r_item r_market r_of r_newMarket r_newStart r_newOf r_newCoin r_state r_kept r_tape r_brings r_seen r_seenOut r_trace m_cursor_119 (by first | assumption | omega) (by first | assumption | omega)) (cwV 1 hts gX11_next_X11_byteAt rfl rfl rfl (by decide +kernel) ⟨Nat.le_of_ble_eq_true rfl, Nat.le_of_ble_eq_true rfl⟩) pF0_ok trivial hK hP hD hS hA 0 rfl rfl rfl rfl hl.1 rfl (Nat.le_of_ble_eq_true rfl) dX11_next_124 ⟨Nat.le_refl _, Nat.le_refl _⟩ (fun u_14 H locs eu_14 hP hD hS => ?_)
            refine W.eq (g2 := F0 m 127 ls [.int u_14]) rfl ?_
            have hP : va_P D vwCl (mdW Y cI m_thrown m_status m_isThere m_kinds m_newKinds m_print m_low m_high m_lot m_taped m_latest m_length m_cursor_119 m_token u_5 m_till m_fault m_faultAt m_traced r_lane r_many r_item r_market r_of r_newMarket r_newStart r_newOf r_newCoin r_state r_kept r_tape r_brings r_seen r_seenOut r_trace ++ R) H := hP
            have hD : va_D A (mdW Y cI m_thrown m_status m_isThere m_kinds m_newKinds m_print m_low m_high m_lot m_taped m_latest m_length m_cursor_119 m_token u_5 m_till m_fault m_faultAt m_traced r_lane r_many r_item r_market r_of r_newMarket r_newStart r_newOf r_newCoin r_state r_kept r_tape r_brings r_seen r_seenOut r_trace ++ R) := hD
            refine mx_callS (As := [.int u_14]) (rest := []) ⟨hx, hb, hml, hown, hts⟩ (mtX11_isFigure l D cI cB cK cS (mdW Y cI m_thrown m_status m_isThere m_kinds m_newKinds m_print m_low m_high m_lot m_taped m_latest m_length m_cursor_119 m_token u_5 m_till m_fault m_faultAt m_traced r_lane r_many r_item r_market r_of r_newMarket r_newStart r_newOf r_newCoin r_state r_kept r_tape r_brings r_seen r_seenOut r_trace ++ R) u_14) (va_cwS 1 hts gX11_next_X11_isFigure rfl rfl rfl (by decide +kernel) ⟨Nat.le_of_ble_eq_true rfl, Nat.le_of_ble_eq_true rfl⟩) pF0_ok trivial hK hP hD hS hA rfl hl.1 rfl (Nat.le_of_ble_eq_true rfl) dX11_next_127 ⟨Nat.le_refl _, Nat.le_refl _⟩ (fun u_15 H locs eu_15 hP hD hS => ?_)
            refine W.eq (g2 := F0 m 130 ls [.int u_15]) rfl ?_
            have hP : va_P D vwCl (mdW Y cI m_thrown m_status m_isThere m_kinds m_newKinds m_print m_low m_high m_lot m_taped m_latest m_length m_cursor_119 m_token u_5 m_till m_fault m_faultAt m_traced r_lane r_many r_item r_market r_of r_newMarket r_newStart r_newOf r_newCoin r_state r_kept r_tape r_brings r_seen r_seenOut r_trace ++ R) H := hP
            have hD : va_D A (mdW Y cI m_thrown m_status m_isThere m_kinds m_newKinds m_print m_low m_high m_lot m_taped m_latest m_length m_cursor_119 m_token u_5 m_till m_fault m_faultAt m_traced r_lane r_many r_item r_market r_of r_newMarket r_newStart r_newOf r_newCoin r_state r_kept r_tape r_brings r_seen r_seenOut r_trace ++ R) := hD
            refine lv_if_eq (tgt := 146) hx hb dX11_next_130 (by decide) (fun c_16 => ?_) (fun c_16 => ?_)
            · have d_16 := i_eq rfl (show (0 : Int32).toInt = 0 from by decide) c_16
              exact kont_119 m_cursor_119 H locs ls (show lX11_next_119 m_length r_tape (n + 1) m_cursor_119 = m_cursor_119 from (lt_eq eu_14 (lt_eq eu_15 ((if_pos c_16).trans rfl)))).symm (show 0 ≤ m_cursor_119.toInt from by omega) (show m_cursor_119.toInt ≤ 400 from by omega) hP hD hS (lv_sub hl [0] rfl)
            · have d_16 := i_eqn rfl (show (0 : Int32).toInt = 0 from by decide) c_16
              have dt_16 := sX11_isFigure_t eu_15 c_16
              have dlt := sX11_byteAt_lt eu_14 (by omega)
              refine lv_aload_n hx hb dX11_next_133 rfl (lv_at hl 0 rfl) ?_
              refine lv_dup hx hb dX11_next_134 rfl ?_
              refine va_get (D := D) (ci := 9) (v := .int m_cursor_119) (C := RX11) (T := TX11) (N := 35) hx hb hts iX11 hown hK hP 0 rfl rfl 24 (by decide) k95 (fun _ h9 => h9) rfl dX11_next_135 ?_
              refine lv_iconst (v := 1) hx hb dX11_next_138 (by decide) ?_
              refine lv_iadd hx hb dX11_next_139 ?_
              refine va_put (D := D) (ci := 9) (v := .int (m_cursor_119 + 1)) (ty := .int) (C := RX11) (T := TX11) (N := 35) hx hb hts iX11 tyX11 tyX11_ok nmX11 hown hK hP hD hS 0 rfl rfl 24 (by decide) k95 (fun _ h9 => h9) rfl (by decide +kernel) rfl rfl (Nat.le_of_ble_eq_true rfl) dX11_next_140 (fun H locs hP hD hS => ?_)
              have hP : va_P D vwCl (mdW Y cI m_thrown m_status m_isThere m_kinds m_newKinds m_print m_low m_high m_lot m_taped m_latest m_length (m_cursor_119 + 1) m_token u_5 m_till m_fault m_faultAt m_traced r_lane r_many r_item r_market r_of r_newMarket r_newStart r_newOf r_newCoin r_state r_kept r_tape r_brings r_seen r_seenOut r_trace ++ R) H := hP
              have hD : va_D A (mdW Y cI m_thrown m_status m_isThere m_kinds m_newKinds m_print m_low m_high m_lot m_taped m_latest m_length (m_cursor_119 + 1) m_token u_5 m_till m_fault m_faultAt m_traced r_lane r_many r_item r_market r_of r_newMarket r_newStart r_newOf r_newCoin r_state r_kept r_tape r_brings r_seen r_seenOut r_trace ++ R) := hD
              refine lv_goto (tgt := 119) hx hb dX11_next_143 (by decide) ?_
              have tf_c : (m_cursor_119 + 1).toInt = m_cursor_119.toInt + 1 := i_addv rfl (show (1 : Int32).toInt = 1 from by decide) (by omega) (by omega)
              refine ih_119 (m_cursor_119 + 1) H locs ls (by omega) (by omega) (by omega) hP hD hS (lv_sub hl [0] rfl) (fun u H locs ls eu pv_119_0 pv_119_1 hP hD hS hl => ?_)
              exact kont_119 u H locs ls (eu.trans (show lX11_next_119 m_length r_tape (n + 1) m_cursor_119 = lX11_next_119 m_length r_tape n (m_cursor_119 + 1) from (lt_eq eu_14 (lt_eq eu_15 ((if_neg c_16).trans rfl)))).symm) pv_119_0 pv_119_1 hP hD hS hl
        refine L_119 401 u_5 H locs ls (by omega) (by omega) (by omega) hP hD hS (lv_sub hl [1] rfl) (fun u_17 H locs ls eu_17 pv_119_0 pv_119_1 hP hD hS hl => ?_)
        have hP : va_P D vwCl (mdW Y cI m_thrown m_status m_isThere m_kinds m_newKinds m_print m_low m_high m_lot m_taped m_latest m_length u_17 m_token u_5 m_till m_fault m_faultAt m_traced r_lane r_many r_item r_market r_of r_newMarket r_newStart r_newOf r_newCoin r_state r_kept r_tape r_brings r_seen r_seenOut r_trace ++ R) H := hP
        have hD : va_D A (mdW Y cI m_thrown m_status m_isThere m_kinds m_newKinds m_print m_low m_high m_lot m_taped m_latest m_length u_17 m_token u_5 m_till m_fault m_faultAt m_traced r_lane r_many r_item r_market r_of r_newMarket r_newStart r_newOf r_newCoin r_state r_kept r_tape r_brings r_seen r_seenOut r_trace ++ R) := hD
        refine lv_aload_n hx hb dX11_next_146 rfl (lv_at hl 0 rfl) ?_
        refine lv_aload_n hx hb dX11_next_147 rfl (lv_at hl 0 rfl) ?_
        refine va_get (D := D) (ci := 9) (v := .int u_17) (C := RX11) (T := TX11) (N := 35) hx hb hts iX11 hown hK hP 0 rfl rfl 24 (by decide) k95 (fun _ h9 => h9) rfl dX11_next_148 ?_
        refine lv_aload_n hx hb dX11_next_151 rfl (lv_at hl 0 rfl) ?_
        refine va_get (D := D) (ci := 9) (v := .int u_5) (C := RX11) (T := TX11) (N := 35) hx hb hts iX11 hown hK hP 0 rfl rfl 26 (by decide) k101 (fun _ h9 => h9) rfl dX11_next_152 ?_
        refine lv_isub hx hb dX11_next_155 ?_
        refine lv_iconst (v := 3) hx hb dX11_next_156 (by decide) ?_
        have J_18 : ∀ (y_18 : Int32) (H : Heap) (locs : List Loc) (ls : Array Slot), y_18 = (if (u_17 - u_5) ≤ 3 then (3) else (0)) → va_P D vwCl (mdW Y cI m_thrown m_status m_isThere m_kinds m_newKinds m_print m_low m_high m_lot m_taped m_latest m_length u_17 m_token u_5 m_till m_fault m_faultAt m_traced r_lane r_many r_item r_market r_of r_newMarket r_newStart r_newOf r_newCoin r_state r_kept r_tape r_brings r_seen r_seenOut r_trace ++ R) H → va_D A (mdW Y cI m_thrown m_status m_isThere m_kinds m_newKinds m_print m_low m_high m_lot m_taped m_latest m_length u_17 m_token u_5 m_till m_fault m_faultAt m_traced r_lane r_many r_item r_market r_of r_newMarket r_newStart r_newOf r_newCoin r_state r_kept r_tape r_brings r_seen r_seenOut r_trace ++ R) → va_S A s.heap H locs → lv_has ls 2 [(0, .ref (Y 0))] → W p l e (rmX 2) s m ([.ref (Y 0)] : List Value).toArray below meth c H locs 0 0 Qm (F0 m 165 ls [.int y_18, .ref (Y 0)]) := by
          intro y_18 H locs ls ey_18 hP hD hS hl
          refine va_put (D := D) (ci := 9) (v := .int y_18) (ty := .int) (C := RX11) (T := TX11) (N := 35) hx hb hts iX11 tyX11 tyX11_ok nmX11 hown hK hP hD hS 0 rfl rfl 25 (by decide) k104 (fun _ h9 => h9) rfl (by decide +kernel) rfl rfl (Nat.le_of_ble_eq_true rfl) dX11_next_165 (fun H locs hP hD hS => ?_)
          have hP : va_P D vwCl (mdW Y cI m_thrown m_status m_isThere m_kinds m_newKinds m_print m_low m_high m_lot m_taped m_latest m_length u_17 y_18 u_5 m_till m_fault m_faultAt m_traced r_lane r_many r_item r_market r_of r_newMarket r_newStart r_newOf r_newCoin r_state r_kept r_tape r_brings r_seen r_seenOut r_trace ++ R) H := hP
          have hD : va_D A (mdW Y cI m_thrown m_status m_isThere m_kinds m_newKinds m_print m_low m_high m_lot m_taped m_latest m_length u_17 y_18 u_5 m_till m_fault m_faultAt m_traced r_lane r_many r_item r_market r_of r_newMarket r_newStart r_newOf r_newCoin r_state r_kept r_tape r_brings r_seen r_seenOut r_trace ++ R) := hD
          refine lv_goto (tgt := 196) hx hb dX11_next_168 (by decide) ?_
          refine lv_aload_n hx hb dX11_next_196 rfl (lv_at hl 0 rfl) ?_
          refine lv_aload_n hx hb dX11_next_197 rfl (lv_at hl 0 rfl) ?_
          refine va_get (D := D) (ci := 9) (v := .int u_17) (C := RX11) (T := TX11) (N := 35) hx hb hts iX11 hown hK hP 0 rfl rfl 24 (by decide) k95 (fun _ h9 => h9) rfl dX11_next_198 ?_
          refine va_put (D := D) (ci := 9) (v := .int u_17) (ty := .int) (C := RX11) (T := TX11) (N := 35) hx hb hts iX11 tyX11 tyX11_ok nmX11 hown hK hP hD hS 0 rfl rfl 27 (by decide) k113 (fun _ h9 => h9) rfl (by decide +kernel) rfl rfl (Nat.le_of_ble_eq_true rfl) dX11_next_201 (fun H locs hP hD hS => ?_)
          have hP : va_P D vwCl (mdW Y cI m_thrown m_status m_isThere m_kinds m_newKinds m_print m_low m_high m_lot m_taped m_latest m_length u_17 y_18 u_5 u_17 m_fault m_faultAt m_traced r_lane r_many r_item r_market r_of r_newMarket r_newStart r_newOf r_newCoin r_state r_kept r_tape r_brings r_seen r_seenOut r_trace ++ R) H := hP
          have hD : va_D A (mdW Y cI m_thrown m_status m_isThere m_kinds m_newKinds m_print m_low m_high m_lot m_taped m_latest m_length u_17 y_18 u_5 u_17 m_fault m_faultAt m_traced r_lane r_many r_item r_market r_of r_newMarket r_newStart r_newOf r_newCoin r_state r_kept r_tape r_brings r_seen r_seenOut r_trace ++ R) := hD
          rw [hQm]
          exact mx_vret (u0 := sX11_next m_length m_cursor r_tape) (rv := (fun _ => none)) (w1 := (fun u => mdW Y cI m_thrown m_status m_isThere m_kinds m_newKinds m_print m_low m_high m_lot m_taped m_latest m_length u.1 u.2.1 u.2.2.1 u.2.2.2 m_fault m_faultAt m_traced r_lane r_many r_item r_market r_of r_newMarket r_newStart r_newOf r_newCoin r_state r_kept r_tape r_brings r_seen r_seenOut r_trace ++ R)) (u := (u_17, y_18, u_5, u_17)) hx hb hr hlocks hK hS (lt_eq eu_5 (lt_eq eu_6 ((if_neg c_7).trans (lt_eq eu_8 ((if_pos c_9).trans (lt_eq eu_10 ((if_neg c_11).trans (lt_eq eu_17 (lt_eq ey_18 rfl))))))))) hP hD rfl dX11_next_204
        refine lv_icmp_le (tgt := 164) hx hb dX11_next_157 (by decide) (fun c_19 => ?_) (fun c_19 => ?_)
        · have d_19 := i_le rfl (show (3 : Int32).toInt = 3 from by decide) c_19
          refine lv_iconst (v := 3) hx hb dX11_next_164 (by decide) ?_
          exact J_18 3 H locs ls (Eq.symm ((if_pos c_19).trans rfl)) hP hD hS (lv_sub hl [0] rfl)
        · have d_19 := i_len rfl (show (3 : Int32).toInt = 3 from by decide) c_19
          refine lv_iconst (v := 0) hx hb dX11_next_160 (by decide) ?_
          refine lv_goto (tgt := 165) hx hb dX11_next_161 (by decide) ?_
          exact J_18 0 H locs ls (Eq.symm ((if_neg c_19).trans rfl)) hP hD hS (lv_sub hl [0] rfl)
    · have d_9 := i_eqn rfl (show (0 : Int32).toInt = 0 from by decide) c_9
      have dt_9 := sX11_isLetter_t eu_8 c_9
      have L_77 : ∀ (n : Nat) (m_cursor_77 : Int32) (H : Heap) (locs : List Loc) (ls : Array Slot), 0 ≤ m_cursor_77.toInt → m_cursor_77.toInt ≤ 400 → (400 : Int) < m_cursor_77.toInt + ((n : Nat) : Int) → va_P D vwCl (mdW Y cI m_thrown m_status m_isThere m_kinds m_newKinds m_print m_low m_high m_lot m_taped m_latest m_length m_cursor_77 m_token u_5 m_till m_fault m_faultAt m_traced r_lane r_many r_item r_market r_of r_newMarket r_newStart r_newOf r_newCoin r_state r_kept r_tape r_brings r_seen r_seenOut r_trace ++ R) H → va_D A (mdW Y cI m_thrown m_status m_isThere m_kinds m_newKinds m_print m_low m_high m_lot m_taped m_latest m_length m_cursor_77 m_token u_5 m_till m_fault m_faultAt m_traced r_lane r_many r_item r_market r_of r_newMarket r_newStart r_newOf r_newCoin r_state r_kept r_tape r_brings r_seen r_seenOut r_trace ++ R) → va_S A s.heap H locs → lv_has ls 2 [(0, .ref (Y 0))] → (∀ (u : Int32) (H : Heap) (locs : List Loc) (ls : Array Slot), u = lX11_next_77 m_length r_tape n m_cursor_77 → (0 ≤ u.toInt) → (u.toInt ≤ 400) → va_P D vwCl (mdW Y cI m_thrown m_status m_isThere m_kinds m_newKinds m_print m_low m_high m_lot m_taped m_latest m_length u m_token u_5 m_till m_fault m_faultAt m_traced r_lane r_many r_item r_market r_of r_newMarket r_newStart r_newOf r_newCoin r_state r_kept r_tape r_brings r_seen r_seenOut r_trace ++ R) H → va_D A (mdW Y cI m_thrown m_status m_isThere m_kinds m_newKinds m_print m_low m_high m_lot m_taped m_latest m_length u m_token u_5 m_till m_fault m_faultAt m_traced r_lane r_many r_item r_market r_of r_newMarket r_newStart r_newOf r_newCoin r_state r_kept r_tape r_brings r_seen r_seenOut r_trace ++ R) → va_S A s.heap H locs → lv_has ls 2 [(0, .ref (Y 0))] → W p l e (rmX 2) s m ([.ref (Y 0)] : List Value).toArray below meth c H locs 0 0 Qm (F0 m 104 ls [])) → W p l e (rmX 2) s m ([.ref (Y 0)] : List Value).toArray below meth c H locs 0 0 Qm (F0 m 77 ls []) := by
        intro n
        induction n with
        | zero =>
          intro m_cursor_77 H locs ls iv_77_0 iv_77_1 iv_77_2 hP hD hS hl kont_77
          exfalso; omega
        | succ n ih_77 =>
          intro m_cursor_77 H locs ls iv_77_0 iv_77_1 iv_77_2 hP hD hS hl kont_77
          refine lv_aload_n hx hb dX11_next_77 rfl (lv_at hl 0 rfl) ?_
          refine lv_aload_n hx hb dX11_next_78 rfl (lv_at hl 0 rfl) ?_
          refine va_get (D := D) (ci := 9) (v := .int m_cursor_77) (C := RX11) (T := TX11) (N := 35) hx hb hts iX11 hown hK hP 0 rfl rfl 24 (by decide) k95 (fun _ h9 => h9) rfl dX11_next_79 ?_
          refine mx_callV (As := [.int m_cursor_77]) (rest := []) ⟨hx, hb, hml, hown, hts⟩ (mtX11_byteAt l D cI cB cK cS Y R m_thrown m_status m_isThere m_kinds m_newKinds m_print m_low m_high m_lot m_taped m_latest m_length m_cursor_77 m_token u_5 m_till m_fault m_faultAt m_traced r_lane r_many r_item r_market r_of r_newMarket r_newStart r_newOf r_newCoin r_state r_kept r_tape r_brings r_seen r_seenOut r_trace m_cursor_77 (by first | assumption | omega) (by first | assumption | omega)) (cwV 1 hts gX11_next_X11_byteAt rfl rfl rfl (by decide +kernel) ⟨Nat.le_of_ble_eq_true rfl, Nat.le_of_ble_eq_true rfl⟩) pF0_ok trivial hK hP hD hS hA 0 rfl rfl rfl rfl hl.1 rfl (Nat.le_of_ble_eq_true rfl) dX11_next_82 ⟨Nat.le_refl _, Nat.le_refl _⟩ (fun u_20 H locs eu_20 hP hD hS => ?_)
          refine W.eq (g2 := F0 m 85 ls [.int u_20]) rfl ?_
          have hP : va_P D vwCl (mdW Y cI m_thrown m_status m_isThere m_kinds m_newKinds m_print m_low m_high m_lot m_taped m_latest m_length m_cursor_77 m_token u_5 m_till m_fault m_faultAt m_traced r_lane r_many r_item r_market r_of r_newMarket r_newStart r_newOf r_newCoin r_state r_kept r_tape r_brings r_seen r_seenOut r_trace ++ R) H := hP
          have hD : va_D A (mdW Y cI m_thrown m_status m_isThere m_kinds m_newKinds m_print m_low m_high m_lot m_taped m_latest m_length m_cursor_77 m_token u_5 m_till m_fault m_faultAt m_traced r_lane r_many r_item r_market r_of r_newMarket r_newStart r_newOf r_newCoin r_state r_kept r_tape r_brings r_seen r_seenOut r_trace ++ R) := hD
          refine mx_callS (As := [.int u_20]) (rest := []) ⟨hx, hb, hml, hown, hts⟩ (mtX11_isLetter l D cI cB cK cS (mdW Y cI m_thrown m_status m_isThere m_kinds m_newKinds m_print m_low m_high m_lot m_taped m_latest m_length m_cursor_77 m_token u_5 m_till m_fault m_faultAt m_traced r_lane r_many r_item r_market r_of r_newMarket r_newStart r_newOf r_newCoin r_state r_kept r_tape r_brings r_seen r_seenOut r_trace ++ R) u_20) (va_cwS 1 hts gX11_next_X11_isLetter rfl rfl rfl (by decide +kernel) ⟨Nat.le_of_ble_eq_true rfl, Nat.le_of_ble_eq_true rfl⟩) pF0_ok trivial hK hP hD hS hA rfl hl.1 rfl (Nat.le_of_ble_eq_true rfl) dX11_next_85 ⟨Nat.le_refl _, Nat.le_refl _⟩ (fun u_21 H locs eu_21 hP hD hS => ?_)
          refine W.eq (g2 := F0 m 88 ls [.int u_21]) rfl ?_
          have hP : va_P D vwCl (mdW Y cI m_thrown m_status m_isThere m_kinds m_newKinds m_print m_low m_high m_lot m_taped m_latest m_length m_cursor_77 m_token u_5 m_till m_fault m_faultAt m_traced r_lane r_many r_item r_market r_of r_newMarket r_newStart r_newOf r_newCoin r_state r_kept r_tape r_brings r_seen r_seenOut r_trace ++ R) H := hP
          have hD : va_D A (mdW Y cI m_thrown m_status m_isThere m_kinds m_newKinds m_print m_low m_high m_lot m_taped m_latest m_length m_cursor_77 m_token u_5 m_till m_fault m_faultAt m_traced r_lane r_many r_item r_market r_of r_newMarket r_newStart r_newOf r_newCoin r_state r_kept r_tape r_brings r_seen r_seenOut r_trace ++ R) := hD
          refine lv_if_eq (tgt := 104) hx hb dX11_next_88 (by decide) (fun c_22 => ?_) (fun c_22 => ?_)
          · have d_22 := i_eq rfl (show (0 : Int32).toInt = 0 from by decide) c_22
            exact kont_77 m_cursor_77 H locs ls (show lX11_next_77 m_length r_tape (n + 1) m_cursor_77 = m_cursor_77 from (lt_eq eu_20 (lt_eq eu_21 ((if_pos c_22).trans rfl)))).symm (show 0 ≤ m_cursor_77.toInt from by omega) (show m_cursor_77.toInt ≤ 400 from by omega) hP hD hS (lv_sub hl [0] rfl)
          · have d_22 := i_eqn rfl (show (0 : Int32).toInt = 0 from by decide) c_22
            have dt_22 := sX11_isLetter_t eu_21 c_22
            have dlt := sX11_byteAt_lt eu_20 (by omega)
            refine lv_aload_n hx hb dX11_next_91 rfl (lv_at hl 0 rfl) ?_
            refine lv_dup hx hb dX11_next_92 rfl ?_
            refine va_get (D := D) (ci := 9) (v := .int m_cursor_77) (C := RX11) (T := TX11) (N := 35) hx hb hts iX11 hown hK hP 0 rfl rfl 24 (by decide) k95 (fun _ h9 => h9) rfl dX11_next_93 ?_
            refine lv_iconst (v := 1) hx hb dX11_next_96 (by decide) ?_
            refine lv_iadd hx hb dX11_next_97 ?_
            refine va_put (D := D) (ci := 9) (v := .int (m_cursor_77 + 1)) (ty := .int) (C := RX11) (T := TX11) (N := 35) hx hb hts iX11 tyX11 tyX11_ok nmX11 hown hK hP hD hS 0 rfl rfl 24 (by decide) k95 (fun _ h9 => h9) rfl (by decide +kernel) rfl rfl (Nat.le_of_ble_eq_true rfl) dX11_next_98 (fun H locs hP hD hS => ?_)
            have hP : va_P D vwCl (mdW Y cI m_thrown m_status m_isThere m_kinds m_newKinds m_print m_low m_high m_lot m_taped m_latest m_length (m_cursor_77 + 1) m_token u_5 m_till m_fault m_faultAt m_traced r_lane r_many r_item r_market r_of r_newMarket r_newStart r_newOf r_newCoin r_state r_kept r_tape r_brings r_seen r_seenOut r_trace ++ R) H := hP
            have hD : va_D A (mdW Y cI m_thrown m_status m_isThere m_kinds m_newKinds m_print m_low m_high m_lot m_taped m_latest m_length (m_cursor_77 + 1) m_token u_5 m_till m_fault m_faultAt m_traced r_lane r_many r_item r_market r_of r_newMarket r_newStart r_newOf r_newCoin r_state r_kept r_tape r_brings r_seen r_seenOut r_trace ++ R) := hD
            refine lv_goto (tgt := 77) hx hb dX11_next_101 (by decide) ?_
            have tf_c : (m_cursor_77 + 1).toInt = m_cursor_77.toInt + 1 := i_addv rfl (show (1 : Int32).toInt = 1 from by decide) (by omega) (by omega)
            refine ih_77 (m_cursor_77 + 1) H locs ls (by omega) (by omega) (by omega) hP hD hS (lv_sub hl [0] rfl) (fun u H locs ls eu pv_77_0 pv_77_1 hP hD hS hl => ?_)
            exact kont_77 u H locs ls (eu.trans (show lX11_next_77 m_length r_tape (n + 1) m_cursor_77 = lX11_next_77 m_length r_tape n (m_cursor_77 + 1) from (lt_eq eu_20 (lt_eq eu_21 ((if_neg c_22).trans rfl)))).symm) pv_77_0 pv_77_1 hP hD hS hl
      refine L_77 401 u_5 H locs ls (by omega) (by omega) (by omega) hP hD hS (lv_sub hl [1] rfl) (fun u_23 H locs ls eu_23 pv_77_0 pv_77_1 hP hD hS hl => ?_)
      have hP : va_P D vwCl (mdW Y cI m_thrown m_status m_isThere m_kinds m_newKinds m_print m_low m_high m_lot m_taped m_latest m_length u_23 m_token u_5 m_till m_fault m_faultAt m_traced r_lane r_many r_item r_market r_of r_newMarket r_newStart r_newOf r_newCoin r_state r_kept r_tape r_brings r_seen r_seenOut r_trace ++ R) H := hP
      have hD : va_D A (mdW Y cI m_thrown m_status m_isThere m_kinds m_newKinds m_print m_low m_high m_lot m_taped m_latest m_length u_23 m_token u_5 m_till m_fault m_faultAt m_traced r_lane r_many r_item r_market r_of r_newMarket r_newStart r_newOf r_newCoin r_state r_kept r_tape r_brings r_seen r_seenOut r_trace ++ R) := hD
      refine lv_aload_n hx hb dX11_next_104 rfl (lv_at hl 0 rfl) ?_
      refine lv_iconst (v := 2) hx hb dX11_next_105 (by decide) ?_
      refine va_put (D := D) (ci := 9) (v := .int 2) (ty := .int) (C := RX11) (T := TX11) (N := 35) hx hb hts iX11 tyX11 tyX11_ok nmX11 hown hK hP hD hS 0 rfl rfl 25 (by decide) k104 (fun _ h9 => h9) rfl (by decide +kernel) rfl rfl (Nat.le_of_ble_eq_true rfl) dX11_next_106 (fun H locs hP hD hS => ?_)
      have hP : va_P D vwCl (mdW Y cI m_thrown m_status m_isThere m_kinds m_newKinds m_print m_low m_high m_lot m_taped m_latest m_length u_23 2 u_5 m_till m_fault m_faultAt m_traced r_lane r_many r_item r_market r_of r_newMarket r_newStart r_newOf r_newCoin r_state r_kept r_tape r_brings r_seen r_seenOut r_trace ++ R) H := hP
      have hD : va_D A (mdW Y cI m_thrown m_status m_isThere m_kinds m_newKinds m_print m_low m_high m_lot m_taped m_latest m_length u_23 2 u_5 m_till m_fault m_faultAt m_traced r_lane r_many r_item r_market r_of r_newMarket r_newStart r_newOf r_newCoin r_state r_kept r_tape r_brings r_seen r_seenOut r_trace ++ R) := hD
      refine lv_goto (tgt := 196) hx hb dX11_next_109 (by decide) ?_
      refine lv_aload_n hx hb dX11_next_196 rfl (lv_at hl 0 rfl) ?_
      refine lv_aload_n hx hb dX11_next_197 rfl (lv_at hl 0 rfl) ?_
      refine va_get (D := D) (ci := 9) (v := .int u_23) (C := RX11) (T := TX11) (N := 35) hx hb hts iX11 hown hK hP 0 rfl rfl 24 (by decide) k95 (fun _ h9 => h9) rfl dX11_next_198 ?_
      refine va_put (D := D) (ci := 9) (v := .int u_23) (ty := .int) (C := RX11) (T := TX11) (N := 35) hx hb hts iX11 tyX11 tyX11_ok nmX11 hown hK hP hD hS 0 rfl rfl 27 (by decide) k113 (fun _ h9 => h9) rfl (by decide +kernel) rfl rfl (Nat.le_of_ble_eq_true rfl) dX11_next_201 (fun H locs hP hD hS => ?_)
      have hP : va_P D vwCl (mdW Y cI m_thrown m_status m_isThere m_kinds m_newKinds m_print m_low m_high m_lot m_taped m_latest m_length u_23 2 u_5 u_23 m_fault m_faultAt m_traced r_lane r_many r_item r_market r_of r_newMarket r_newStart r_newOf r_newCoin r_state r_kept r_tape r_brings r_seen r_seenOut r_trace ++ R) H := hP
      have hD : va_D A (mdW Y cI m_thrown m_status m_isThere m_kinds m_newKinds m_print m_low m_high m_lot m_taped m_latest m_length u_23 2 u_5 u_23 m_fault m_faultAt m_traced r_lane r_many r_item r_market r_of r_newMarket r_newStart r_newOf r_newCoin r_state r_kept r_tape r_brings r_seen r_seenOut r_trace ++ R) := hD
      rw [hQm]
      exact mx_vret (u0 := sX11_next m_length m_cursor r_tape) (rv := (fun _ => none)) (w1 := (fun u => mdW Y cI m_thrown m_status m_isThere m_kinds m_newKinds m_print m_low m_high m_lot m_taped m_latest m_length u.1 u.2.1 u.2.2.1 u.2.2.2 m_fault m_faultAt m_traced r_lane r_many r_item r_market r_of r_newMarket r_newStart r_newOf r_newCoin r_state r_kept r_tape r_brings r_seen r_seenOut r_trace ++ R)) (u := (u_23, 2, u_5, u_23)) hx hb hr hlocks hK hS (lt_eq eu_5 (lt_eq eu_6 ((if_neg c_7).trans (lt_eq eu_8 ((if_neg c_9).trans (lt_eq eu_23 rfl)))))) hP hD rfl dX11_next_204
  · have d_7 := i_eq rfl (show ((-1000000) : Int32).toInt = (-1000000) from by decide) c_7
    refine lv_aload_n hx hb dX11_next_62 rfl (lv_at hl 1 rfl) ?_
    refine lv_iconst (v := 1) hx hb dX11_next_63 (by decide) ?_
    refine va_put (D := D) (ci := 9) (v := .int 1) (ty := .int) (C := RX11) (T := TX11) (N := 35) hx hb hts iX11 tyX11 tyX11_ok nmX11 hown hK hP hD hS 0 rfl rfl 25 (by decide) k104 (fun _ h9 => h9) rfl (by decide +kernel) rfl rfl (Nat.le_of_ble_eq_true rfl) dX11_next_64 (fun H locs hP hD hS => ?_)
    have hP : va_P D vwCl (mdW Y cI m_thrown m_status m_isThere m_kinds m_newKinds m_print m_low m_high m_lot m_taped m_latest m_length u_5 1 u_5 m_till m_fault m_faultAt m_traced r_lane r_many r_item r_market r_of r_newMarket r_newStart r_newOf r_newCoin r_state r_kept r_tape r_brings r_seen r_seenOut r_trace ++ R) H := hP
    have hD : va_D A (mdW Y cI m_thrown m_status m_isThere m_kinds m_newKinds m_print m_low m_high m_lot m_taped m_latest m_length u_5 1 u_5 m_till m_fault m_faultAt m_traced r_lane r_many r_item r_market r_of r_newMarket r_newStart r_newOf r_newCoin r_state r_kept r_tape r_brings r_seen r_seenOut r_trace ++ R) := hD
    refine lv_goto (tgt := 196) hx hb dX11_next_67 (by decide) ?_
    refine lv_aload_n hx hb dX11_next_196 rfl (lv_at hl 1 rfl) ?_
    refine lv_aload_n hx hb dX11_next_197 rfl (lv_at hl 1 rfl) ?_
    refine va_get (D := D) (ci := 9) (v := .int u_5) (C := RX11) (T := TX11) (N := 35) hx hb hts iX11 hown hK hP 0 rfl rfl 24 (by decide) k95 (fun _ h9 => h9) rfl dX11_next_198 ?_
    refine va_put (D := D) (ci := 9) (v := .int u_5) (ty := .int) (C := RX11) (T := TX11) (N := 35) hx hb hts iX11 tyX11 tyX11_ok nmX11 hown hK hP hD hS 0 rfl rfl 27 (by decide) k113 (fun _ h9 => h9) rfl (by decide +kernel) rfl rfl (Nat.le_of_ble_eq_true rfl) dX11_next_201 (fun H locs hP hD hS => ?_)
    have hP : va_P D vwCl (mdW Y cI m_thrown m_status m_isThere m_kinds m_newKinds m_print m_low m_high m_lot m_taped m_latest m_length u_5 1 u_5 u_5 m_fault m_faultAt m_traced r_lane r_many r_item r_market r_of r_newMarket r_newStart r_newOf r_newCoin r_state r_kept r_tape r_brings r_seen r_seenOut r_trace ++ R) H := hP
    have hD : va_D A (mdW Y cI m_thrown m_status m_isThere m_kinds m_newKinds m_print m_low m_high m_lot m_taped m_latest m_length u_5 1 u_5 u_5 m_fault m_faultAt m_traced r_lane r_many r_item r_market r_of r_newMarket r_newStart r_newOf r_newCoin r_state r_kept r_tape r_brings r_seen r_seenOut r_trace ++ R) := hD
    rw [hQm]
    exact mx_vret (u0 := sX11_next m_length m_cursor r_tape) (rv := (fun _ => none)) (w1 := (fun u => mdW Y cI m_thrown m_status m_isThere m_kinds m_newKinds m_print m_low m_high m_lot m_taped m_latest m_length u.1 u.2.1 u.2.2.1 u.2.2.2 m_fault m_faultAt m_traced r_lane r_many r_item r_market r_of r_newMarket r_newStart r_newOf r_newCoin r_state r_kept r_tape r_brings r_seen r_seenOut r_trace ++ R)) (u := (u_5, 1, u_5, u_5)) hx hb hr hlocks hK hS (lt_eq eu_5 (lt_eq eu_6 ((if_pos c_7).trans rfl))) hP hD rfl dX11_next_204
