theorem cu_inc {cu len : Int32} (h : 0 ≤ cu.toInt ∧ cu.toInt ≤ 400) (hl : len.toInt ≤ 400) (hlt : cu.toInt < len.toInt) : 0 ≤ (cu + 1).toInt ∧ (cu + 1).toInt ≤ 400 := by
  rw [i_addv (a := cu) rfl (show (1 : Int32).toInt = 1 from by decide) (by omega) (by omega)]
  omega
def cu_ok (cu : Int32) : Prop := 0 ≤ cu.toInt ∧ cu.toInt ≤ 400
theorem lX11_next_0_ok {len : Int32} {tape : Nat → Int32} (hl : len.toInt ≤ 400) : ∀ (n : Nat) (cu : Int32), cu_ok cu → cu_ok (lX11_next_0 len tape n cu) := by
  intro n
  induction n with
  | zero => intro cu h; exact h
  | succ n ih =>
    intro cu h
    unfold lX11_next_0
    refine lt_P (fun u => u = sX11_byteAt cu len tape) cu_ok rfl (fun u hu => ?_)
    refine if_P cu_ok (fun c => ?_) (fun _ => ?_)
    · exact ih _ (cu_inc h hl (sX11_byteAt_lt hu (by rw [c]; decide)))
    · refine lt_P (fun u => u = sX11_byteAt cu len tape) cu_ok rfl (fun u hu => ?_)
      refine if_P cu_ok (fun c => ?_) (fun _ => h)
      exact ih _ (cu_inc h hl (sX11_byteAt_lt hu (by rw [c]; decide)))
theorem lX11_next_77_ok {len : Int32} {tape : Nat → Int32} (hl : len.toInt ≤ 400) : ∀ (n : Nat) (cu : Int32), cu_ok cu → cu_ok (lX11_next_77 len tape n cu) := by
  intro n
  induction n with
  | zero => intro cu h; exact h
  | succ n ih =>
    intro cu h
    unfold lX11_next_77
    refine lt_P (fun u => u = sX11_byteAt cu len tape) cu_ok rfl (fun u hu => ?_)
    refine lt_P (fun w => w = sX11_isLetter u) cu_ok rfl (fun w hw => ?_)
    refine if_P cu_ok (fun _ => h) (fun c => ?_)
    have := sX11_isLetter_t hw c
    exact ih _ (cu_inc h hl (sX11_byteAt_lt hu (by omega)))
theorem lX11_next_119_ok {len : Int32} {tape : Nat → Int32} (hl : len.toInt ≤ 400) : ∀ (n : Nat) (cu : Int32), cu_ok cu → cu_ok (lX11_next_119 len tape n cu) := by
  intro n
  induction n with
  | zero => intro cu h; exact h
  | succ n ih =>
    intro cu h
    unfold lX11_next_119
    refine lt_P (fun u => u = sX11_byteAt cu len tape) cu_ok rfl (fun u hu => ?_)
    refine lt_P (fun w => w = sX11_isFigure u) cu_ok rfl (fun w hw => ?_)
    refine if_P cu_ok (fun _ => h) (fun c => ?_)
    have := sX11_isFigure_t hw c
    exact ih _ (cu_inc h hl (sX11_byteAt_lt hu (by omega)))
theorem sX11_next_ok {len cu fr ti : Int32} {tape : Nat → Int32} {u : Int32 × Int32 × Int32 × Int32} (hl : len.toInt ≤ 400) (h : rd_ok cu fr ti) (e : u = sX11_next len cu tape) : rd_ok u.1 u.2.2.1 u.2.2.2 := by
  subst e
  unfold sX11_next
  refine lt_P cu_ok (fun u : Int32 × Int32 × Int32 × Int32 => rd_ok u.1 u.2.2.1 u.2.2.2) (lX11_next_0_ok hl _ _ h.1) (fun c1 h1 => ?_)
  refine lt_P (fun u => u = sX11_byteAt c1 len tape) (fun u : Int32 × Int32 × Int32 × Int32 => rd_ok u.1 u.2.2.1 u.2.2.2) rfl (fun b hb => ?_)
  refine if_P (fun u : Int32 × Int32 × Int32 × Int32 => rd_ok u.1 u.2.2.1 u.2.2.2) (fun _ => ⟨h1, h1, h1⟩) (fun c => ?_)
  have hlt : c1.toInt < len.toInt := sX11_byteAt_lt hb (i_eqn rfl (show (-1000000 : Int32).toInt = -1000000 from by decide) c)
  have hi := cu_inc h1 hl hlt
  refine if_P (fun u : Int32 × Int32 × Int32 × Int32 => rd_ok u.1 u.2.2.1 u.2.2.2) (fun _ => ?_) (fun _ => ?_)
  · refine if_P (fun u : Int32 × Int32 × Int32 × Int32 => rd_ok u.1 u.2.2.1 u.2.2.2) (fun _ => ⟨hi, h1, hi⟩) (fun _ => ?_)
    exact ⟨lX11_next_119_ok hl _ _ h1, h1, lX11_next_119_ok hl _ _ h1⟩
  · exact ⟨lX11_next_77_ok hl _ _ h1, h1, lX11_next_77_ok hl _ _ h1⟩
def sX11_must (b : Int32) (m_length : Int32) (m_cursor : Int32) (m_token : Int32) (m_from : Int32) (m_till : Int32) (m_fault : Int32) (m_faultAt : Int32) (r_tape : Nat → Int32) : (Int32) × (Int32) × (Int32) × (Int32) × (Int32) × (Int32) := lt (if b = 0 then (lt (sX11_bad 1 m_from m_fault m_faultAt) (fun u_3 : (Int32) × (Int32) => (u_3.1, u_3.2))) else ((m_fault, m_faultAt))) (fun y_1 : Int32 × Int32 => if y_1.1 = 0 then (lt (sX11_next m_length m_cursor r_tape) (fun u_5 : (Int32) × (Int32) × (Int32) × (Int32) => (u_5.1, u_5.2.1, u_5.2.2.1, u_5.2.2.2, y_1.1, y_1.2))) else ((m_cursor, m_token, m_from, m_till, y_1.1, y_1.2)))
set_option maxHeartbeats 4000000 in
set_option maxRecDepth 100000 in
theorem mtX11_must (l : Launch) (D : va_G) (cI cB cK cS : ClassId) (Y : Nat → Nat) (R : va_W) (m_thrown : Int32) (m_status : Int32) (m_isThere : Int32) (m_kinds : Int32) (m_newKinds : Int32) (m_print : Int32) (m_low : Int32) (m_high : Int32) (m_lot : Int32) (m_taped : Int32) (m_latest : Int32) (m_length : Int32) (m_cursor : Int32) (m_token : Int32) (m_from : Int32) (m_till : Int32) (m_fault : Int32) (m_faultAt : Int32) (m_traced : Int32) (r_lane : Nat → Int32) (r_many : Nat → Int32) (r_item : Nat → Int32) (r_market : Nat → Int32) (r_of : Nat → Int32) (r_newMarket : Nat → Int32) (r_newStart : Nat → Int32) (r_newOf : Nat → Int32) (r_newCoin : Nat → Int32) (r_state : Nat → Int32) (r_kept : Nat → Int32) (r_tape : Nat → Int32) (r_brings : Nat → Int32) (r_seen : Nat → Int32) (r_seenOut : Nat → Int32) (r_trace : Nat → Int32) (b : Int32) (hln : m_length.toInt ≤ 400) (hrd : rd_ok m_cursor m_from m_till) : MX l yX11_must wsX11_must (rmX 3) D (tyX cI cB cK cS) pF0 (mdW Y cI m_thrown m_status m_isThere m_kinds m_newKinds m_print m_low m_high m_lot m_taped m_latest m_length m_cursor m_token m_from m_till m_fault m_faultAt m_traced r_lane r_many r_item r_market r_of r_newMarket r_newStart r_newOf r_newCoin r_state r_kept r_tape r_brings r_seen r_seenOut r_trace ++ R) [.ref (Y 0), .int b] (sX11_must b m_length m_cursor m_token m_from m_till m_fault m_faultAt r_tape) (fun _ => none) (fun u => mdW Y cI m_thrown m_status m_isThere m_kinds m_newKinds m_print m_low m_high m_lot m_taped m_latest m_length u.1 u.2.1 u.2.2.1 u.2.2.2.1 u.2.2.2.2.1 u.2.2.2.2.2 m_traced r_lane r_many r_item r_market r_of r_newMarket r_newStart r_newOf r_newCoin r_state r_kept r_tape r_brings r_seen r_seenOut r_trace ++ R) := by
  refine mx_intro (cc := cX11_must) (maxL := 2) (ret := none) (by decide) rfl (Nat.le_of_ble_eq_true rfl) ?_
  intro p e s m below meth c A ls H locs Qm hQm hx hb hr hml hts hown hlocks hA hS hP hK hD hF hl
  have hown : s.vm.findClass RX11 = some m.cls := hown
  have hl : lv_has ls 2 [(0, .ref (Y 0)), (1, .int b)] := hl
  obtain ⟨⟨hc0, hc1⟩, ⟨hf0, hf1⟩, ⟨ht0, ht1⟩⟩ := id hrd
  have k116 := hts (.fieldLink RX11 116 "PigRoundsModel" "fault" "I") (by decide +kernel)
  have iX11 : ∀ w ∈ u_ws RX11 TX11 35, w ∈ wsX11_must := by decide +kernel
  refine lv_iload_n hx hb dX11_must_0 rfl (lv_at hl 1 rfl) ?_
  have J_1 : ∀ (y_1 : Int32 × Int32) (H : Heap) (locs : List Loc) (ls : Array Slot), y_1 = (if b = 0 then (lt (sX11_bad 1 m_from m_fault m_faultAt) (fun u_3 : (Int32) × (Int32) => (u_3.1, u_3.2))) else ((m_fault, m_faultAt))) → va_P D vwCl (mdW Y cI m_thrown m_status m_isThere m_kinds m_newKinds m_print m_low m_high m_lot m_taped m_latest m_length m_cursor m_token m_from m_till y_1.1 y_1.2 m_traced r_lane r_many r_item r_market r_of r_newMarket r_newStart r_newOf r_newCoin r_state r_kept r_tape r_brings r_seen r_seenOut r_trace ++ R) H → va_D A (mdW Y cI m_thrown m_status m_isThere m_kinds m_newKinds m_print m_low m_high m_lot m_taped m_latest m_length m_cursor m_token m_from m_till y_1.1 y_1.2 m_traced r_lane r_many r_item r_market r_of r_newMarket r_newStart r_newOf r_newCoin r_state r_kept r_tape r_brings r_seen r_seenOut r_trace ++ R) → va_S A s.heap H locs → lv_has ls 2 [(0, .ref (Y 0))] → W p l e (rmX 3) s m ([.ref (Y 0), .int b] : List Value).toArray below meth c H locs 0 0 Qm (F0 m 9 ls []) := by
    intro y_1 H locs ls ey_1 hP hD hS hl
    refine lv_aload_n hx hb dX11_must_9 rfl (lv_at hl 0 rfl) ?_
    refine va_get (D := D) (ci := 9) (v := .int y_1.1) (C := RX11) (T := TX11) (N := 35) hx hb hts iX11 hown hK hP 0 rfl rfl 28 (by decide) k116 (fun _ h9 => h9) rfl dX11_must_10 ?_
    refine lv_if_ne (tgt := 20) hx hb dX11_must_13 (by decide) (fun c_4 => ?_) (fun c_4 => ?_)
    · have d_4 := i_eqn rfl (show (0 : Int32).toInt = 0 from by decide) c_4
      rw [hQm]
      exact mx_vret (u0 := sX11_must b m_length m_cursor m_token m_from m_till m_fault m_faultAt r_tape) (rv := (fun _ => none)) (w1 := (fun u => mdW Y cI m_thrown m_status m_isThere m_kinds m_newKinds m_print m_low m_high m_lot m_taped m_latest m_length u.1 u.2.1 u.2.2.1 u.2.2.2.1 u.2.2.2.2.1 u.2.2.2.2.2 m_traced r_lane r_many r_item r_market r_of r_newMarket r_newStart r_newOf r_newCoin r_state r_kept r_tape r_brings r_seen r_seenOut r_trace ++ R)) (u := (m_cursor, m_token, m_from, m_till, y_1.1, y_1.2)) hx hb hr hlocks hK hS (lt_eq ey_1 ((if_neg c_4).trans rfl)) hP hD rfl dX11_must_20
    · have d_4 := i_eq rfl (show (0 : Int32).toInt = 0 from by decide) c_4
      refine lv_aload_n hx hb dX11_must_16 rfl (lv_at hl 0 rfl) ?_
      refine mx_callV (As := []) (rest := []) ⟨hx, hb, hml, hown, hts⟩ (mtX11_next l D cI cB cK cS Y R m_thrown m_status m_isThere m_kinds m_newKinds m_print m_low m_high m_lot m_taped m_latest m_length m_cursor m_token m_from m_till y_1.1 y_1.2 m_traced r_lane r_many r_item r_market r_of r_newMarket r_newStart r_newOf r_newCoin r_state r_kept r_tape r_brings r_seen r_seenOut r_trace (by assumption) (by assumption)) (cwV 0 hts gX11_must_X11_next rfl rfl rfl (by decide +kernel) ⟨Nat.le_of_ble_eq_true rfl, Nat.le_of_ble_eq_true rfl⟩) pF0_ok trivial hK hP hD hS hA 0 rfl rfl rfl rfl hl.1 rfl (Nat.le_of_ble_eq_true rfl) dX11_must_17 ⟨Nat.le_refl _, Nat.le_refl _⟩ (fun u_5 H locs eu_5 hP hD hS => ?_)
      refine W.eq (g2 := F0 m 20 ls []) rfl ?_
      have hP : va_P D vwCl (mdW Y cI m_thrown m_status m_isThere m_kinds m_newKinds m_print m_low m_high m_lot m_taped m_latest m_length u_5.1 u_5.2.1 u_5.2.2.1 u_5.2.2.2 y_1.1 y_1.2 m_traced r_lane r_many r_item r_market r_of r_newMarket r_newStart r_newOf r_newCoin r_state r_kept r_tape r_brings r_seen r_seenOut r_trace ++ R) H := hP
      have hD : va_D A (mdW Y cI m_thrown m_status m_isThere m_kinds m_newKinds m_print m_low m_high m_lot m_taped m_latest m_length u_5.1 u_5.2.1 u_5.2.2.1 u_5.2.2.2 y_1.1 y_1.2 m_traced r_lane r_many r_item r_market r_of r_newMarket r_newStart r_newOf r_newCoin r_state r_kept r_tape r_brings r_seen r_seenOut r_trace ++ R) := hD
      have hrd_u_5 := sX11_next_ok (by assumption) (by assumption) eu_5
      rw [hQm]
      exact mx_vret (u0 := sX11_must b m_length m_cursor m_token m_from m_till m_fault m_faultAt r_tape) (rv := (fun _ => none)) (w1 := (fun u => mdW Y cI m_thrown m_status m_isThere m_kinds m_newKinds m_print m_low m_high m_lot m_taped m_latest m_length u.1 u.2.1 u.2.2.1 u.2.2.2.1 u.2.2.2.2.1 u.2.2.2.2.2 m_traced r_lane r_many r_item r_market r_of r_newMarket r_newStart r_newOf r_newCoin r_state r_kept r_tape r_brings r_seen r_seenOut r_trace ++ R)) (u := (u_5.1, u_5.2.1, u_5.2.2.1, u_5.2.2.2, y_1.1, y_1.2)) hx hb hr hlocks hK hS (lt_eq ey_1 ((if_pos c_4).trans (lt_eq eu_5 rfl))) hP hD rfl dX11_must_20
  refine lv_if_ne (tgt := 9) hx hb dX11_must_1 (by decide) (fun c_2 => ?_) (fun c_2 => ?_)
  · have d_2 := i_eqn rfl (show (0 : Int32).toInt = 0 from by decide) c_2
    exact J_1 (m_fault, m_faultAt) H locs ls (Eq.symm ((if_neg c_2).trans rfl)) hP hD hS (lv_sub hl [0] rfl)
  · have d_2 := i_eq rfl (show (0 : Int32).toInt = 0 from by decide) c_2
    refine lv_aload_n hx hb dX11_must_4 rfl (lv_at hl 0 rfl) ?_
    refine lv_iconst (v := 1) hx hb dX11_must_5 (by decide) ?_
    refine mx_callV (As := [.int 1]) (rest := []) ⟨hx, hb, hml, hown, hts⟩ (mtX11_bad l D cI cB cK cS Y R m_thrown m_status m_isThere m_kinds m_newKinds m_print m_low m_high m_lot m_taped m_latest m_length m_cursor m_token m_from m_till m_fault m_faultAt m_traced r_lane r_many r_item r_market r_of r_newMarket r_newStart r_newOf r_newCoin r_state r_kept r_tape r_brings r_seen r_seenOut r_trace 1) (cwV 1 hts gX11_must_X11_bad rfl rfl rfl (by decide +kernel) ⟨Nat.le_of_ble_eq_true rfl, Nat.le_of_ble_eq_true rfl⟩) pF0_ok trivial hK hP hD hS hA 0 rfl rfl rfl rfl hl.1 rfl (Nat.le_of_ble_eq_true rfl) dX11_must_6 ⟨Nat.le_refl _, Nat.le_refl _⟩ (fun u_3 H locs eu_3 hP hD hS => ?_)
    refine W.eq (g2 := F0 m 9 ls []) rfl ?_
    have hP : va_P D vwCl (mdW Y cI m_thrown m_status m_isThere m_kinds m_newKinds m_print m_low m_high m_lot m_taped m_latest m_length m_cursor m_token m_from m_till u_3.1 u_3.2 m_traced r_lane r_many r_item r_market r_of r_newMarket r_newStart r_newOf r_newCoin r_state r_kept r_tape r_brings r_seen r_seenOut r_trace ++ R) H := hP
    have hD : va_D A (mdW Y cI m_thrown m_status m_isThere m_kinds m_newKinds m_print m_low m_high m_lot m_taped m_latest m_length m_cursor m_token m_from m_till u_3.1 u_3.2 m_traced r_lane r_many r_item r_market r_of r_newMarket r_newStart r_newOf r_newCoin r_state r_kept r_tape r_brings r_seen r_seenOut r_trace ++ R) := hD
    exact J_1 (u_3.1, u_3.2) H locs ls (Eq.symm ((if_pos c_2).trans (lt_eq eu_3 rfl))) hP hD hS (lv_sub hl [0] rfl)
theorem sX11_must_ok {b len cu tk fr ti fa at9 : Int32} {tape : Nat → Int32} {u : Int32 × Int32 × Int32 × Int32 × Int32 × Int32} (hl : len.toInt ≤ 400) (h : rd_ok cu fr ti) (e : u = sX11_must b len cu tk fr ti fa at9 tape) : rd_ok u.1 u.2.2.1 u.2.2.2.1 := by
  subst e
  unfold sX11_must
  refine lt_P (fun _ => True) (fun u : Int32 × Int32 × Int32 × Int32 × Int32 × Int32 => rd_ok u.1 u.2.2.1 u.2.2.2.1) trivial (fun y _ => ?_)
  exact if_P (fun u : Int32 × Int32 × Int32 × Int32 × Int32 × Int32 => rd_ok u.1 u.2.2.1 u.2.2.2.1) (fun _ => sX11_next_ok hl h rfl) (fun _ => h)
def lX11_word_7 (m_token : Int32) (m_from : Int32) (m_till : Int32) (r_tape : Nat → Int32) : Nat → Int32 → Int64 → Int32 × Int64
  | 0, x3_7, x1_7 => (x3_7, x1_7)
  | n + 1, x3_7, x1_7 => if m_till ≤ x3_7 then ((x3_7, x1_7)) else (if m_token = 2 then (if 9 ≤ (m_till - m_from) then ((x3_7, x1_7)) else (lt ((x1_7 <<< ((8 : Int32).toInt64 &&& 63)) ||| ((r_tape x3_7.toNatClampNeg).toInt64)) (fun x_5 : Int64 => lt (x3_7 + 1) (fun x_6 : Int32 => lX11_word_7 m_token m_from m_till r_tape n x_6 x_5)))) else ((x3_7, x1_7)))

def sX11_word (m_token : Int32) (m_from : Int32) (m_till : Int32) (m_fault : Int32) (r_tape : Nat → Int32) : Int64 := lt (lX11_word_7 m_token m_from m_till r_tape 401 m_from 0) (fun u_7 : Int32 × Int64 => if m_fault = 0 then ((u_7.2)) else ((0)))
set_option maxHeartbeats 4000000 in
set_option maxRecDepth 100000 in
theorem mtX11_word (l : Launch) (D : va_G) (cI cB cK cS : ClassId) (Y : Nat → Nat) (R : va_W) (m_thrown : Int32) (m_status : Int32) (m_isThere : Int32) (m_kinds : Int32) (m_newKinds : Int32) (m_print : Int32) (m_low : Int32) (m_high : Int32) (m_lot : Int32) (m_taped : Int32) (m_latest : Int32) (m_length : Int32) (m_cursor : Int32) (m_token : Int32) (m_from : Int32) (m_till : Int32) (m_fault : Int32) (m_faultAt : Int32) (m_traced : Int32) (r_lane : Nat → Int32) (r_many : Nat → Int32) (r_item : Nat → Int32) (r_market : Nat → Int32) (r_of : Nat → Int32) (r_newMarket : Nat → Int32) (r_newStart : Nat → Int32) (r_newOf : Nat → Int32) (r_newCoin : Nat → Int32) (r_state : Nat → Int32) (r_kept : Nat → Int32) (r_tape : Nat → Int32) (r_brings : Nat → Int32) (r_seen : Nat → Int32) (r_seenOut : Nat → Int32) (r_trace : Nat → Int32) (hrd : rd_ok m_cursor m_from m_till) : MX l yX11_word wsX11_word (rmX 1) D (tyX cI cB cK cS) pF0 (mdW Y cI m_thrown m_status m_isThere m_kinds m_newKinds m_print m_low m_high m_lot m_taped m_latest m_length m_cursor m_token m_from m_till m_fault m_faultAt m_traced r_lane r_many r_item r_market r_of r_newMarket r_newStart r_newOf r_newCoin r_state r_kept r_tape r_brings r_seen r_seenOut r_trace ++ R) [.ref (Y 0)] (sX11_word m_token m_from m_till m_fault r_tape) (fun u => some (.long u)) (fun _ => mdW Y cI m_thrown m_status m_isThere m_kinds m_newKinds m_print m_low m_high m_lot m_taped m_latest m_length m_cursor m_token m_from m_till m_fault m_faultAt m_traced r_lane r_many r_item r_market r_of r_newMarket r_newStart r_newOf r_newCoin r_state r_kept r_tape r_brings r_seen r_seenOut r_trace ++ R) := by
  refine mx_intro (cc := cX11_word) (maxL := 4) (ret := (some .long)) (by decide) rfl (Nat.le_of_ble_eq_true rfl) ?_
  intro p e s m below meth c A ls H locs Qm hQm hx hb hr hml hts hown hlocks hA hS hP hK hD hF hl
  have hown : s.vm.findClass RX11 = some m.cls := hown
  have hl : lv_has ls 4 [(0, .ref (Y 0))] := hl
  obtain ⟨⟨hc0, hc1⟩, ⟨hf0, hf1⟩, ⟨ht0, ht1⟩⟩ := id hrd
  have k101 := hts (.fieldLink RX11 101 "PigRoundsModel" "from" "I") (by decide +kernel)
  have k113 := hts (.fieldLink RX11 113 "PigRoundsModel" "till" "I") (by decide +kernel)
  have k104 := hts (.fieldLink RX11 104 "PigRoundsModel" "token" "I") (by decide +kernel)
  have k43 := hts (.fieldLink RX11 43 "PigRoundsModel" "tape" "[I") (by decide +kernel)
  have k116 := hts (.fieldLink RX11 116 "PigRoundsModel" "fault" "I") (by decide +kernel)
  have iX11 : ∀ w ∈ u_ws RX11 TX11 35, w ∈ wsX11_word := by decide +kernel
  refine lv_lconst (v := 0) hx hb dX11_word_0 (by decide) ?_
  refine lv_lstore_n (lv' := [(1, .long 0), (0, .ref (Y 0))]) hx hb dX11_word_1 rfl hl (by decide) rfl (fun ls hl => ?_)
  refine lv_aload_n hx hb dX11_word_2 rfl (lv_at hl 1 rfl) ?_
  refine va_get (D := D) (ci := 9) (v := .int m_from) (C := RX11) (T := TX11) (N := 35) hx hb hts iX11 hown hK hP 0 rfl rfl 26 (by decide) k101 (fun _ h9 => h9) rfl dX11_word_3 ?_
  refine lv_istore_n (lv' := [(3, .int m_from), (1, .long 0), (0, .ref (Y 0))]) hx hb dX11_word_6 rfl hl (by decide) rfl (fun ls hl => ?_)
  have L_7 : ∀ (n : Nat) (x3_7 : Int32) (x1_7 : Int64) (H : Heap) (locs : List Loc) (ls : Array Slot), 0 ≤ x3_7.toInt → x3_7.toInt ≤ 400 → (400 : Int) < x3_7.toInt + ((n : Nat) : Int) → va_P D vwCl (mdW Y cI m_thrown m_status m_isThere m_kinds m_newKinds m_print m_low m_high m_lot m_taped m_latest m_length m_cursor m_token m_from m_till m_fault m_faultAt m_traced r_lane r_many r_item r_market r_of r_newMarket r_newStart r_newOf r_newCoin r_state r_kept r_tape r_brings r_seen r_seenOut r_trace ++ R) H → va_D A (mdW Y cI m_thrown m_status m_isThere m_kinds m_newKinds m_print m_low m_high m_lot m_taped m_latest m_length m_cursor m_token m_from m_till m_fault m_faultAt m_traced r_lane r_many r_item r_market r_of r_newMarket r_newStart r_newOf r_newCoin r_state r_kept r_tape r_brings r_seen r_seenOut r_trace ++ R) → va_S A s.heap H locs → lv_has ls 4 [(3, .int x3_7), (1, .long x1_7), (0, .ref (Y 0))] → (∀ (u : Int32 × Int64) (H : Heap) (locs : List Loc) (ls : Array Slot), u = lX11_word_7 m_token m_from m_till r_tape n x3_7 x1_7 → va_P D vwCl (mdW Y cI m_thrown m_status m_isThere m_kinds m_newKinds m_print m_low m_high m_lot m_taped m_latest m_length m_cursor m_token m_from m_till m_fault m_faultAt m_traced r_lane r_many r_item r_market r_of r_newMarket r_newStart r_newOf r_newCoin r_state r_kept r_tape r_brings r_seen r_seenOut r_trace ++ R) H → va_D A (mdW Y cI m_thrown m_status m_isThere m_kinds m_newKinds m_print m_low m_high m_lot m_taped m_latest m_length m_cursor m_token m_from m_till m_fault m_faultAt m_traced r_lane r_many r_item r_market r_of r_newMarket r_newStart r_newOf r_newCoin r_state r_kept r_tape r_brings r_seen r_seenOut r_trace ++ R) → va_S A s.heap H locs → lv_has ls 4 [(1, .long u.2), (0, .ref (Y 0))] → W p l e (rmX 1) s m ([.ref (Y 0)] : List Value).toArray below meth c H locs 0 0 Qm (F0 m 56 ls [])) → W p l e (rmX 1) s m ([.ref (Y 0)] : List Value).toArray below meth c H locs 0 0 Qm (F0 m 7 ls []) := by
    intro n
    induction n with
    | zero =>
      intro x3_7 x1_7 H locs ls iv_7_0 iv_7_1 iv_7_2 hP hD hS hl kont_7
      exfalso; omega
    | succ n ih_7 =>
      intro x3_7 x1_7 H locs ls iv_7_0 iv_7_1 iv_7_2 hP hD hS hl kont_7
      refine lv_iload_n hx hb dX11_word_7 rfl (lv_at hl 0 rfl) ?_
      refine lv_aload_n hx hb dX11_word_8 rfl (lv_at hl 2 rfl) ?_
      refine va_get (D := D) (ci := 9) (v := .int m_till) (C := RX11) (T := TX11) (N := 35) hx hb hts iX11 hown hK hP 0 rfl rfl 27 (by decide) k113 (fun _ h9 => h9) rfl dX11_word_9 ?_
      refine lv_icmp_ge (tgt := 56) hx hb dX11_word_12 (by decide) (fun c_1 => ?_) (fun c_1 => ?_)
      · have d_1 := i_le rfl rfl c_1
        exact kont_7 (x3_7, x1_7) H locs ls (show lX11_word_7 m_token m_from m_till r_tape (n + 1) x3_7 x1_7 = (x3_7, x1_7) from ((if_pos c_1).trans rfl)).symm  hP hD hS (lv_sub hl [1, 2] rfl)
      · have d_1 := i_len rfl rfl c_1
        refine lv_aload_n hx hb dX11_word_15 rfl (lv_at hl 2 rfl) ?_
        refine va_get (D := D) (ci := 9) (v := .int m_token) (C := RX11) (T := TX11) (N := 35) hx hb hts iX11 hown hK hP 0 rfl rfl 25 (by decide) k104 (fun _ h9 => h9) rfl dX11_word_16 ?_
        refine lv_iconst (v := 2) hx hb dX11_word_19 (by decide) ?_
        refine lv_icmp_ne (tgt := 56) hx hb dX11_word_20 (by decide) (fun c_2 => ?_) (fun c_2 => ?_)
        · have d_2 := i_eqn rfl (show (2 : Int32).toInt = 2 from by decide) c_2
          exact kont_7 (x3_7, x1_7) H locs ls (show lX11_word_7 m_token m_from m_till r_tape (n + 1) x3_7 x1_7 = (x3_7, x1_7) from ((if_neg c_1).trans ((if_neg c_2).trans rfl))).symm  hP hD hS (lv_sub hl [1, 2] rfl)
        · have d_2 := i_eq rfl (show (2 : Int32).toInt = 2 from by decide) c_2
          refine lv_aload_n hx hb dX11_word_23 rfl (lv_at hl 2 rfl) ?_
          refine va_get (D := D) (ci := 9) (v := .int m_till) (C := RX11) (T := TX11) (N := 35) hx hb hts iX11 hown hK hP 0 rfl rfl 27 (by decide) k113 (fun _ h9 => h9) rfl dX11_word_24 ?_
          refine lv_aload_n hx hb dX11_word_27 rfl (lv_at hl 2 rfl) ?_
          refine va_get (D := D) (ci := 9) (v := .int m_from) (C := RX11) (T := TX11) (N := 35) hx hb hts iX11 hown hK hP 0 rfl rfl 26 (by decide) k101 (fun _ h9 => h9) rfl dX11_word_28 ?_
          refine lv_isub hx hb dX11_word_31 ?_
          refine lv_bipush (v := 9) hx hb dX11_word_32 (by decide) ?_
          refine lv_icmp_ge (tgt := 56) hx hb dX11_word_34 (by decide) (fun c_3 => ?_) (fun c_3 => ?_)
          · have d_3 := i_le (show (9 : Int32).toInt = 9 from by decide) rfl c_3
            exact kont_7 (x3_7, x1_7) H locs ls (show lX11_word_7 m_token m_from m_till r_tape (n + 1) x3_7 x1_7 = (x3_7, x1_7) from ((if_neg c_1).trans ((if_pos c_2).trans ((if_pos c_3).trans rfl)))).symm  hP hD hS (lv_sub hl [1, 2] rfl)
          · have d_3 := i_len (show (9 : Int32).toInt = 9 from by decide) rfl c_3
            refine lv_lload_n hx hb dX11_word_37 rfl (lv_at hl 1 rfl) ?_
            refine lv_bipush (v := 8) hx hb dX11_word_38 (by decide) ?_
            refine lv_lshl (v := x1_7 <<< ((8 : Int32).toInt64 &&& 63)) hx hb dX11_word_40 rfl ?_
            refine lv_aload_n hx hb dX11_word_41 rfl (lv_at hl 2 rfl) ?_
            refine va_get (D := D) (ci := 9) (v := .ref (Y 20)) (C := RX11) (T := TX11) (N := 35) hx hb hts iX11 hown hK hP 0 rfl rfl 20 (by decide) k43 (fun _ h9 => h9) rfl dX11_word_42 ?_
            refine lv_iload_n hx hb dX11_word_45 rfl (lv_at hl 0 rfl) ?_
            have q_4 : vp_in x3_7 400 := vp_in_iff.mpr ⟨by omega, by omega⟩
            refine va_iald hx hb hK hP 12 0 rfl rfl q_4 dX11_word_46 ?_
            refine lv_i2l (v := (r_tape x3_7.toNatClampNeg).toInt64) hx hb dX11_word_47 rfl ?_
            refine lv_lor hx hb dX11_word_48 ?_
            refine lv_topl (fun x_5 ex_5 => ?_)
            refine lv_lstore_n (lv' := [(1, .long x_5), (3, .int x3_7), (0, .ref (Y 0))]) hx hb dX11_word_49 rfl hl (by decide) rfl (fun ls hl => ?_)
            obtain ⟨x_6, ex_6⟩ : ∃ z : Int32, z = x3_7 + 1 := ⟨_, rfl⟩
            refine lv_iinc (v := x_6) (lv' := [(3, .int x_6), (1, .long x_5), (0, .ref (Y 0))]) hx hb dX11_word_50 hl (k := 1) rfl (by rw [ex_6]; rfl) (by decide) rfl (fun ls hl => ?_)
            refine lv_goto (tgt := 7) hx hb dX11_word_53 (by decide) ?_
            have tx_6 : x_6.toInt = x3_7.toInt + 1 := i_inc ex_6 (by decide) (by omega) (by omega)
            refine ih_7 x_6 x_5 H locs ls (by omega) (by omega) (by omega) hP hD hS (lv_sub hl [0, 1, 2] rfl) (fun u H locs ls eu  hP hD hS hl => ?_)
            exact kont_7 u H locs ls (eu.trans (show lX11_word_7 m_token m_from m_till r_tape (n + 1) x3_7 x1_7 = lX11_word_7 m_token m_from m_till r_tape n x_6 x_5 from ((if_neg c_1).trans ((if_pos c_2).trans ((if_neg c_3).trans (lt_eq ex_5 (lt_eq ex_6 rfl)))))).symm)  hP hD hS hl
  refine L_7 401 m_from 0 H locs ls (by omega) (by omega) (by omega) hP hD hS (lv_sub hl [0, 1, 2] rfl) (fun u_7 H locs ls eu_7  hP hD hS hl => ?_)
  have hP : va_P D vwCl (mdW Y cI m_thrown m_status m_isThere m_kinds m_newKinds m_print m_low m_high m_lot m_taped m_latest m_length m_cursor m_token m_from m_till m_fault m_faultAt m_traced r_lane r_many r_item r_market r_of r_newMarket r_newStart r_newOf r_newCoin r_state r_kept r_tape r_brings r_seen r_seenOut r_trace ++ R) H := hP
  have hD : va_D A (mdW Y cI m_thrown m_status m_isThere m_kinds m_newKinds m_print m_low m_high m_lot m_taped m_latest m_length m_cursor m_token m_from m_till m_fault m_faultAt m_traced r_lane r_many r_item r_market r_of r_newMarket r_newStart r_newOf r_newCoin r_state r_kept r_tape r_brings r_seen r_seenOut r_trace ++ R) := hD
  refine lv_aload_n hx hb dX11_word_56 rfl (lv_at hl 1 rfl) ?_
  refine va_get (D := D) (ci := 9) (v := .int m_fault) (C := RX11) (T := TX11) (N := 35) hx hb hts iX11 hown hK hP 0 rfl rfl 28 (by decide) k116 (fun _ h9 => h9) rfl dX11_word_57 ?_
  refine lv_if_ne (tgt := 67) hx hb dX11_word_60 (by decide) (fun c_8 => ?_) (fun c_8 => ?_)
  · have d_8 := i_eqn rfl (show (0 : Int32).toInt = 0 from by decide) c_8
    refine lv_lconst (v := 0) hx hb dX11_word_67 (by decide) ?_
    rw [hQm]
    exact mx_lret (u0 := sX11_word m_token m_from m_till m_fault r_tape) (rv := (fun u => some (.long u))) (w1 := (fun _ => mdW Y cI m_thrown m_status m_isThere m_kinds m_newKinds m_print m_low m_high m_lot m_taped m_latest m_length m_cursor m_token m_from m_till m_fault m_faultAt m_traced r_lane r_many r_item r_market r_of r_newMarket r_newStart r_newOf r_newCoin r_state r_kept r_tape r_brings r_seen r_seenOut r_trace ++ R)) (u := (0)) hx hb hr hlocks hK hS (lt_eq eu_7 ((if_neg c_8).trans rfl)) hP hD rfl dX11_word_68
  · have d_8 := i_eq rfl (show (0 : Int32).toInt = 0 from by decide) c_8
    refine lv_lload_n hx hb dX11_word_63 rfl (lv_at hl 0 rfl) ?_
    refine lv_goto (tgt := 68) hx hb dX11_word_64 (by decide) ?_
    rw [hQm]
    exact mx_lret (u0 := sX11_word m_token m_from m_till m_fault r_tape) (rv := (fun u => some (.long u))) (w1 := (fun _ => mdW Y cI m_thrown m_status m_isThere m_kinds m_newKinds m_print m_low m_high m_lot m_taped m_latest m_length m_cursor m_token m_from m_till m_fault m_faultAt m_traced r_lane r_many r_item r_market r_of r_newMarket r_newStart r_newOf r_newCoin r_state r_kept r_tape r_brings r_seen r_seenOut r_trace ++ R)) (u := (u_7.2)) hx hb hr hlocks hK hS (lt_eq eu_7 ((if_pos c_8).trans rfl)) hP hD rfl dX11_word_68

def lX11_numberIn_17 (m_token : Int32) (m_till : Int32) (r_tape : Nat → Int32) : Nat → Int32 → Int32 → Int32 × Int32
  | 0, x4_17, x3_17 => (x4_17, x3_17)
  | n + 1, x4_17, x3_17 => if m_till ≤ x4_17 then ((x4_17, x3_17)) else (if m_token = 3 then (lt (((10 * x3_17) + (r_tape x4_17.toNatClampNeg)) - 48) (fun x_5 : Int32 => lt (x4_17 + 1) (fun x_6 : Int32 => lX11_numberIn_17 m_token m_till r_tape n x_6 x_5))) else ((x4_17, x3_17)))

def sX11_numberIn (lo : Int32) (hi : Int32) (m_length : Int32) (m_cursor : Int32) (m_token : Int32) (m_from : Int32) (m_till : Int32) (m_fault : Int32) (m_faultAt : Int32) (r_tape : Nat → Int32) : Int32 × (Int32) × (Int32) × (Int32) × (Int32) × (Int32) × (Int32) := if m_fault ≤ 0 then (lt (lX11_numberIn_17 m_token m_till r_tape 401 m_from 0) (fun u_7 : Int32 × Int32 => lt (if m_token = 3 then (lt (sX11_in u_7.2.toInt64 lo.toInt64 hi.toInt64) (fun u_10 : Int32 => if u_10 = 0 then (lt (sX11_bad 2 m_from m_fault m_faultAt) (fun u_12 : (Int32) × (Int32) => (u_12.1, u_12.2))) else ((m_fault, m_faultAt)))) else ((m_fault, m_faultAt))) (fun y_8 : Int32 × Int32 => lt (if m_token = 3 then (1) else (0)) (fun y_13 : Int32 => lt (sX11_must y_13 m_length m_cursor m_token m_from m_till y_8.1 y_8.2 r_tape) (fun u_15 : (Int32) × (Int32) × (Int32) × (Int32) × (Int32) × (Int32) => (u_7.2, u_15.1, u_15.2.1, u_15.2.2.1, u_15.2.2.2.1, u_15.2.2.2.2.1, u_15.2.2.2.2.2)))))) else ((0, m_cursor, m_token, m_from, m_till, m_fault, m_faultAt))
set_option maxHeartbeats 4000000 in
set_option maxRecDepth 100000 in
theorem mtX11_numberIn (l : Launch) (D : va_G) (cI cB cK cS : ClassId) (Y : Nat → Nat) (R : va_W) (m_thrown : Int32) (m_status : Int32) (m_isThere : Int32) (m_kinds : Int32) (m_newKinds : Int32) (m_print : Int32) (m_low : Int32) (m_high : Int32) (m_lot : Int32) (m_taped : Int32) (m_latest : Int32) (m_length : Int32) (m_cursor : Int32) (m_token : Int32) (m_from : Int32) (m_till : Int32) (m_fault : Int32) (m_faultAt : Int32) (m_traced : Int32) (r_lane : Nat → Int32) (r_many : Nat → Int32) (r_item : Nat → Int32) (r_market : Nat → Int32) (r_of : Nat → Int32) (r_newMarket : Nat → Int32) (r_newStart : Nat → Int32) (r_newOf : Nat → Int32) (r_newCoin : Nat → Int32) (r_state : Nat → Int32) (r_kept : Nat → Int32) (r_tape : Nat → Int32) (r_brings : Nat → Int32) (r_seen : Nat → Int32) (r_seenOut : Nat → Int32) (r_trace : Nat → Int32) (lo : Int32) (hi : Int32) (hln : m_length.toInt ≤ 400) (hrd : rd_ok m_cursor m_from m_till) : MX l yX11_numberIn wsX11_numberIn (rmX 4) D (tyX cI cB cK cS) pF0 (mdW Y cI m_thrown m_status m_isThere m_kinds m_newKinds m_print m_low m_high m_lot m_taped m_latest m_length m_cursor m_token m_from m_till m_fault m_faultAt m_traced r_lane r_many r_item r_market r_of r_newMarket r_newStart r_newOf r_newCoin r_state r_kept r_tape r_brings r_seen r_seenOut r_trace ++ R) [.ref (Y 0), .int lo, .int hi] (sX11_numberIn lo hi m_length m_cursor m_token m_from m_till m_fault m_faultAt r_tape) (fun u => some (.int u.1)) (fun u => mdW Y cI m_thrown m_status m_isThere m_kinds m_newKinds m_print m_low m_high m_lot m_taped m_latest m_length u.2.1 u.2.2.1 u.2.2.2.1 u.2.2.2.2.1 u.2.2.2.2.2.1 u.2.2.2.2.2.2 m_traced r_lane r_many r_item r_market r_of r_newMarket r_newStart r_newOf r_newCoin r_state r_kept r_tape r_brings r_seen r_seenOut r_trace ++ R) := by
  refine mx_intro (cc := cX11_numberIn) (maxL := 5) (ret := (some .int)) (by decide) rfl (Nat.le_of_ble_eq_true rfl) ?_
  intro p e s m below meth c A ls H locs Qm hQm hx hb hr hml hts hown hlocks hA hS hP hK hD hF hl
  have hown : s.vm.findClass RX11 = some m.cls := hown
  have hl : lv_has ls 5 [(0, .ref (Y 0)), (1, .int lo), (2, .int hi)] := hl
  obtain ⟨⟨hc0, hc1⟩, ⟨hf0, hf1⟩, ⟨ht0, ht1⟩⟩ := id hrd
  have k116 := hts (.fieldLink RX11 116 "PigRoundsModel" "fault" "I") (by decide +kernel)
  have k101 := hts (.fieldLink RX11 101 "PigRoundsModel" "from" "I") (by decide +kernel)
  have k113 := hts (.fieldLink RX11 113 "PigRoundsModel" "till" "I") (by decide +kernel)
  have k104 := hts (.fieldLink RX11 104 "PigRoundsModel" "token" "I") (by decide +kernel)
  have k43 := hts (.fieldLink RX11 43 "PigRoundsModel" "tape" "[I") (by decide +kernel)
  have iX11 : ∀ w ∈ u_ws RX11 TX11 35, w ∈ wsX11_numberIn := by decide +kernel
  refine lv_aload_n hx hb dX11_numberIn_0 rfl (lv_at hl 0 rfl) ?_
  refine va_get (D := D) (ci := 9) (v := .int m_fault) (C := RX11) (T := TX11) (N := 35) hx hb hts iX11 hown hK hP 0 rfl rfl 28 (by decide) k116 (fun _ h9 => h9) rfl dX11_numberIn_1 ?_
  refine lv_if_le (tgt := 9) hx hb dX11_numberIn_4 (by decide) (fun c_1 => ?_) (fun c_1 => ?_)
  · have d_1 := i_le rfl (show (0 : Int32).toInt = 0 from by decide) c_1
    refine lv_iconst (v := 0) hx hb dX11_numberIn_9 (by decide) ?_
    refine lv_istore_n (lv' := [(3, .int 0), (0, .ref (Y 0)), (1, .int lo), (2, .int hi)]) hx hb dX11_numberIn_10 rfl hl (by decide) rfl (fun ls hl => ?_)
    refine lv_aload_n hx hb dX11_numberIn_11 rfl (lv_at hl 1 rfl) ?_
    refine va_get (D := D) (ci := 9) (v := .int m_from) (C := RX11) (T := TX11) (N := 35) hx hb hts iX11 hown hK hP 0 rfl rfl 26 (by decide) k101 (fun _ h9 => h9) rfl dX11_numberIn_12 ?_
    refine lv_istore (lv' := [(4, .int m_from), (3, .int 0), (0, .ref (Y 0)), (1, .int lo), (2, .int hi)]) hx hb dX11_numberIn_15 hl (by decide) rfl (fun ls hl => ?_)
    have L_17 : ∀ (n : Nat) (x4_17 : Int32) (x3_17 : Int32) (H : Heap) (locs : List Loc) (ls : Array Slot), 0 ≤ x4_17.toInt → x4_17.toInt ≤ 400 → (400 : Int) < x4_17.toInt + ((n : Nat) : Int) → va_P D vwCl (mdW Y cI m_thrown m_status m_isThere m_kinds m_newKinds m_print m_low m_high m_lot m_taped m_latest m_length m_cursor m_token m_from m_till m_fault m_faultAt m_traced r_lane r_many r_item r_market r_of r_newMarket r_newStart r_newOf r_newCoin r_state r_kept r_tape r_brings r_seen r_seenOut r_trace ++ R) H → va_D A (mdW Y cI m_thrown m_status m_isThere m_kinds m_newKinds m_print m_low m_high m_lot m_taped m_latest m_length m_cursor m_token m_from m_till m_fault m_faultAt m_traced r_lane r_many r_item r_market r_of r_newMarket r_newStart r_newOf r_newCoin r_state r_kept r_tape r_brings r_seen r_seenOut r_trace ++ R) → va_S A s.heap H locs → lv_has ls 5 [(4, .int x4_17), (3, .int x3_17), (0, .ref (Y 0)), (1, .int lo), (2, .int hi)] → (∀ (u : Int32 × Int32) (H : Heap) (locs : List Loc) (ls : Array Slot), u = lX11_numberIn_17 m_token m_till r_tape n x4_17 x3_17 → va_P D vwCl (mdW Y cI m_thrown m_status m_isThere m_kinds m_newKinds m_print m_low m_high m_lot m_taped m_latest m_length m_cursor m_token m_from m_till m_fault m_faultAt m_traced r_lane r_many r_item r_market r_of r_newMarket r_newStart r_newOf r_newCoin r_state r_kept r_tape r_brings r_seen r_seenOut r_trace ++ R) H → va_D A (mdW Y cI m_thrown m_status m_isThere m_kinds m_newKinds m_print m_low m_high m_lot m_taped m_latest m_length m_cursor m_token m_from m_till m_fault m_faultAt m_traced r_lane r_many r_item r_market r_of r_newMarket r_newStart r_newOf r_newCoin r_state r_kept r_tape r_brings r_seen r_seenOut r_trace ++ R) → va_S A s.heap H locs → lv_has ls 5 [(3, .int u.2), (0, .ref (Y 0)), (1, .int lo), (2, .int hi)] → W p l e (rmX 4) s m ([.ref (Y 0), .int lo, .int hi] : List Value).toArray below meth c H locs 0 0 Qm (F0 m 56 ls [])) → W p l e (rmX 4) s m ([.ref (Y 0), .int lo, .int hi] : List Value).toArray below meth c H locs 0 0 Qm (F0 m 17 ls []) := by
      intro n
      induction n with
      | zero =>
        intro x4_17 x3_17 H locs ls iv_17_0 iv_17_1 iv_17_2 hP hD hS hl kont_17
        exfalso; omega
      | succ n ih_17 =>
        intro x4_17 x3_17 H locs ls iv_17_0 iv_17_1 iv_17_2 hP hD hS hl kont_17
        refine lv_iload hx hb dX11_numberIn_17 (lv_at hl 0 rfl) ?_
        refine lv_aload_n hx hb dX11_numberIn_19 rfl (lv_at hl 2 rfl) ?_
        refine va_get (D := D) (ci := 9) (v := .int m_till) (C := RX11) (T := TX11) (N := 35) hx hb hts iX11 hown hK hP 0 rfl rfl 27 (by decide) k113 (fun _ h9 => h9) rfl dX11_numberIn_20 ?_
        refine lv_icmp_ge (tgt := 56) hx hb dX11_numberIn_23 (by decide) (fun c_2 => ?_) (fun c_2 => ?_)
        · have d_2 := i_le rfl rfl c_2
          exact kont_17 (x4_17, x3_17) H locs ls (show lX11_numberIn_17 m_token m_till r_tape (n + 1) x4_17 x3_17 = (x4_17, x3_17) from ((if_pos c_2).trans rfl)).symm  hP hD hS (lv_sub hl [1, 2, 3, 4] rfl)
        · have d_2 := i_len rfl rfl c_2
          refine lv_aload_n hx hb dX11_numberIn_26 rfl (lv_at hl 2 rfl) ?_
          refine va_get (D := D) (ci := 9) (v := .int m_token) (C := RX11) (T := TX11) (N := 35) hx hb hts iX11 hown hK hP 0 rfl rfl 25 (by decide) k104 (fun _ h9 => h9) rfl dX11_numberIn_27 ?_
          refine lv_iconst (v := 3) hx hb dX11_numberIn_30 (by decide) ?_
          refine lv_icmp_ne (tgt := 56) hx hb dX11_numberIn_31 (by decide) (fun c_3 => ?_) (fun c_3 => ?_)
          · have d_3 := i_eqn rfl (show (3 : Int32).toInt = 3 from by decide) c_3
            exact kont_17 (x4_17, x3_17) H locs ls (show lX11_numberIn_17 m_token m_till r_tape (n + 1) x4_17 x3_17 = (x4_17, x3_17) from ((if_neg c_2).trans ((if_neg c_3).trans rfl))).symm  hP hD hS (lv_sub hl [1, 2, 3, 4] rfl)
          · have d_3 := i_eq rfl (show (3 : Int32).toInt = 3 from by decide) c_3
            refine lv_bipush (v := 10) hx hb dX11_numberIn_34 (by decide) ?_
            refine lv_iload_n hx hb dX11_numberIn_36 rfl (lv_at hl 1 rfl) ?_
            refine lv_imul hx hb dX11_numberIn_37 ?_
            refine lv_aload_n hx hb dX11_numberIn_38 rfl (lv_at hl 2 rfl) ?_
            refine va_get (D := D) (ci := 9) (v := .ref (Y 20)) (C := RX11) (T := TX11) (N := 35) hx hb hts iX11 hown hK hP 0 rfl rfl 20 (by decide) k43 (fun _ h9 => h9) rfl dX11_numberIn_39 ?_
            refine lv_iload hx hb dX11_numberIn_42 (lv_at hl 0 rfl) ?_
            have q_4 : vp_in x4_17 400 := vp_in_iff.mpr ⟨by omega, by omega⟩
            refine va_iald hx hb hK hP 12 0 rfl rfl q_4 dX11_numberIn_44 ?_
            refine lv_iadd hx hb dX11_numberIn_45 ?_
            refine lv_bipush (v := 48) hx hb dX11_numberIn_46 (by decide) ?_
            refine lv_isub hx hb dX11_numberIn_48 ?_
            refine lv_topi (fun x_5 ex_5 => ?_)
            refine lv_istore_n (lv' := [(3, .int x_5), (4, .int x4_17), (0, .ref (Y 0)), (1, .int lo), (2, .int hi)]) hx hb dX11_numberIn_49 rfl hl (by decide) rfl (fun ls hl => ?_)
            obtain ⟨x_6, ex_6⟩ : ∃ z : Int32, z = x4_17 + 1 := ⟨_, rfl⟩
            refine lv_iinc (v := x_6) (lv' := [(4, .int x_6), (3, .int x_5), (0, .ref (Y 0)), (1, .int lo), (2, .int hi)]) hx hb dX11_numberIn_50 hl (k := 1) rfl (by rw [ex_6]; rfl) (by decide) rfl (fun ls hl => ?_)
            refine lv_goto (tgt := 17) hx hb dX11_numberIn_53 (by decide) ?_
            have tx_6 : x_6.toInt = x4_17.toInt + 1 := i_inc ex_6 (by decide) (by omega) (by omega)
            refine ih_17 x_6 x_5 H locs ls (by omega) (by omega) (by omega) hP hD hS (lv_sub hl [0, 1, 2, 3, 4] rfl) (fun u H locs ls eu  hP hD hS hl => ?_)
            exact kont_17 u H locs ls (eu.trans (show lX11_numberIn_17 m_token m_till r_tape (n + 1) x4_17 x3_17 = lX11_numberIn_17 m_token m_till r_tape n x_6 x_5 from ((if_neg c_2).trans ((if_pos c_3).trans (lt_eq ex_5 (lt_eq ex_6 rfl))))).symm)  hP hD hS hl
    refine L_17 401 m_from 0 H locs ls (by omega) (by omega) (by omega) hP hD hS (lv_sub hl [0, 1, 2, 3, 4] rfl) (fun u_7 H locs ls eu_7  hP hD hS hl => ?_)
    have hP : va_P D vwCl (mdW Y cI m_thrown m_status m_isThere m_kinds m_newKinds m_print m_low m_high m_lot m_taped m_latest m_length m_cursor m_token m_from m_till m_fault m_faultAt m_traced r_lane r_many r_item r_market r_of r_newMarket r_newStart r_newOf r_newCoin r_state r_kept r_tape r_brings r_seen r_seenOut r_trace ++ R) H := hP
    have hD : va_D A (mdW Y cI m_thrown m_status m_isThere m_kinds m_newKinds m_print m_low m_high m_lot m_taped m_latest m_length m_cursor m_token m_from m_till m_fault m_faultAt m_traced r_lane r_many r_item r_market r_of r_newMarket r_newStart r_newOf r_newCoin r_state r_kept r_tape r_brings r_seen r_seenOut r_trace ++ R) := hD
    refine lv_aload_n hx hb dX11_numberIn_56 rfl (lv_at hl 1 rfl) ?_
    refine va_get (D := D) (ci := 9) (v := .int m_token) (C := RX11) (T := TX11) (N := 35) hx hb hts iX11 hown hK hP 0 rfl rfl 25 (by decide) k104 (fun _ h9 => h9) rfl dX11_numberIn_57 ?_
    refine lv_iconst (v := 3) hx hb dX11_numberIn_60 (by decide) ?_
    have J_8 : ∀ (y_8 : Int32 × Int32) (H : Heap) (locs : List Loc) (ls : Array Slot), y_8 = (if m_token = 3 then (lt (sX11_in u_7.2.toInt64 lo.toInt64 hi.toInt64) (fun u_10 : Int32 => if u_10 = 0 then (lt (sX11_bad 2 m_from m_fault m_faultAt) (fun u_12 : (Int32) × (Int32) => (u_12.1, u_12.2))) else ((m_fault, m_faultAt)))) else ((m_fault, m_faultAt))) → va_P D vwCl (mdW Y cI m_thrown m_status m_isThere m_kinds m_newKinds m_print m_low m_high m_lot m_taped m_latest m_length m_cursor m_token m_from m_till y_8.1 y_8.2 m_traced r_lane r_many r_item r_market r_of r_newMarket r_newStart r_newOf r_newCoin r_state r_kept r_tape r_brings r_seen r_seenOut r_trace ++ R) H → va_D A (mdW Y cI m_thrown m_status m_isThere m_kinds m_newKinds m_print m_low m_high m_lot m_taped m_latest m_length m_cursor m_token m_from m_till y_8.1 y_8.2 m_traced r_lane r_many r_item r_market r_of r_newMarket r_newStart r_newOf r_newCoin r_state r_kept r_tape r_brings r_seen r_seenOut r_trace ++ R) → va_S A s.heap H locs → lv_has ls 5 [(3, .int u_7.2), (0, .ref (Y 0))] → W p l e (rmX 4) s m ([.ref (Y 0), .int lo, .int hi] : List Value).toArray below meth c H locs 0 0 Qm (F0 m 81 ls []) := by
      intro y_8 H locs ls ey_8 hP hD hS hl
      refine lv_aload_n hx hb dX11_numberIn_81 rfl (lv_at hl 1 rfl) ?_
      refine lv_aload_n hx hb dX11_numberIn_82 rfl (lv_at hl 1 rfl) ?_
      refine va_get (D := D) (ci := 9) (v := .int m_token) (C := RX11) (T := TX11) (N := 35) hx hb hts iX11 hown hK hP 0 rfl rfl 25 (by decide) k104 (fun _ h9 => h9) rfl dX11_numberIn_83 ?_
      refine lv_iconst (v := 3) hx hb dX11_numberIn_86 (by decide) ?_
      have J_13 : ∀ (y_13 : Int32) (H : Heap) (locs : List Loc) (ls : Array Slot), y_13 = (if m_token = 3 then (1) else (0)) → va_P D vwCl (mdW Y cI m_thrown m_status m_isThere m_kinds m_newKinds m_print m_low m_high m_lot m_taped m_latest m_length m_cursor m_token m_from m_till y_8.1 y_8.2 m_traced r_lane r_many r_item r_market r_of r_newMarket r_newStart r_newOf r_newCoin r_state r_kept r_tape r_brings r_seen r_seenOut r_trace ++ R) H → va_D A (mdW Y cI m_thrown m_status m_isThere m_kinds m_newKinds m_print m_low m_high m_lot m_taped m_latest m_length m_cursor m_token m_from m_till y_8.1 y_8.2 m_traced r_lane r_many r_item r_market r_of r_newMarket r_newStart r_newOf r_newCoin r_state r_kept r_tape r_brings r_seen r_seenOut r_trace ++ R) → va_S A s.heap H locs → lv_has ls 5 [(3, .int u_7.2)] → W p l e (rmX 4) s m ([.ref (Y 0), .int lo, .int hi] : List Value).toArray below meth c H locs 0 0 Qm (F0 m 95 ls [.int y_13, .ref (Y 0)]) := by
        intro y_13 H locs ls ey_13 hP hD hS hl
        refine mx_callV (As := [.int y_13]) (rest := []) ⟨hx, hb, hml, hown, hts⟩ (mtX11_must l D cI cB cK cS Y R m_thrown m_status m_isThere m_kinds m_newKinds m_print m_low m_high m_lot m_taped m_latest m_length m_cursor m_token m_from m_till y_8.1 y_8.2 m_traced r_lane r_many r_item r_market r_of r_newMarket r_newStart r_newOf r_newCoin r_state r_kept r_tape r_brings r_seen r_seenOut r_trace y_13 (by assumption) (by assumption)) (cwV 1 hts gX11_numberIn_X11_must rfl rfl rfl (by decide +kernel) ⟨Nat.le_of_ble_eq_true rfl, Nat.le_of_ble_eq_true rfl⟩) pF0_ok trivial hK hP hD hS hA 0 rfl rfl rfl rfl hl.1 rfl (Nat.le_of_ble_eq_true rfl) dX11_numberIn_95 ⟨Nat.le_refl _, Nat.le_refl _⟩ (fun u_15 H locs eu_15 hP hD hS => ?_)
        refine W.eq (g2 := F0 m 98 ls []) rfl ?_
        have hP : va_P D vwCl (mdW Y cI m_thrown m_status m_isThere m_kinds m_newKinds m_print m_low m_high m_lot m_taped m_latest m_length u_15.1 u_15.2.1 u_15.2.2.1 u_15.2.2.2.1 u_15.2.2.2.2.1 u_15.2.2.2.2.2 m_traced r_lane r_many r_item r_market r_of r_newMarket r_newStart r_newOf r_newCoin r_state r_kept r_tape r_brings r_seen r_seenOut r_trace ++ R) H := hP
        have hD : va_D A (mdW Y cI m_thrown m_status m_isThere m_kinds m_newKinds m_print m_low m_high m_lot m_taped m_latest m_length u_15.1 u_15.2.1 u_15.2.2.1 u_15.2.2.2.1 u_15.2.2.2.2.1 u_15.2.2.2.2.2 m_traced r_lane r_many r_item r_market r_of r_newMarket r_newStart r_newOf r_newCoin r_state r_kept r_tape r_brings r_seen r_seenOut r_trace ++ R) := hD
        have hrd_u_15 := sX11_must_ok (by assumption) (by assumption) eu_15
        refine lv_iload_n hx hb dX11_numberIn_98 rfl (lv_at hl 0 rfl) ?_
        rw [hQm]
        exact mx_iret (u0 := sX11_numberIn lo hi m_length m_cursor m_token m_from m_till m_fault m_faultAt r_tape) (rv := (fun u => some (.int u.1))) (w1 := (fun u => mdW Y cI m_thrown m_status m_isThere m_kinds m_newKinds m_print m_low m_high m_lot m_taped m_latest m_length u.2.1 u.2.2.1 u.2.2.2.1 u.2.2.2.2.1 u.2.2.2.2.2.1 u.2.2.2.2.2.2 m_traced r_lane r_many r_item r_market r_of r_newMarket r_newStart r_newOf r_newCoin r_state r_kept r_tape r_brings r_seen r_seenOut r_trace ++ R)) (u := (u_7.2, u_15.1, u_15.2.1, u_15.2.2.1, u_15.2.2.2.1, u_15.2.2.2.2.1, u_15.2.2.2.2.2)) hx hb hr hlocks hK hS ((if_pos c_1).trans (lt_eq eu_7 (lt_eq ey_8 (lt_eq ey_13 (lt_eq eu_15 rfl))))) hP hD rfl dX11_numberIn_99
      refine lv_icmp_ne (tgt := 94) hx hb dX11_numberIn_87 (by decide) (fun c_14 => ?_) (fun c_14 => ?_)
      · have d_14 := i_eqn rfl (show (3 : Int32).toInt = 3 from by decide) c_14
        refine lv_iconst (v := 0) hx hb dX11_numberIn_94 (by decide) ?_
        exact J_13 0 H locs ls (Eq.symm ((if_neg c_14).trans rfl)) hP hD hS (lv_sub hl [0] rfl)
      · have d_14 := i_eq rfl (show (3 : Int32).toInt = 3 from by decide) c_14
        refine lv_iconst (v := 1) hx hb dX11_numberIn_90 (by decide) ?_
        refine lv_goto (tgt := 95) hx hb dX11_numberIn_91 (by decide) ?_
        exact J_13 1 H locs ls (Eq.symm ((if_pos c_14).trans rfl)) hP hD hS (lv_sub hl [0] rfl)
    refine lv_icmp_ne (tgt := 81) hx hb dX11_numberIn_61 (by decide) (fun c_9 => ?_) (fun c_9 => ?_)
    · have d_9 := i_eqn rfl (show (3 : Int32).toInt = 3 from by decide) c_9
      exact J_8 (m_fault, m_faultAt) H locs ls (Eq.symm ((if_neg c_9).trans rfl)) hP hD hS (lv_sub hl [0, 1] rfl)
    · have d_9 := i_eq rfl (show (3 : Int32).toInt = 3 from by decide) c_9
      refine lv_iload_n hx hb dX11_numberIn_64 rfl (lv_at hl 0 rfl) ?_
      refine lv_i2l (v := u_7.2.toInt64) hx hb dX11_numberIn_65 rfl ?_
      refine lv_iload_n hx hb dX11_numberIn_66 rfl (lv_at hl 2 rfl) ?_
      refine lv_i2l (v := lo.toInt64) hx hb dX11_numberIn_67 rfl ?_
      refine lv_iload_n hx hb dX11_numberIn_68 rfl (lv_at hl 3 rfl) ?_
      refine lv_i2l (v := hi.toInt64) hx hb dX11_numberIn_69 rfl ?_
      refine mx_callS (As := [.long u_7.2.toInt64, .long lo.toInt64, .long hi.toInt64]) (rest := []) ⟨hx, hb, hml, hown, hts⟩ (mtX11_in l D cI cB cK cS (mdW Y cI m_thrown m_status m_isThere m_kinds m_newKinds m_print m_low m_high m_lot m_taped m_latest m_length m_cursor m_token m_from m_till m_fault m_faultAt m_traced r_lane r_many r_item r_market r_of r_newMarket r_newStart r_newOf r_newCoin r_state r_kept r_tape r_brings r_seen r_seenOut r_trace ++ R) u_7.2.toInt64 lo.toInt64 hi.toInt64) (va_cwS 3 hts gX11_numberIn_X11_in rfl rfl rfl (by decide +kernel) ⟨Nat.le_of_ble_eq_true rfl, Nat.le_of_ble_eq_true rfl⟩) pF0_ok trivial hK hP hD hS hA rfl hl.1 rfl (Nat.le_of_ble_eq_true rfl) dX11_numberIn_70 ⟨Nat.le_refl _, Nat.le_refl _⟩ (fun u_10 H locs eu_10 hP hD hS => ?_)
      refine W.eq (g2 := F0 m 73 ls [.int u_10]) rfl ?_
      have hP : va_P D vwCl (mdW Y cI m_thrown m_status m_isThere m_kinds m_newKinds m_print m_low m_high m_lot m_taped m_latest m_length m_cursor m_token m_from m_till m_fault m_faultAt m_traced r_lane r_many r_item r_market r_of r_newMarket r_newStart r_newOf r_newCoin r_state r_kept r_tape r_brings r_seen r_seenOut r_trace ++ R) H := hP
      have hD : va_D A (mdW Y cI m_thrown m_status m_isThere m_kinds m_newKinds m_print m_low m_high m_lot m_taped m_latest m_length m_cursor m_token m_from m_till m_fault m_faultAt m_traced r_lane r_many r_item r_market r_of r_newMarket r_newStart r_newOf r_newCoin r_state r_kept r_tape r_brings r_seen r_seenOut r_trace ++ R) := hD
      refine lv_if_ne (tgt := 81) hx hb dX11_numberIn_73 (by decide) (fun c_11 => ?_) (fun c_11 => ?_)
      · have d_11 := i_eqn rfl (show (0 : Int32).toInt = 0 from by decide) c_11
        have dt_11 := sX11_in_t ((Int32.toInt_toInt64 _).trans rfl) ((Int32.toInt_toInt64 _).trans rfl) ((Int32.toInt_toInt64 _).trans rfl) eu_10 c_11
        exact J_8 (m_fault, m_faultAt) H locs ls (Eq.symm ((if_pos c_9).trans (lt_eq eu_10 ((if_neg c_11).trans rfl)))) hP hD hS (lv_sub hl [0, 1] rfl)
      · have d_11 := i_eq rfl (show (0 : Int32).toInt = 0 from by decide) c_11
        refine lv_aload_n hx hb dX11_numberIn_76 rfl (lv_at hl 1 rfl) ?_
        refine lv_iconst (v := 2) hx hb dX11_numberIn_77 (by decide) ?_
        refine mx_callV (As := [.int 2]) (rest := []) ⟨hx, hb, hml, hown, hts⟩ (mtX11_bad l D cI cB cK cS Y R m_thrown m_status m_isThere m_kinds m_newKinds m_print m_low m_high m_lot m_taped m_latest m_length m_cursor m_token m_from m_till m_fault m_faultAt m_traced r_lane r_many r_item r_market r_of r_newMarket r_newStart r_newOf r_newCoin r_state r_kept r_tape r_brings r_seen r_seenOut r_trace 2) (cwV 1 hts gX11_numberIn_X11_bad rfl rfl rfl (by decide +kernel) ⟨Nat.le_of_ble_eq_true rfl, Nat.le_of_ble_eq_true rfl⟩) pF0_ok trivial hK hP hD hS hA 0 rfl rfl rfl rfl hl.1 rfl (Nat.le_of_ble_eq_true rfl) dX11_numberIn_78 ⟨Nat.le_refl _, Nat.le_refl _⟩ (fun u_12 H locs eu_12 hP hD hS => ?_)
        refine W.eq (g2 := F0 m 81 ls []) rfl ?_
        have hP : va_P D vwCl (mdW Y cI m_thrown m_status m_isThere m_kinds m_newKinds m_print m_low m_high m_lot m_taped m_latest m_length m_cursor m_token m_from m_till u_12.1 u_12.2 m_traced r_lane r_many r_item r_market r_of r_newMarket r_newStart r_newOf r_newCoin r_state r_kept r_tape r_brings r_seen r_seenOut r_trace ++ R) H := hP
        have hD : va_D A (mdW Y cI m_thrown m_status m_isThere m_kinds m_newKinds m_print m_low m_high m_lot m_taped m_latest m_length m_cursor m_token m_from m_till u_12.1 u_12.2 m_traced r_lane r_many r_item r_market r_of r_newMarket r_newStart r_newOf r_newCoin r_state r_kept r_tape r_brings r_seen r_seenOut r_trace ++ R) := hD
        exact J_8 (u_12.1, u_12.2) H locs ls (Eq.symm ((if_pos c_9).trans (lt_eq eu_10 ((if_pos c_11).trans (lt_eq eu_12 rfl))))) hP hD hS (lv_sub hl [0, 1] rfl)
  · have d_1 := i_len rfl (show (0 : Int32).toInt = 0 from by decide) c_1
    refine lv_iconst (v := 0) hx hb dX11_numberIn_7 (by decide) ?_
    rw [hQm]
    exact mx_iret (u0 := sX11_numberIn lo hi m_length m_cursor m_token m_from m_till m_fault m_faultAt r_tape) (rv := (fun u => some (.int u.1))) (w1 := (fun u => mdW Y cI m_thrown m_status m_isThere m_kinds m_newKinds m_print m_low m_high m_lot m_taped m_latest m_length u.2.1 u.2.2.1 u.2.2.2.1 u.2.2.2.2.1 u.2.2.2.2.2.1 u.2.2.2.2.2.2 m_traced r_lane r_many r_item r_market r_of r_newMarket r_newStart r_newOf r_newCoin r_state r_kept r_tape r_brings r_seen r_seenOut r_trace ++ R)) (u := (0, m_cursor, m_token, m_from, m_till, m_fault, m_faultAt)) hx hb hr hlocks hK hS ((if_neg c_1).trans rfl) hP hD rfl dX11_numberIn_8
theorem sX11_bad_f {k fr fa at9 : Int32} {u : Int32 × Int32} (hk : ¬ k = 0) (e : u = sX11_bad k fr fa at9) : ¬ u.1 = 0 := by
  subst e
  unfold sX11_bad
  split <;> simp_all
theorem sX11_must_f {b len cu tk fr ti fa at9 : Int32} {tape : Nat → Int32} {u : Int32 × Int32 × Int32 × Int32 × Int32 × Int32} (e : u = sX11_must b len cu tk fr ti fa at9 tape) (h : u.2.2.2.2.1 = 0) : fa = 0 ∧ ¬ b = 0 := by
  subst e
  revert h
  unfold sX11_must
  refine lt_P (fun y : Int32 × Int32 => y.1 = 0 → fa = 0 ∧ ¬ b = 0) (fun u : Int32 × Int32 × Int32 × Int32 × Int32 × Int32 => u.2.2.2.2.1 = 0 → fa = 0 ∧ ¬ b = 0) ?_ (fun y hy => ?_)
  · exact if_P (fun y : Int32 × Int32 => y.1 = 0 → fa = 0 ∧ ¬ b = 0) (fun _ h => absurd h (sX11_bad_f (k := 1) (by decide) rfl)) (fun hb h => ⟨h, hb⟩)
  · exact if_P (fun u : Int32 × Int32 × Int32 × Int32 × Int32 × Int32 => u.2.2.2.2.1 = 0 → fa = 0 ∧ ¬ b = 0) (fun _ => hy) (fun _ => hy)
theorem sX11_numberIn_ok {lo hi len cu tk fr ti fa at9 : Int32} {tape : Nat → Int32} {u : Int32 × Int32 × Int32 × Int32 × Int32 × Int32 × Int32} (hl : len.toInt ≤ 400) (h : rd_ok cu fr ti) (e : u = sX11_numberIn lo hi len cu tk fr ti fa at9 tape) : rd_ok u.2.1 u.2.2.2.1 u.2.2.2.2.1 := by
  subst e
  unfold sX11_numberIn
  simp only [lt]
  exact if_P (fun u : Int32 × Int32 × Int32 × Int32 × Int32 × Int32 × Int32 => rd_ok u.2.1 u.2.2.2.1 u.2.2.2.2.1) (fun _ => sX11_must_ok hl h rfl) (fun _ => h)
theorem sX11_numberIn_f {lo hi len cu tk fr ti fa at9 : Int32} {tape : Nat → Int32} {u : Int32 × Int32 × Int32 × Int32 × Int32 × Int32 × Int32} (e : u = sX11_numberIn lo hi len cu tk fr ti fa at9 tape) (h : u.2.2.2.2.2.1 = 0) : fa = 0 := by
  subst e
  revert h
  unfold sX11_numberIn
  refine if_P (fun u : Int32 × Int32 × Int32 × Int32 × Int32 × Int32 × Int32 => u.2.2.2.2.2.1 = 0 → fa = 0) (fun _ => ?_) (fun _ h => h)
  refine lt_P (fun _ => True) (fun u : Int32 × Int32 × Int32 × Int32 × Int32 × Int32 × Int32 => u.2.2.2.2.2.1 = 0 → fa = 0) trivial (fun u7 _ => ?_)
  refine lt_P (fun y : Int32 × Int32 => y.1 = 0 → fa = 0) (fun u : Int32 × Int32 × Int32 × Int32 × Int32 × Int32 × Int32 => u.2.2.2.2.2.1 = 0 → fa = 0) ?_ (fun y8 h8 => ?_)
  · refine if_P (fun y : Int32 × Int32 => y.1 = 0 → fa = 0) (fun _ => ?_) (fun _ h => h)
    exact if_P (fun y : Int32 × Int32 => y.1 = 0 → fa = 0) (fun _ h => absurd h (sX11_bad_f (k := 2) (by decide) rfl)) (fun _ h => h)
  exact fun h => h8 (sX11_must_f rfl h).1
def sX11_wayOfWord (m_token : Int32) (m_from : Int32) (m_till : Int32) (m_fault : Int32) (r_tape : Nat → Int32) : Int32 := lt (sX11_word m_token m_from m_till m_fault r_tape) (fun u_1 : Int64 => if (lg_cmp u_1 1818325876) = 0 then ((1)) else (if (lg_cmp u_1 1835360622) = 0 then ((2)) else (if (lg_cmp u_1 500135456356) = 0 then ((3)) else (if (lg_cmp u_1 7165066978583999097) = 0 then ((4)) else (if (lg_cmp u_1 1953459300) = 0 then ((5)) else (if (lg_cmp u_1 2003399525) = 0 then ((6)) else (((-1000000)))))))))
set_option maxHeartbeats 4000000 in
set_option maxRecDepth 100000 in
theorem mtX11_wayOfWord (l : Launch) (D : va_G) (cI cB cK cS : ClassId) (Y : Nat → Nat) (R : va_W) (m_thrown : Int32) (m_status : Int32) (m_isThere : Int32) (m_kinds : Int32) (m_newKinds : Int32) (m_print : Int32) (m_low : Int32) (m_high : Int32) (m_lot : Int32) (m_taped : Int32) (m_latest : Int32) (m_length : Int32) (m_cursor : Int32) (m_token : Int32) (m_from : Int32) (m_till : Int32) (m_fault : Int32) (m_faultAt : Int32) (m_traced : Int32) (r_lane : Nat → Int32) (r_many : Nat → Int32) (r_item : Nat → Int32) (r_market : Nat → Int32) (r_of : Nat → Int32) (r_newMarket : Nat → Int32) (r_newStart : Nat → Int32) (r_newOf : Nat → Int32) (r_newCoin : Nat → Int32) (r_state : Nat → Int32) (r_kept : Nat → Int32) (r_tape : Nat → Int32) (r_brings : Nat → Int32) (r_seen : Nat → Int32) (r_seenOut : Nat → Int32) (r_trace : Nat → Int32) (hrd : rd_ok m_cursor m_from m_till) : MX l yX11_wayOfWord wsX11_wayOfWord (rmX 2) D (tyX cI cB cK cS) pF0 (mdW Y cI m_thrown m_status m_isThere m_kinds m_newKinds m_print m_low m_high m_lot m_taped m_latest m_length m_cursor m_token m_from m_till m_fault m_faultAt m_traced r_lane r_many r_item r_market r_of r_newMarket r_newStart r_newOf r_newCoin r_state r_kept r_tape r_brings r_seen r_seenOut r_trace ++ R) [.ref (Y 0)] (sX11_wayOfWord m_token m_from m_till m_fault r_tape) (fun u => some (.int u)) (fun _ => mdW Y cI m_thrown m_status m_isThere m_kinds m_newKinds m_print m_low m_high m_lot m_taped m_latest m_length m_cursor m_token m_from m_till m_fault m_faultAt m_traced r_lane r_many r_item r_market r_of r_newMarket r_newStart r_newOf r_newCoin r_state r_kept r_tape r_brings r_seen r_seenOut r_trace ++ R) := by
  refine mx_intro (cc := cX11_wayOfWord) (maxL := 3) (ret := (some .int)) (by decide) rfl (Nat.le_of_ble_eq_true rfl) ?_
  intro p e s m below meth c A ls H locs Qm hQm hx hb hr hml hts hown hlocks hA hS hP hK hD hF hl
  have hown : s.vm.findClass RX11 = some m.cls := hown
  have hl : lv_has ls 3 [(0, .ref (Y 0))] := hl
  have k137 := hts (.constantLong RX11 137 (1818325876)) (by decide +kernel)
  have k139 := hts (.constantLong RX11 139 (1835360622)) (by decide +kernel)
  have k141 := hts (.constantLong RX11 141 (500135456356)) (by decide +kernel)
  have k143 := hts (.constantLong RX11 143 (7165066978583999097)) (by decide +kernel)
  have k145 := hts (.constantLong RX11 145 (1953459300)) (by decide +kernel)
  have k147 := hts (.constantLong RX11 147 (2003399525)) (by decide +kernel)
  have k94 := hts (.constant RX11 94 (-1000000)) (by decide +kernel)
  refine lv_aload_n hx hb dX11_wayOfWord_0 rfl (lv_at hl 0 rfl) ?_
  refine mx_callV (As := []) (rest := []) ⟨hx, hb, hml, hown, hts⟩ (mtX11_word l D cI cB cK cS Y R m_thrown m_status m_isThere m_kinds m_newKinds m_print m_low m_high m_lot m_taped m_latest m_length m_cursor m_token m_from m_till m_fault m_faultAt m_traced r_lane r_many r_item r_market r_of r_newMarket r_newStart r_newOf r_newCoin r_state r_kept r_tape r_brings r_seen r_seenOut r_trace (by assumption)) (cwV 0 hts gX11_wayOfWord_X11_word rfl rfl rfl (by decide +kernel) ⟨Nat.le_of_ble_eq_true rfl, Nat.le_of_ble_eq_true rfl⟩) pF0_ok trivial hK hP hD hS hA 0 rfl rfl rfl rfl hl.1 rfl (Nat.le_of_ble_eq_true rfl) dX11_wayOfWord_1 ⟨Nat.le_refl _, Nat.le_refl _⟩ (fun u_1 H locs eu_1 hP hD hS => ?_)
  refine W.eq (g2 := F0 m 4 ls [.long u_1]) rfl ?_
  have hP : va_P D vwCl (mdW Y cI m_thrown m_status m_isThere m_kinds m_newKinds m_print m_low m_high m_lot m_taped m_latest m_length m_cursor m_token m_from m_till m_fault m_faultAt m_traced r_lane r_many r_item r_market r_of r_newMarket r_newStart r_newOf r_newCoin r_state r_kept r_tape r_brings r_seen r_seenOut r_trace ++ R) H := hP
  have hD : va_D A (mdW Y cI m_thrown m_status m_isThere m_kinds m_newKinds m_print m_low m_high m_lot m_taped m_latest m_length m_cursor m_token m_from m_till m_fault m_faultAt m_traced r_lane r_many r_item r_market r_of r_newMarket r_newStart r_newOf r_newCoin r_state r_kept r_tape r_brings r_seen r_seenOut r_trace ++ R) := hD
  refine lv_lstore_n (lv' := [(1, .long u_1), (0, .ref (Y 0))]) hx hb dX11_wayOfWord_4 rfl hl (by decide) rfl (fun ls hl => ?_)
  refine lv_lload_n hx hb dX11_wayOfWord_5 rfl (lv_at hl 0 rfl) ?_
  refine lv_ldc2 (v := 1818325876) hx hb hown k137 dX11_wayOfWord_6 ?_
  refine W.lcmp hx hb dX11_wayOfWord_9 ?_
  refine lv_if_ne (tgt := 17) hx hb dX11_wayOfWord_10 (by decide) (fun c_2 => ?_) (fun c_2 => ?_)
  · have d_2 := i_eqn rfl (show (0 : Int32).toInt = 0 from by decide) c_2
    refine lv_lload_n hx hb dX11_wayOfWord_17 rfl (lv_at hl 0 rfl) ?_
    refine lv_ldc2 (v := 1835360622) hx hb hown k139 dX11_wayOfWord_18 ?_
    refine W.lcmp hx hb dX11_wayOfWord_21 ?_
    refine lv_if_ne (tgt := 29) hx hb dX11_wayOfWord_22 (by decide) (fun c_3 => ?_) (fun c_3 => ?_)
    · have d_3 := i_eqn rfl (show (0 : Int32).toInt = 0 from by decide) c_3
      refine lv_lload_n hx hb dX11_wayOfWord_29 rfl (lv_at hl 0 rfl) ?_
      refine lv_ldc2 (v := 500135456356) hx hb hown k141 dX11_wayOfWord_30 ?_
      refine W.lcmp hx hb dX11_wayOfWord_33 ?_
      refine lv_if_ne (tgt := 41) hx hb dX11_wayOfWord_34 (by decide) (fun c_4 => ?_) (fun c_4 => ?_)
      · have d_4 := i_eqn rfl (show (0 : Int32).toInt = 0 from by decide) c_4
        refine lv_lload_n hx hb dX11_wayOfWord_41 rfl (lv_at hl 0 rfl) ?_
        refine lv_ldc2 (v := 7165066978583999097) hx hb hown k143 dX11_wayOfWord_42 ?_
        refine W.lcmp hx hb dX11_wayOfWord_45 ?_
        refine lv_if_ne (tgt := 53) hx hb dX11_wayOfWord_46 (by decide) (fun c_5 => ?_) (fun c_5 => ?_)
        · have d_5 := i_eqn rfl (show (0 : Int32).toInt = 0 from by decide) c_5
          refine lv_lload_n hx hb dX11_wayOfWord_53 rfl (lv_at hl 0 rfl) ?_
          refine lv_ldc2 (v := 1953459300) hx hb hown k145 dX11_wayOfWord_54 ?_
          refine W.lcmp hx hb dX11_wayOfWord_57 ?_
          refine lv_if_ne (tgt := 65) hx hb dX11_wayOfWord_58 (by decide) (fun c_6 => ?_) (fun c_6 => ?_)
          · have d_6 := i_eqn rfl (show (0 : Int32).toInt = 0 from by decide) c_6
            refine lv_lload_n hx hb dX11_wayOfWord_65 rfl (lv_at hl 0 rfl) ?_
            refine lv_ldc2 (v := 2003399525) hx hb hown k147 dX11_wayOfWord_66 ?_
            refine W.lcmp hx hb dX11_wayOfWord_69 ?_
            refine lv_if_ne (tgt := 78) hx hb dX11_wayOfWord_70 (by decide) (fun c_7 => ?_) (fun c_7 => ?_)
            · have d_7 := i_eqn rfl (show (0 : Int32).toInt = 0 from by decide) c_7
              refine lv_ldc (v := (-1000000)) hx hb hown k94 dX11_wayOfWord_78 ?_
              rw [hQm]
              exact mx_iret (u0 := sX11_wayOfWord m_token m_from m_till m_fault r_tape) (rv := (fun u => some (.int u))) (w1 := (fun _ => mdW Y cI m_thrown m_status m_isThere m_kinds m_newKinds m_print m_low m_high m_lot m_taped m_latest m_length m_cursor m_token m_from m_till m_fault m_faultAt m_traced r_lane r_many r_item r_market r_of r_newMarket r_newStart r_newOf r_newCoin r_state r_kept r_tape r_brings r_seen r_seenOut r_trace ++ R)) (u := ((-1000000))) hx hb hr hlocks hK hS (lt_eq eu_1 ((if_neg c_2).trans ((if_neg c_3).trans ((if_neg c_4).trans ((if_neg c_5).trans ((if_neg c_6).trans ((if_neg c_7).trans rfl))))))) hP hD rfl dX11_wayOfWord_80
            · have d_7 := i_eq rfl (show (0 : Int32).toInt = 0 from by decide) c_7
              refine lv_bipush (v := 6) hx hb dX11_wayOfWord_73 (by decide) ?_
              refine lv_goto (tgt := 80) hx hb dX11_wayOfWord_75 (by decide) ?_
              rw [hQm]
              exact mx_iret (u0 := sX11_wayOfWord m_token m_from m_till m_fault r_tape) (rv := (fun u => some (.int u))) (w1 := (fun _ => mdW Y cI m_thrown m_status m_isThere m_kinds m_newKinds m_print m_low m_high m_lot m_taped m_latest m_length m_cursor m_token m_from m_till m_fault m_faultAt m_traced r_lane r_many r_item r_market r_of r_newMarket r_newStart r_newOf r_newCoin r_state r_kept r_tape r_brings r_seen r_seenOut r_trace ++ R)) (u := (6)) hx hb hr hlocks hK hS (lt_eq eu_1 ((if_neg c_2).trans ((if_neg c_3).trans ((if_neg c_4).trans ((if_neg c_5).trans ((if_neg c_6).trans ((if_pos c_7).trans rfl))))))) hP hD rfl dX11_wayOfWord_80
          · have d_6 := i_eq rfl (show (0 : Int32).toInt = 0 from by decide) c_6
            refine lv_iconst (v := 5) hx hb dX11_wayOfWord_61 (by decide) ?_
            refine lv_goto (tgt := 80) hx hb dX11_wayOfWord_62 (by decide) ?_
            rw [hQm]
            exact mx_iret (u0 := sX11_wayOfWord m_token m_from m_till m_fault r_tape) (rv := (fun u => some (.int u))) (w1 := (fun _ => mdW Y cI m_thrown m_status m_isThere m_kinds m_newKinds m_print m_low m_high m_lot m_taped m_latest m_length m_cursor m_token m_from m_till m_fault m_faultAt m_traced r_lane r_many r_item r_market r_of r_newMarket r_newStart r_newOf r_newCoin r_state r_kept r_tape r_brings r_seen r_seenOut r_trace ++ R)) (u := (5)) hx hb hr hlocks hK hS (lt_eq eu_1 ((if_neg c_2).trans ((if_neg c_3).trans ((if_neg c_4).trans ((if_neg c_5).trans ((if_pos c_6).trans rfl)))))) hP hD rfl dX11_wayOfWord_80
        · have d_5 := i_eq rfl (show (0 : Int32).toInt = 0 from by decide) c_5
          refine lv_iconst (v := 4) hx hb dX11_wayOfWord_49 (by decide) ?_
          refine lv_goto (tgt := 80) hx hb dX11_wayOfWord_50 (by decide) ?_
          rw [hQm]
          exact mx_iret (u0 := sX11_wayOfWord m_token m_from m_till m_fault r_tape) (rv := (fun u => some (.int u))) (w1 := (fun _ => mdW Y cI m_thrown m_status m_isThere m_kinds m_newKinds m_print m_low m_high m_lot m_taped m_latest m_length m_cursor m_token m_from m_till m_fault m_faultAt m_traced r_lane r_many r_item r_market r_of r_newMarket r_newStart r_newOf r_newCoin r_state r_kept r_tape r_brings r_seen r_seenOut r_trace ++ R)) (u := (4)) hx hb hr hlocks hK hS (lt_eq eu_1 ((if_neg c_2).trans ((if_neg c_3).trans ((if_neg c_4).trans ((if_pos c_5).trans rfl))))) hP hD rfl dX11_wayOfWord_80
      · have d_4 := i_eq rfl (show (0 : Int32).toInt = 0 from by decide) c_4
        refine lv_iconst (v := 3) hx hb dX11_wayOfWord_37 (by decide) ?_
        refine lv_goto (tgt := 80) hx hb dX11_wayOfWord_38 (by decide) ?_
        rw [hQm]
        exact mx_iret (u0 := sX11_wayOfWord m_token m_from m_till m_fault r_tape) (rv := (fun u => some (.int u))) (w1 := (fun _ => mdW Y cI m_thrown m_status m_isThere m_kinds m_newKinds m_print m_low m_high m_lot m_taped m_latest m_length m_cursor m_token m_from m_till m_fault m_faultAt m_traced r_lane r_many r_item r_market r_of r_newMarket r_newStart r_newOf r_newCoin r_state r_kept r_tape r_brings r_seen r_seenOut r_trace ++ R)) (u := (3)) hx hb hr hlocks hK hS (lt_eq eu_1 ((if_neg c_2).trans ((if_neg c_3).trans ((if_pos c_4).trans rfl)))) hP hD rfl dX11_wayOfWord_80
    · have d_3 := i_eq rfl (show (0 : Int32).toInt = 0 from by decide) c_3
      refine lv_iconst (v := 2) hx hb dX11_wayOfWord_25 (by decide) ?_
      refine lv_goto (tgt := 80) hx hb dX11_wayOfWord_26 (by decide) ?_
      rw [hQm]
      exact mx_iret (u0 := sX11_wayOfWord m_token m_from m_till m_fault r_tape) (rv := (fun u => some (.int u))) (w1 := (fun _ => mdW Y cI m_thrown m_status m_isThere m_kinds m_newKinds m_print m_low m_high m_lot m_taped m_latest m_length m_cursor m_token m_from m_till m_fault m_faultAt m_traced r_lane r_many r_item r_market r_of r_newMarket r_newStart r_newOf r_newCoin r_state r_kept r_tape r_brings r_seen r_seenOut r_trace ++ R)) (u := (2)) hx hb hr hlocks hK hS (lt_eq eu_1 ((if_neg c_2).trans ((if_pos c_3).trans rfl))) hP hD rfl dX11_wayOfWord_80
  · have d_2 := i_eq rfl (show (0 : Int32).toInt = 0 from by decide) c_2
    refine lv_iconst (v := 1) hx hb dX11_wayOfWord_13 (by decide) ?_
    refine lv_goto (tgt := 80) hx hb dX11_wayOfWord_14 (by decide) ?_
    rw [hQm]
    exact mx_iret (u0 := sX11_wayOfWord m_token m_from m_till m_fault r_tape) (rv := (fun u => some (.int u))) (w1 := (fun _ => mdW Y cI m_thrown m_status m_isThere m_kinds m_newKinds m_print m_low m_high m_lot m_taped m_latest m_length m_cursor m_token m_from m_till m_fault m_faultAt m_traced r_lane r_many r_item r_market r_of r_newMarket r_newStart r_newOf r_newCoin r_state r_kept r_tape r_brings r_seen r_seenOut r_trace ++ R)) (u := (1)) hx hb hr hlocks hK hS (lt_eq eu_1 ((if_pos c_2).trans rfl)) hP hD rfl dX11_wayOfWord_80

def sX11_mustEnd (m_length : Int32) (m_cursor : Int32) (m_token : Int32) (m_from : Int32) (m_till : Int32) (m_fault : Int32) (m_faultAt : Int32) (r_tape : Nat → Int32) : (Int32) × (Int32) × (Int32) × (Int32) × (Int32) × (Int32) := if m_fault = 0 then (lt (if m_token = 4 then (1) else (0)) (fun y_2 : Int32 => lt (sX11_must y_2 m_length m_cursor m_token m_from m_till m_fault m_faultAt r_tape) (fun u_4 : (Int32) × (Int32) × (Int32) × (Int32) × (Int32) × (Int32) => (u_4.1, u_4.2.1, u_4.2.2.1, u_4.2.2.2.1, u_4.2.2.2.2.1, u_4.2.2.2.2.2)))) else ((m_cursor, m_token, m_from, m_till, m_fault, m_faultAt))
set_option maxHeartbeats 4000000 in
set_option maxRecDepth 100000 in
theorem mtX11_mustEnd (l : Launch) (D : va_G) (cI cB cK cS : ClassId) (Y : Nat → Nat) (R : va_W) (m_thrown : Int32) (m_status : Int32) (m_isThere : Int32) (m_kinds : Int32) (m_newKinds : Int32) (m_print : Int32) (m_low : Int32) (m_high : Int32) (m_lot : Int32) (m_taped : Int32) (m_latest : Int32) (m_length : Int32) (m_cursor : Int32) (m_token : Int32) (m_from : Int32) (m_till : Int32) (m_fault : Int32) (m_faultAt : Int32) (m_traced : Int32) (r_lane : Nat → Int32) (r_many : Nat → Int32) (r_item : Nat → Int32) (r_market : Nat → Int32) (r_of : Nat → Int32) (r_newMarket : Nat → Int32) (r_newStart : Nat → Int32) (r_newOf : Nat → Int32) (r_newCoin : Nat → Int32) (r_state : Nat → Int32) (r_kept : Nat → Int32) (r_tape : Nat → Int32) (r_brings : Nat → Int32) (r_seen : Nat → Int32) (r_seenOut : Nat → Int32) (r_trace : Nat → Int32) (hln : m_length.toInt ≤ 400) (hrd : rd_ok m_cursor m_from m_till) : MX l yX11_mustEnd wsX11_mustEnd (rmX 4) D (tyX cI cB cK cS) pF0 (mdW Y cI m_thrown m_status m_isThere m_kinds m_newKinds m_print m_low m_high m_lot m_taped m_latest m_length m_cursor m_token m_from m_till m_fault m_faultAt m_traced r_lane r_many r_item r_market r_of r_newMarket r_newStart r_newOf r_newCoin r_state r_kept r_tape r_brings r_seen r_seenOut r_trace ++ R) [.ref (Y 0)] (sX11_mustEnd m_length m_cursor m_token m_from m_till m_fault m_faultAt r_tape) (fun _ => none) (fun u => mdW Y cI m_thrown m_status m_isThere m_kinds m_newKinds m_print m_low m_high m_lot m_taped m_latest m_length u.1 u.2.1 u.2.2.1 u.2.2.2.1 u.2.2.2.2.1 u.2.2.2.2.2 m_traced r_lane r_many r_item r_market r_of r_newMarket r_newStart r_newOf r_newCoin r_state r_kept r_tape r_brings r_seen r_seenOut r_trace ++ R) := by
  refine mx_intro (cc := cX11_mustEnd) (maxL := 1) (ret := none) (by decide) rfl (Nat.le_of_ble_eq_true rfl) ?_
  intro p e s m below meth c A ls H locs Qm hQm hx hb hr hml hts hown hlocks hA hS hP hK hD hF hl
  have hown : s.vm.findClass RX11 = some m.cls := hown
  have hl : lv_has ls 1 [(0, .ref (Y 0))] := hl
  have k116 := hts (.fieldLink RX11 116 "PigRoundsModel" "fault" "I") (by decide +kernel)
  have k104 := hts (.fieldLink RX11 104 "PigRoundsModel" "token" "I") (by decide +kernel)
  have iX11 : ∀ w ∈ u_ws RX11 TX11 35, w ∈ wsX11_mustEnd := by decide +kernel
  refine lv_aload_n hx hb dX11_mustEnd_0 rfl (lv_at hl 0 rfl) ?_
  refine va_get (D := D) (ci := 9) (v := .int m_fault) (C := RX11) (T := TX11) (N := 35) hx hb hts iX11 hown hK hP 0 rfl rfl 28 (by decide) k116 (fun _ h9 => h9) rfl dX11_mustEnd_1 ?_
  refine lv_if_ne (tgt := 24) hx hb dX11_mustEnd_4 (by decide) (fun c_1 => ?_) (fun c_1 => ?_)
  · have d_1 := i_eqn rfl (show (0 : Int32).toInt = 0 from by decide) c_1
    rw [hQm]
    exact mx_vret (u0 := sX11_mustEnd m_length m_cursor m_token m_from m_till m_fault m_faultAt r_tape) (rv := (fun _ => none)) (w1 := (fun u => mdW Y cI m_thrown m_status m_isThere m_kinds m_newKinds m_print m_low m_high m_lot m_taped m_latest m_length u.1 u.2.1 u.2.2.1 u.2.2.2.1 u.2.2.2.2.1 u.2.2.2.2.2 m_traced r_lane r_many r_item r_market r_of r_newMarket r_newStart r_newOf r_newCoin r_state r_kept r_tape r_brings r_seen r_seenOut r_trace ++ R)) (u := (m_cursor, m_token, m_from, m_till, m_fault, m_faultAt)) hx hb hr hlocks hK hS ((if_neg c_1).trans rfl) hP hD rfl dX11_mustEnd_24
  · have d_1 := i_eq rfl (show (0 : Int32).toInt = 0 from by decide) c_1
    refine lv_aload_n hx hb dX11_mustEnd_7 rfl (lv_at hl 0 rfl) ?_
    refine lv_aload_n hx hb dX11_mustEnd_8 rfl (lv_at hl 0 rfl) ?_
    refine va_get (D := D) (ci := 9) (v := .int m_token) (C := RX11) (T := TX11) (N := 35) hx hb hts iX11 hown hK hP 0 rfl rfl 25 (by decide) k104 (fun _ h9 => h9) rfl dX11_mustEnd_9 ?_
    refine lv_iconst (v := 4) hx hb dX11_mustEnd_12 (by decide) ?_
    have J_2 : ∀ (y_2 : Int32) (H : Heap) (locs : List Loc) (ls : Array Slot), y_2 = (if m_token = 4 then (1) else (0)) → va_P D vwCl (mdW Y cI m_thrown m_status m_isThere m_kinds m_newKinds m_print m_low m_high m_lot m_taped m_latest m_length m_cursor m_token m_from m_till m_fault m_faultAt m_traced r_lane r_many r_item r_market r_of r_newMarket r_newStart r_newOf r_newCoin r_state r_kept r_tape r_brings r_seen r_seenOut r_trace ++ R) H → va_D A (mdW Y cI m_thrown m_status m_isThere m_kinds m_newKinds m_print m_low m_high m_lot m_taped m_latest m_length m_cursor m_token m_from m_till m_fault m_faultAt m_traced r_lane r_many r_item r_market r_of r_newMarket r_newStart r_newOf r_newCoin r_state r_kept r_tape r_brings r_seen r_seenOut r_trace ++ R) → va_S A s.heap H locs → lv_has ls 1 [] → W p l e (rmX 4) s m ([.ref (Y 0)] : List Value).toArray below meth c H locs 0 0 Qm (F0 m 21 ls [.int y_2, .ref (Y 0)]) := by
      intro y_2 H locs ls ey_2 hP hD hS hl
      refine mx_callV (As := [.int y_2]) (rest := []) ⟨hx, hb, hml, hown, hts⟩ (mtX11_must l D cI cB cK cS Y R m_thrown m_status m_isThere m_kinds m_newKinds m_print m_low m_high m_lot m_taped m_latest m_length m_cursor m_token m_from m_till m_fault m_faultAt m_traced r_lane r_many r_item r_market r_of r_newMarket r_newStart r_newOf r_newCoin r_state r_kept r_tape r_brings r_seen r_seenOut r_trace y_2 (by assumption) (by assumption)) (cwV 1 hts gX11_mustEnd_X11_must rfl rfl rfl (by decide +kernel) ⟨Nat.le_of_ble_eq_true rfl, Nat.le_of_ble_eq_true rfl⟩) pF0_ok trivial hK hP hD hS hA 0 rfl rfl rfl rfl hl.1 rfl (Nat.le_of_ble_eq_true rfl) dX11_mustEnd_21 ⟨Nat.le_refl _, Nat.le_refl _⟩ (fun u_4 H locs eu_4 hP hD hS => ?_)
      refine W.eq (g2 := F0 m 24 ls []) rfl ?_
      have hP : va_P D vwCl (mdW Y cI m_thrown m_status m_isThere m_kinds m_newKinds m_print m_low m_high m_lot m_taped m_latest m_length u_4.1 u_4.2.1 u_4.2.2.1 u_4.2.2.2.1 u_4.2.2.2.2.1 u_4.2.2.2.2.2 m_traced r_lane r_many r_item r_market r_of r_newMarket r_newStart r_newOf r_newCoin r_state r_kept r_tape r_brings r_seen r_seenOut r_trace ++ R) H := hP
      have hD : va_D A (mdW Y cI m_thrown m_status m_isThere m_kinds m_newKinds m_print m_low m_high m_lot m_taped m_latest m_length u_4.1 u_4.2.1 u_4.2.2.1 u_4.2.2.2.1 u_4.2.2.2.2.1 u_4.2.2.2.2.2 m_traced r_lane r_many r_item r_market r_of r_newMarket r_newStart r_newOf r_newCoin r_state r_kept r_tape r_brings r_seen r_seenOut r_trace ++ R) := hD
      have hrd_u_4 := sX11_must_ok (by assumption) (by assumption) eu_4
      rw [hQm]
      exact mx_vret (u0 := sX11_mustEnd m_length m_cursor m_token m_from m_till m_fault m_faultAt r_tape) (rv := (fun _ => none)) (w1 := (fun u => mdW Y cI m_thrown m_status m_isThere m_kinds m_newKinds m_print m_low m_high m_lot m_taped m_latest m_length u.1 u.2.1 u.2.2.1 u.2.2.2.1 u.2.2.2.2.1 u.2.2.2.2.2 m_traced r_lane r_many r_item r_market r_of r_newMarket r_newStart r_newOf r_newCoin r_state r_kept r_tape r_brings r_seen r_seenOut r_trace ++ R)) (u := (u_4.1, u_4.2.1, u_4.2.2.1, u_4.2.2.2.1, u_4.2.2.2.2.1, u_4.2.2.2.2.2)) hx hb hr hlocks hK hS ((if_pos c_1).trans (lt_eq ey_2 (lt_eq eu_4 rfl))) hP hD rfl dX11_mustEnd_24
    refine lv_icmp_ne (tgt := 20) hx hb dX11_mustEnd_13 (by decide) (fun c_3 => ?_) (fun c_3 => ?_)
    · have d_3 := i_eqn rfl (show (4 : Int32).toInt = 4 from by decide) c_3
      refine lv_iconst (v := 0) hx hb dX11_mustEnd_20 (by decide) ?_
      exact J_2 0 H locs ls (Eq.symm ((if_neg c_3).trans rfl)) hP hD hS (lv_sub hl [] rfl)
    · have d_3 := i_eq rfl (show (4 : Int32).toInt = 4 from by decide) c_3
      refine lv_iconst (v := 1) hx hb dX11_mustEnd_16 (by decide) ?_
      refine lv_goto (tgt := 21) hx hb dX11_mustEnd_17 (by decide) ?_
      exact J_2 1 H locs ls (Eq.symm ((if_pos c_3).trans rfl)) hP hD hS (lv_sub hl [] rfl)
theorem sX11_mustEnd_ok {len cu tk fr ti fa at9 : Int32} {tape : Nat → Int32} {u : Int32 × Int32 × Int32 × Int32 × Int32 × Int32} (hl : len.toInt ≤ 400) (h : rd_ok cu fr ti) (e : u = sX11_mustEnd len cu tk fr ti fa at9 tape) : rd_ok u.1 u.2.2.1 u.2.2.2.1 := by
  subst e
  unfold sX11_mustEnd
  simp only [lt]
  exact if_P (fun u : Int32 × Int32 × Int32 × Int32 × Int32 × Int32 => rd_ok u.1 u.2.2.1 u.2.2.2.1) (fun _ => sX11_must_ok hl h rfl) (fun _ => h)
theorem sX11_mustEnd_f {len cu tk fr ti fa at9 : Int32} {tape : Nat → Int32} {u : Int32 × Int32 × Int32 × Int32 × Int32 × Int32} (e : u = sX11_mustEnd len cu tk fr ti fa at9 tape) (h : u.2.2.2.2.1 = 0) : fa = 0 := by
  subst e
  unfold sX11_mustEnd at h
  simp only [lt] at h
  rcases Classical.em (fa = 0) with hf | hf
  · exact hf
  · simp only [if_neg hf] at h
    exact h
theorem rk_first {nk fa at9 tk fr ti cu len : Int32} {tape : Nat → Int32} {w1 w2 : Int64} {ya : Int32 × Int32} {yb : Int32} {u : Int32 × Int32 × Int32 × Int32 × Int32 × Int32} (h0 : 0 ≤ nk.toInt) (h1 : nk.toInt ≤ 5) (hf : fa = 0)
    (e1 : w1 = sX11_word tk fr ti fa tape) (ea : ya = (if (lg_cmp w1 1802071652) = 0 then (if nk = 5 then (lt (sX11_bad 3 fr fa at9) (fun u : Int32 × Int32 => (u.1, u.2))) else ((fa, at9))) else ((fa, at9)))) (e2 : w2 = sX11_word tk fr ti ya.1 tape) (eb : yb = (if (lg_cmp w2 1802071652) = 0 then (1) else (0))) (eu : u = sX11_must yb len cu tk fr ti ya.1 ya.2 tape) : u.2.2.2.2.1 = 0 → nk.toInt < 5 := by
  intro h
  obtain ⟨ha, hb⟩ := sX11_must_f eu h
  rcases Classical.em (nk = 5) with h5 | h5
  · exfalso
    have hw : w2 = w1 := by rw [e2, e1, ha, hf]
    rw [hw] at eb
    rcases Classical.em (lg_cmp w1 1802071652 = 0) with hc | hc
    · rw [if_pos hc, if_pos h5] at ea
      rw [ea] at ha
      exact sX11_bad_f (k := 3) (by decide) rfl ha
    · rw [if_neg hc] at eb
      exact hb eb
  · have := i_eqn rfl (show (5 : Int32).toInt = 5 from by decide) h5
    omega
def sX11_readKind (m_newKinds : Int32) (m_length : Int32) (m_cursor : Int32) (m_token : Int32) (m_from : Int32) (m_till : Int32) (m_fault : Int32) (m_faultAt : Int32) (r_newOf : Nat → Int32) (r_newCoin : Nat → Int32) (r_tape : Nat → Int32) : (Int32) × (Int32) × (Int32) × (Int32) × (Int32) × (Int32) × (Int32) × (Nat → Int32) × (Nat → Int32) := lt (sX11_word m_token m_from m_till m_fault r_tape) (fun u_1 : Int64 => lt (if (lg_cmp u_1 1802071652) = 0 then (if m_newKinds = 5 then (lt (sX11_bad 3 m_from m_fault m_faultAt) (fun u_5 : (Int32) × (Int32) => (u_5.1, u_5.2))) else ((m_fault, m_faultAt))) else ((m_fault, m_faultAt))) (fun y_2 : Int32 × Int32 => lt (sX11_word m_token m_from m_till y_2.1 r_tape) (fun u_6 : Int64 => lt (if (lg_cmp u_6 1802071652) = 0 then (1) else (0)) (fun y_7 : Int32 => lt (sX11_must y_7 m_length m_cursor m_token m_from m_till y_2.1 y_2.2 r_tape) (fun u_9 : (Int32) × (Int32) × (Int32) × (Int32) × (Int32) × (Int32) => lt (sX11_wayOfWord u_9.2.1 u_9.2.2.1 u_9.2.2.2.1 u_9.2.2.2.2.1 r_tape) (fun u_10 : Int32 => lt (if u_9.2.2.2.2.1 = 0 then (lt (if u_10 = (-1000000) then (0) else (1)) (fun y_13 : Int32 => lt (sX11_must y_13 m_length u_9.1 u_9.2.1 u_9.2.2.1 u_9.2.2.2.1 u_9.2.2.2.2.1 u_9.2.2.2.2.2 r_tape) (fun u_15 : (Int32) × (Int32) × (Int32) × (Int32) × (Int32) × (Int32) => (u_15.1, u_15.2.1, u_15.2.2.1, u_15.2.2.2.1, u_15.2.2.2.2.1, u_15.2.2.2.2.2)))) else ((u_9.1, u_9.2.1, u_9.2.2.1, u_9.2.2.2.1, u_9.2.2.2.2.1, u_9.2.2.2.2.2))) (fun y_11 : Int32 × Int32 × Int32 × Int32 × Int32 × Int32 => lt (if u_10 = 2 then (lt (sX11_numberIn 1 3 m_length y_11.1 y_11.2.1 y_11.2.2.1 y_11.2.2.2.1 y_11.2.2.2.2.1 y_11.2.2.2.2.2 r_tape) (fun u_20 : Int32 × (Int32) × (Int32) × (Int32) × (Int32) × (Int32) × (Int32) => (u_20.1, u_20.2.1, u_20.2.2.1, u_20.2.2.2.1, u_20.2.2.2.2.1, u_20.2.2.2.2.2.1, u_20.2.2.2.2.2.2))) else (if u_10 = 3 then (lt (sX11_numberIn 0 9 m_length y_11.1 y_11.2.1 y_11.2.2.1 y_11.2.2.2.1 y_11.2.2.2.2.1 y_11.2.2.2.2.2 r_tape) (fun u_19 : Int32 × (Int32) × (Int32) × (Int32) × (Int32) × (Int32) × (Int32) => (u_19.1, u_19.2.1, u_19.2.2.1, u_19.2.2.2.1, u_19.2.2.2.2.1, u_19.2.2.2.2.2.1, u_19.2.2.2.2.2.2))) else ((0, y_11.1, y_11.2.1, y_11.2.2.1, y_11.2.2.2.1, y_11.2.2.2.2.1, y_11.2.2.2.2.2)))) (fun y_16 : Int32 × Int32 × Int32 × Int32 × Int32 × Int32 × Int32 => lt (sX11_numberIn 1 40 m_length y_16.2.1 y_16.2.2.1 y_16.2.2.2.1 y_16.2.2.2.2.1 y_16.2.2.2.2.2.1 y_16.2.2.2.2.2.2 r_tape) (fun u_21 : Int32 × (Int32) × (Int32) × (Int32) × (Int32) × (Int32) × (Int32) => lt (sX11_numberIn 0 9 m_length u_21.2.1 u_21.2.2.1 u_21.2.2.2.1 u_21.2.2.2.2.1 u_21.2.2.2.2.2.1 u_21.2.2.2.2.2.2 r_tape) (fun u_22 : Int32 × (Int32) × (Int32) × (Int32) × (Int32) × (Int32) × (Int32) => lt (sX11_numberIn 0 20 m_length u_22.2.1 u_22.2.2.1 u_22.2.2.2.1 u_22.2.2.2.2.1 u_22.2.2.2.2.2.1 u_22.2.2.2.2.2.2 r_tape) (fun u_23 : Int32 × (Int32) × (Int32) × (Int32) × (Int32) × (Int32) × (Int32) => lt (sX11_numberIn 0 99 m_length u_23.2.1 u_23.2.2.1 u_23.2.2.2.1 u_23.2.2.2.2.1 u_23.2.2.2.2.2.1 u_23.2.2.2.2.2.2 r_tape) (fun u_24 : Int32 × (Int32) × (Int32) × (Int32) × (Int32) × (Int32) × (Int32) => lt (sX11_numberIn 0 999 m_length u_24.2.1 u_24.2.2.1 u_24.2.2.2.1 u_24.2.2.2.2.1 u_24.2.2.2.2.2.1 u_24.2.2.2.2.2.2 r_tape) (fun u_25 : Int32 × (Int32) × (Int32) × (Int32) × (Int32) × (Int32) × (Int32) => lt (sX11_mustEnd m_length u_25.2.1 u_25.2.2.1 u_25.2.2.2.1 u_25.2.2.2.2.1 u_25.2.2.2.2.2.1 u_25.2.2.2.2.2.2 r_tape) (fun u_26 : (Int32) × (Int32) × (Int32) × (Int32) × (Int32) × (Int32) => if u_26.2.2.2.2.1 = 0 then (lt (6 * m_newKinds) (fun x_28 : Int32 => lt (upd r_newOf (x_28 + 0).toNatClampNeg u_10) (fun ar_30 : Nat → Int32 => lt (upd ar_30 (x_28 + 1).toNatClampNeg y_16.1) (fun ar_32 : Nat → Int32 => lt (upd ar_32 (x_28 + 2).toNatClampNeg u_21.1) (fun ar_34 : Nat → Int32 => lt (upd ar_34 (x_28 + 3).toNatClampNeg u_22.1) (fun ar_36 : Nat → Int32 => lt (upd ar_36 (x_28 + 4).toNatClampNeg u_23.1) (fun ar_38 : Nat → Int32 => lt (upd ar_38 (x_28 + 5).toNatClampNeg u_24.1) (fun ar_40 : Nat → Int32 => lt (upd r_newCoin m_newKinds.toNatClampNeg u_25.1) (fun ar_42 : Nat → Int32 => (m_newKinds + 1, u_26.1, u_26.2.1, u_26.2.2.1, u_26.2.2.2.1, u_26.2.2.2.2.1, u_26.2.2.2.2.2, ar_40, ar_42)))))))))) else ((m_newKinds, u_26.1, u_26.2.1, u_26.2.2.1, u_26.2.2.2.1, u_26.2.2.2.2.1, u_26.2.2.2.2.2, r_newOf, r_newCoin))))))))))))))))
set_option maxHeartbeats 4000000 in
set_option maxRecDepth 100000 in
theorem mtX11_readKind (l : Launch) (D : va_G) (cI cB cK cS : ClassId) (Y : Nat → Nat) (R : va_W) (m_thrown : Int32) (m_status : Int32) (m_isThere : Int32) (m_kinds : Int32) (m_newKinds : Int32) (m_print : Int32) (m_low : Int32) (m_high : Int32) (m_lot : Int32) (m_taped : Int32) (m_latest : Int32) (m_length : Int32) (m_cursor : Int32) (m_token : Int32) (m_from : Int32) (m_till : Int32) (m_fault : Int32) (m_faultAt : Int32) (m_traced : Int32) (r_lane : Nat → Int32) (r_many : Nat → Int32) (r_item : Nat → Int32) (r_market : Nat → Int32) (r_of : Nat → Int32) (r_newMarket : Nat → Int32) (r_newStart : Nat → Int32) (r_newOf : Nat → Int32) (r_newCoin : Nat → Int32) (r_state : Nat → Int32) (r_kept : Nat → Int32) (r_tape : Nat → Int32) (r_brings : Nat → Int32) (r_seen : Nat → Int32) (r_seenOut : Nat → Int32) (r_trace : Nat → Int32) (hln : m_length.toInt ≤ 400) (hrd : rd_ok m_cursor m_from m_till) (hnk0 : 0 ≤ m_newKinds.toInt) (hnk1 : m_newKinds.toInt ≤ 5) (hfz : m_fault = 0) : MX l yX11_readKind wsX11_readKind (rmX 5) D (tyX cI cB cK cS) pF0 (mdW Y cI m_thrown m_status m_isThere m_kinds m_newKinds m_print m_low m_high m_lot m_taped m_latest m_length m_cursor m_token m_from m_till m_fault m_faultAt m_traced r_lane r_many r_item r_market r_of r_newMarket r_newStart r_newOf r_newCoin r_state r_kept r_tape r_brings r_seen r_seenOut r_trace ++ R) [.ref (Y 0)] (sX11_readKind m_newKinds m_length m_cursor m_token m_from m_till m_fault m_faultAt r_newOf r_newCoin r_tape) (fun _ => none) (fun u => mdW Y cI m_thrown m_status m_isThere m_kinds u.1 m_print m_low m_high m_lot m_taped m_latest m_length u.2.1 u.2.2.1 u.2.2.2.1 u.2.2.2.2.1 u.2.2.2.2.2.1 u.2.2.2.2.2.2.1 m_traced r_lane r_many r_item r_market r_of r_newMarket r_newStart u.2.2.2.2.2.2.2.1 u.2.2.2.2.2.2.2.2 r_state r_kept r_tape r_brings r_seen r_seenOut r_trace ++ R) := by
  refine mx_intro (cc := cX11_readKind) (maxL := 9) (ret := none) (by decide) rfl (Nat.le_of_ble_eq_true rfl) ?_
  intro p e s m below meth c A ls H locs Qm hQm hx hb hr hml hts hown hlocks hA hS hP hK hD hF hl
  have hown : s.vm.findClass RX11 = some m.cls := hown
  have hl : lv_has ls 9 [(0, .ref (Y 0))] := hl
  obtain ⟨⟨hc0, hc1⟩, ⟨hf0, hf1⟩, ⟨ht0, ht1⟩⟩ := id hrd
  have k149 := hts (.constantLong RX11 149 (1802071652)) (by decide +kernel)
  have k151 := hts (.fieldLink RX11 151 "PigRoundsModel" "newKinds" "I") (by decide +kernel)
  have k116 := hts (.fieldLink RX11 116 "PigRoundsModel" "fault" "I") (by decide +kernel)
  have k94 := hts (.constant RX11 94 (-1000000)) (by decide +kernel)
  have k31 := hts (.fieldLink RX11 31 "PigRoundsModel" "newOf" "[I") (by decide +kernel)
  have k34 := hts (.fieldLink RX11 34 "PigRoundsModel" "newCoin" "[I") (by decide +kernel)
  have iX11 : ∀ w ∈ u_ws RX11 TX11 35, w ∈ wsX11_readKind := by decide +kernel
  refine lv_aload_n hx hb dX11_readKind_0 rfl (lv_at hl 0 rfl) ?_
  refine mx_callV (As := []) (rest := []) ⟨hx, hb, hml, hown, hts⟩ (mtX11_word l D cI cB cK cS Y R m_thrown m_status m_isThere m_kinds m_newKinds m_print m_low m_high m_lot m_taped m_latest m_length m_cursor m_token m_from m_till m_fault m_faultAt m_traced r_lane r_many r_item r_market r_of r_newMarket r_newStart r_newOf r_newCoin r_state r_kept r_tape r_brings r_seen r_seenOut r_trace (by assumption)) (cwV 0 hts gX11_readKind_X11_word rfl rfl rfl (by decide +kernel) ⟨Nat.le_of_ble_eq_true rfl, Nat.le_of_ble_eq_true rfl⟩) pF0_ok trivial hK hP hD hS hA 0 rfl rfl rfl rfl hl.1 rfl (Nat.le_of_ble_eq_true rfl) dX11_readKind_1 ⟨Nat.le_refl _, Nat.le_refl _⟩ (fun u_1 H locs eu_1 hP hD hS => ?_)
  refine W.eq (g2 := F0 m 4 ls [.long u_1]) rfl ?_
  have hP : va_P D vwCl (mdW Y cI m_thrown m_status m_isThere m_kinds m_newKinds m_print m_low m_high m_lot m_taped m_latest m_length m_cursor m_token m_from m_till m_fault m_faultAt m_traced r_lane r_many r_item r_market r_of r_newMarket r_newStart r_newOf r_newCoin r_state r_kept r_tape r_brings r_seen r_seenOut r_trace ++ R) H := hP
  have hD : va_D A (mdW Y cI m_thrown m_status m_isThere m_kinds m_newKinds m_print m_low m_high m_lot m_taped m_latest m_length m_cursor m_token m_from m_till m_fault m_faultAt m_traced r_lane r_many r_item r_market r_of r_newMarket r_newStart r_newOf r_newCoin r_state r_kept r_tape r_brings r_seen r_seenOut r_trace ++ R) := hD
  refine lv_ldc2 (v := 1802071652) hx hb hown k149 dX11_readKind_4 ?_
  refine W.lcmp hx hb dX11_readKind_7 ?_
  have J_2 : ∀ (y_2 : Int32 × Int32) (H : Heap) (locs : List Loc) (ls : Array Slot), y_2 = (if (lg_cmp u_1 1802071652) = 0 then (if m_newKinds = 5 then (lt (sX11_bad 3 m_from m_fault m_faultAt) (fun u_5 : (Int32) × (Int32) => (u_5.1, u_5.2))) else ((m_fault, m_faultAt))) else ((m_fault, m_faultAt))) → va_P D vwCl (mdW Y cI m_thrown m_status m_isThere m_kinds m_newKinds m_print m_low m_high m_lot m_taped m_latest m_length m_cursor m_token m_from m_till y_2.1 y_2.2 m_traced r_lane r_many r_item r_market r_of r_newMarket r_newStart r_newOf r_newCoin r_state r_kept r_tape r_brings r_seen r_seenOut r_trace ++ R) H → va_D A (mdW Y cI m_thrown m_status m_isThere m_kinds m_newKinds m_print m_low m_high m_lot m_taped m_latest m_length m_cursor m_token m_from m_till y_2.1 y_2.2 m_traced r_lane r_many r_item r_market r_of r_newMarket r_newStart r_newOf r_newCoin r_state r_kept r_tape r_brings r_seen r_seenOut r_trace ++ R) → va_S A s.heap H locs → lv_has ls 9 [(0, .ref (Y 0))] → W p l e (rmX 5) s m ([.ref (Y 0)] : List Value).toArray below meth c H locs 0 0 Qm (F0 m 24 ls []) := by
    intro y_2 H locs ls ey_2 hP hD hS hl
    refine lv_aload_n hx hb dX11_readKind_24 rfl (lv_at hl 0 rfl) ?_
    refine lv_aload_n hx hb dX11_readKind_25 rfl (lv_at hl 0 rfl) ?_
    refine mx_callV (As := []) (rest := [.ref (Y 0)]) ⟨hx, hb, hml, hown, hts⟩ (mtX11_word l D cI cB cK cS Y R m_thrown m_status m_isThere m_kinds m_newKinds m_print m_low m_high m_lot m_taped m_latest m_length m_cursor m_token m_from m_till y_2.1 y_2.2 m_traced r_lane r_many r_item r_market r_of r_newMarket r_newStart r_newOf r_newCoin r_state r_kept r_tape r_brings r_seen r_seenOut r_trace (by assumption)) (cwV 0 hts gX11_readKind_X11_word rfl rfl rfl (by decide +kernel) ⟨Nat.le_of_ble_eq_true rfl, Nat.le_of_ble_eq_true rfl⟩) pF0_ok trivial hK hP hD hS hA 0 rfl rfl rfl rfl hl.1 rfl (Nat.le_of_ble_eq_true rfl) dX11_readKind_26 ⟨Nat.le_refl _, Nat.le_refl _⟩ (fun u_6 H locs eu_6 hP hD hS => ?_)
    refine W.eq (g2 := F0 m 29 ls [.long u_6, .ref (Y 0)]) rfl ?_
    have hP : va_P D vwCl (mdW Y cI m_thrown m_status m_isThere m_kinds m_newKinds m_print m_low m_high m_lot m_taped m_latest m_length m_cursor m_token m_from m_till y_2.1 y_2.2 m_traced r_lane r_many r_item r_market r_of r_newMarket r_newStart r_newOf r_newCoin r_state r_kept r_tape r_brings r_seen r_seenOut r_trace ++ R) H := hP
    have hD : va_D A (mdW Y cI m_thrown m_status m_isThere m_kinds m_newKinds m_print m_low m_high m_lot m_taped m_latest m_length m_cursor m_token m_from m_till y_2.1 y_2.2 m_traced r_lane r_many r_item r_market r_of r_newMarket r_newStart r_newOf r_newCoin r_state r_kept r_tape r_brings r_seen r_seenOut r_trace ++ R) := hD
    refine lv_ldc2 (v := 1802071652) hx hb hown k149 dX11_readKind_29 ?_
    refine W.lcmp hx hb dX11_readKind_32 ?_
    have J_7 : ∀ (y_7 : Int32) (H : Heap) (locs : List Loc) (ls : Array Slot), y_7 = (if (lg_cmp u_6 1802071652) = 0 then (1) else (0)) → va_P D vwCl (mdW Y cI m_thrown m_status m_isThere m_kinds m_newKinds m_print m_low m_high m_lot m_taped m_latest m_length m_cursor m_token m_from m_till y_2.1 y_2.2 m_traced r_lane r_many r_item r_market r_of r_newMarket r_newStart r_newOf r_newCoin r_state r_kept r_tape r_brings r_seen r_seenOut r_trace ++ R) H → va_D A (mdW Y cI m_thrown m_status m_isThere m_kinds m_newKinds m_print m_low m_high m_lot m_taped m_latest m_length m_cursor m_token m_from m_till y_2.1 y_2.2 m_traced r_lane r_many r_item r_market r_of r_newMarket r_newStart r_newOf r_newCoin r_state r_kept r_tape r_brings r_seen r_seenOut r_trace ++ R) → va_S A s.heap H locs → lv_has ls 9 [(0, .ref (Y 0))] → W p l e (rmX 5) s m ([.ref (Y 0)] : List Value).toArray below meth c H locs 0 0 Qm (F0 m 41 ls [.int y_7, .ref (Y 0)]) := by
      intro y_7 H locs ls ey_7 hP hD hS hl
      refine mx_callV (As := [.int y_7]) (rest := []) ⟨hx, hb, hml, hown, hts⟩ (mtX11_must l D cI cB cK cS Y R m_thrown m_status m_isThere m_kinds m_newKinds m_print m_low m_high m_lot m_taped m_latest m_length m_cursor m_token m_from m_till y_2.1 y_2.2 m_traced r_lane r_many r_item r_market r_of r_newMarket r_newStart r_newOf r_newCoin r_state r_kept r_tape r_brings r_seen r_seenOut r_trace y_7 (by assumption) (by assumption)) (cwV 1 hts gX11_readKind_X11_must rfl rfl rfl (by decide +kernel) ⟨Nat.le_of_ble_eq_true rfl, Nat.le_of_ble_eq_true rfl⟩) pF0_ok trivial hK hP hD hS hA 0 rfl rfl rfl rfl hl.1 rfl (Nat.le_of_ble_eq_true rfl) dX11_readKind_41 ⟨Nat.le_refl _, Nat.le_refl _⟩ (fun u_9 H locs eu_9 hP hD hS => ?_)
      refine W.eq (g2 := F0 m 44 ls []) rfl ?_
      have hP : va_P D vwCl (mdW Y cI m_thrown m_status m_isThere m_kinds m_newKinds m_print m_low m_high m_lot m_taped m_latest m_length u_9.1 u_9.2.1 u_9.2.2.1 u_9.2.2.2.1 u_9.2.2.2.2.1 u_9.2.2.2.2.2 m_traced r_lane r_many r_item r_market r_of r_newMarket r_newStart r_newOf r_newCoin r_state r_kept r_tape r_brings r_seen r_seenOut r_trace ++ R) H := hP
      have hD : va_D A (mdW Y cI m_thrown m_status m_isThere m_kinds m_newKinds m_print m_low m_high m_lot m_taped m_latest m_length u_9.1 u_9.2.1 u_9.2.2.1 u_9.2.2.2.1 u_9.2.2.2.2.1 u_9.2.2.2.2.2 m_traced r_lane r_many r_item r_market r_of r_newMarket r_newStart r_newOf r_newCoin r_state r_kept r_tape r_brings r_seen r_seenOut r_trace ++ R) := hD
      have hrd_u_9 := sX11_must_ok (by assumption) (by assumption) eu_9
      have hfz_u_9 : u_9.2.2.2.2.1 = 0 → m_newKinds.toInt < 5 := rk_first hnk0 hnk1 hfz eu_1 ey_2 eu_6 ey_7 eu_9
      refine lv_aload_n hx hb dX11_readKind_44 rfl (lv_at hl 0 rfl) ?_
      refine mx_callV (As := []) (rest := []) ⟨hx, hb, hml, hown, hts⟩ (mtX11_wayOfWord l D cI cB cK cS Y R m_thrown m_status m_isThere m_kinds m_newKinds m_print m_low m_high m_lot m_taped m_latest m_length u_9.1 u_9.2.1 u_9.2.2.1 u_9.2.2.2.1 u_9.2.2.2.2.1 u_9.2.2.2.2.2 m_traced r_lane r_many r_item r_market r_of r_newMarket r_newStart r_newOf r_newCoin r_state r_kept r_tape r_brings r_seen r_seenOut r_trace (by assumption)) (cwV 0 hts gX11_readKind_X11_wayOfWord rfl rfl rfl (by decide +kernel) ⟨Nat.le_of_ble_eq_true rfl, Nat.le_of_ble_eq_true rfl⟩) pF0_ok trivial hK hP hD hS hA 0 rfl rfl rfl rfl hl.1 rfl (Nat.le_of_ble_eq_true rfl) dX11_readKind_45 ⟨Nat.le_refl _, Nat.le_refl _⟩ (fun u_10 H locs eu_10 hP hD hS => ?_)
      refine W.eq (g2 := F0 m 48 ls [.int u_10]) rfl ?_
      have hP : va_P D vwCl (mdW Y cI m_thrown m_status m_isThere m_kinds m_newKinds m_print m_low m_high m_lot m_taped m_latest m_length u_9.1 u_9.2.1 u_9.2.2.1 u_9.2.2.2.1 u_9.2.2.2.2.1 u_9.2.2.2.2.2 m_traced r_lane r_many r_item r_market r_of r_newMarket r_newStart r_newOf r_newCoin r_state r_kept r_tape r_brings r_seen r_seenOut r_trace ++ R) H := hP
      have hD : va_D A (mdW Y cI m_thrown m_status m_isThere m_kinds m_newKinds m_print m_low m_high m_lot m_taped m_latest m_length u_9.1 u_9.2.1 u_9.2.2.1 u_9.2.2.2.1 u_9.2.2.2.2.1 u_9.2.2.2.2.2 m_traced r_lane r_many r_item r_market r_of r_newMarket r_newStart r_newOf r_newCoin r_state r_kept r_tape r_brings r_seen r_seenOut r_trace ++ R) := hD
      refine lv_istore_n (lv' := [(1, .int u_10), (0, .ref (Y 0))]) hx hb dX11_readKind_48 rfl hl (by decide) rfl (fun ls hl => ?_)
      refine lv_aload_n hx hb dX11_readKind_49 rfl (lv_at hl 1 rfl) ?_
      refine va_get (D := D) (ci := 9) (v := .int u_9.2.2.2.2.1) (C := RX11) (T := TX11) (N := 35) hx hb hts iX11 hown hK hP 0 rfl rfl 28 (by decide) k116 (fun _ h9 => h9) rfl dX11_readKind_50 ?_
      have J_11 : ∀ (y_11 : Int32 × Int32 × Int32 × Int32 × Int32 × Int32) (H : Heap) (locs : List Loc) (ls : Array Slot), y_11 = (if u_9.2.2.2.2.1 = 0 then (lt (if u_10 = (-1000000) then (0) else (1)) (fun y_13 : Int32 => lt (sX11_must y_13 m_length u_9.1 u_9.2.1 u_9.2.2.1 u_9.2.2.2.1 u_9.2.2.2.2.1 u_9.2.2.2.2.2 r_tape) (fun u_15 : (Int32) × (Int32) × (Int32) × (Int32) × (Int32) × (Int32) => (u_15.1, u_15.2.1, u_15.2.2.1, u_15.2.2.2.1, u_15.2.2.2.2.1, u_15.2.2.2.2.2)))) else ((u_9.1, u_9.2.1, u_9.2.2.1, u_9.2.2.2.1, u_9.2.2.2.2.1, u_9.2.2.2.2.2))) → va_P D vwCl (mdW Y cI m_thrown m_status m_isThere m_kinds m_newKinds m_print m_low m_high m_lot m_taped m_latest m_length y_11.1 y_11.2.1 y_11.2.2.1 y_11.2.2.2.1 y_11.2.2.2.2.1 y_11.2.2.2.2.2 m_traced r_lane r_many r_item r_market r_of r_newMarket r_newStart r_newOf r_newCoin r_state r_kept r_tape r_brings r_seen r_seenOut r_trace ++ R) H → va_D A (mdW Y cI m_thrown m_status m_isThere m_kinds m_newKinds m_print m_low m_high m_lot m_taped m_latest m_length y_11.1 y_11.2.1 y_11.2.2.1 y_11.2.2.2.1 y_11.2.2.2.2.1 y_11.2.2.2.2.2 m_traced r_lane r_many r_item r_market r_of r_newMarket r_newStart r_newOf r_newCoin r_state r_kept r_tape r_brings r_seen r_seenOut r_trace ++ R) → va_S A s.heap H locs → lv_has ls 9 [(1, .int u_10), (0, .ref (Y 0))] → W p l e (rmX 5) s m ([.ref (Y 0)] : List Value).toArray below meth c H locs 0 0 Qm (F0 m 71 ls []) := by
        intro y_11 H locs ls ey_11 hP hD hS hl
        have hrd_y_11 : rd_ok y_11.1 y_11.2.2.1 y_11.2.2.2.1 := by rw [ey_11]; simp only [lt]; (repeat' split) <;> first | assumption | exact sX11_must_ok (by assumption) (by assumption) rfl | exact sX11_numberIn_ok (by assumption) (by assumption) rfl
        have hfz_y_11 : y_11.2.2.2.2.1 = 0 → m_newKinds.toInt < 5 := by rw [ey_11]; simp only [lt]; (repeat' split) <;> first | assumption | exact (fun h => (by assumption : _ = (0 : Int32) → m_newKinds.toInt < 5) (sX11_must_f rfl h).1) | exact (fun h => (by assumption : _ = (0 : Int32) → m_newKinds.toInt < 5) (sX11_numberIn_f rfl h))
        refine lv_iload_n hx hb dX11_readKind_71 rfl (lv_at hl 0 rfl) ?_
        refine lv_iconst (v := 2) hx hb dX11_readKind_72 (by decide) ?_
        have J_16 : ∀ (y_16 : Int32 × Int32 × Int32 × Int32 × Int32 × Int32 × Int32) (H : Heap) (locs : List Loc) (ls : Array Slot), y_16 = (if u_10 = 2 then (lt (sX11_numberIn 1 3 m_length y_11.1 y_11.2.1 y_11.2.2.1 y_11.2.2.2.1 y_11.2.2.2.2.1 y_11.2.2.2.2.2 r_tape) (fun u_20 : Int32 × (Int32) × (Int32) × (Int32) × (Int32) × (Int32) × (Int32) => (u_20.1, u_20.2.1, u_20.2.2.1, u_20.2.2.2.1, u_20.2.2.2.2.1, u_20.2.2.2.2.2.1, u_20.2.2.2.2.2.2))) else (if u_10 = 3 then (lt (sX11_numberIn 0 9 m_length y_11.1 y_11.2.1 y_11.2.2.1 y_11.2.2.2.1 y_11.2.2.2.2.1 y_11.2.2.2.2.2 r_tape) (fun u_19 : Int32 × (Int32) × (Int32) × (Int32) × (Int32) × (Int32) × (Int32) => (u_19.1, u_19.2.1, u_19.2.2.1, u_19.2.2.2.1, u_19.2.2.2.2.1, u_19.2.2.2.2.2.1, u_19.2.2.2.2.2.2))) else ((0, y_11.1, y_11.2.1, y_11.2.2.1, y_11.2.2.2.1, y_11.2.2.2.2.1, y_11.2.2.2.2.2)))) → va_P D vwCl (mdW Y cI m_thrown m_status m_isThere m_kinds m_newKinds m_print m_low m_high m_lot m_taped m_latest m_length y_16.2.1 y_16.2.2.1 y_16.2.2.2.1 y_16.2.2.2.2.1 y_16.2.2.2.2.2.1 y_16.2.2.2.2.2.2 m_traced r_lane r_many r_item r_market r_of r_newMarket r_newStart r_newOf r_newCoin r_state r_kept r_tape r_brings r_seen r_seenOut r_trace ++ R) H → va_D A (mdW Y cI m_thrown m_status m_isThere m_kinds m_newKinds m_print m_low m_high m_lot m_taped m_latest m_length y_16.2.1 y_16.2.2.1 y_16.2.2.2.1 y_16.2.2.2.2.1 y_16.2.2.2.2.2.1 y_16.2.2.2.2.2.2 m_traced r_lane r_many r_item r_market r_of r_newMarket r_newStart r_newOf r_newCoin r_state r_kept r_tape r_brings r_seen r_seenOut r_trace ++ R) → va_S A s.heap H locs → lv_has ls 9 [(1, .int u_10), (0, .ref (Y 0))] → W p l e (rmX 5) s m ([.ref (Y 0)] : List Value).toArray below meth c H locs 0 0 Qm (F0 m 101 ls [.int y_16.1]) := by
          intro y_16 H locs ls ey_16 hP hD hS hl
          have hrd_y_16 : rd_ok y_16.2.1 y_16.2.2.2.1 y_16.2.2.2.2.1 := by rw [ey_16]; simp only [lt]; (repeat' split) <;> first | assumption | exact sX11_must_ok (by assumption) (by assumption) rfl | exact sX11_numberIn_ok (by assumption) (by assumption) rfl
          have hfz_y_16 : y_16.2.2.2.2.2.1 = 0 → m_newKinds.toInt < 5 := by rw [ey_16]; simp only [lt]; (repeat' split) <;> first | assumption | exact (fun h => (by assumption : _ = (0 : Int32) → m_newKinds.toInt < 5) (sX11_must_f rfl h).1) | exact (fun h => (by assumption : _ = (0 : Int32) → m_newKinds.toInt < 5) (sX11_numberIn_f rfl h))
          refine lv_istore_n (lv' := [(2, .int y_16.1), (1, .int u_10), (0, .ref (Y 0))]) hx hb dX11_readKind_101 rfl hl (by decide) rfl (fun ls hl => ?_)
          refine lv_aload_n hx hb dX11_readKind_102 rfl (lv_at hl 2 rfl) ?_
          refine lv_iconst (v := 1) hx hb dX11_readKind_103 (by decide) ?_
          refine lv_bipush (v := 40) hx hb dX11_readKind_104 (by decide) ?_
          refine mx_callV (As := [.int 1, .int 40]) (rest := []) ⟨hx, hb, hml, hown, hts⟩ (mtX11_numberIn l D cI cB cK cS Y R m_thrown m_status m_isThere m_kinds m_newKinds m_print m_low m_high m_lot m_taped m_latest m_length y_16.2.1 y_16.2.2.1 y_16.2.2.2.1 y_16.2.2.2.2.1 y_16.2.2.2.2.2.1 y_16.2.2.2.2.2.2 m_traced r_lane r_many r_item r_market r_of r_newMarket r_newStart r_newOf r_newCoin r_state r_kept r_tape r_brings r_seen r_seenOut r_trace 1 40 (by assumption) (by assumption)) (cwV 2 hts gX11_readKind_X11_numberIn rfl rfl rfl (by decide +kernel) ⟨Nat.le_of_ble_eq_true rfl, Nat.le_of_ble_eq_true rfl⟩) pF0_ok trivial hK hP hD hS hA 0 rfl rfl rfl rfl hl.1 rfl (Nat.le_of_ble_eq_true rfl) dX11_readKind_106 ⟨Nat.le_refl _, Nat.le_refl _⟩ (fun u_21 H locs eu_21 hP hD hS => ?_)
          refine W.eq (g2 := F0 m 109 ls [.int u_21.1]) rfl ?_
          have hP : va_P D vwCl (mdW Y cI m_thrown m_status m_isThere m_kinds m_newKinds m_print m_low m_high m_lot m_taped m_latest m_length u_21.2.1 u_21.2.2.1 u_21.2.2.2.1 u_21.2.2.2.2.1 u_21.2.2.2.2.2.1 u_21.2.2.2.2.2.2 m_traced r_lane r_many r_item r_market r_of r_newMarket r_newStart r_newOf r_newCoin r_state r_kept r_tape r_brings r_seen r_seenOut r_trace ++ R) H := hP
          have hD : va_D A (mdW Y cI m_thrown m_status m_isThere m_kinds m_newKinds m_print m_low m_high m_lot m_taped m_latest m_length u_21.2.1 u_21.2.2.1 u_21.2.2.2.1 u_21.2.2.2.2.1 u_21.2.2.2.2.2.1 u_21.2.2.2.2.2.2 m_traced r_lane r_many r_item r_market r_of r_newMarket r_newStart r_newOf r_newCoin r_state r_kept r_tape r_brings r_seen r_seenOut r_trace ++ R) := hD
          have hrd_u_21 := sX11_numberIn_ok (by assumption) (by assumption) eu_21
          have hfz_u_21 : u_21.2.2.2.2.2.1 = 0 → m_newKinds.toInt < 5 := fun h => (show y_16.2.2.2.2.2.1 = 0 → m_newKinds.toInt < 5 by assumption) (sX11_numberIn_f eu_21 h)
          refine lv_istore_n (lv' := [(3, .int u_21.1), (2, .int y_16.1), (1, .int u_10), (0, .ref (Y 0))]) hx hb dX11_readKind_109 rfl hl (by decide) rfl (fun ls hl => ?_)
          refine lv_aload_n hx hb dX11_readKind_110 rfl (lv_at hl 3 rfl) ?_
          refine lv_iconst (v := 0) hx hb dX11_readKind_111 (by decide) ?_
          refine lv_bipush (v := 9) hx hb dX11_readKind_112 (by decide) ?_
          refine mx_callV (As := [.int 0, .int 9]) (rest := []) ⟨hx, hb, hml, hown, hts⟩ (mtX11_numberIn l D cI cB cK cS Y R m_thrown m_status m_isThere m_kinds m_newKinds m_print m_low m_high m_lot m_taped m_latest m_length u_21.2.1 u_21.2.2.1 u_21.2.2.2.1 u_21.2.2.2.2.1 u_21.2.2.2.2.2.1 u_21.2.2.2.2.2.2 m_traced r_lane r_many r_item r_market r_of r_newMarket r_newStart r_newOf r_newCoin r_state r_kept r_tape r_brings r_seen r_seenOut r_trace 0 9 (by assumption) (by assumption)) (cwV 2 hts gX11_readKind_X11_numberIn rfl rfl rfl (by decide +kernel) ⟨Nat.le_of_ble_eq_true rfl, Nat.le_of_ble_eq_true rfl⟩) pF0_ok trivial hK hP hD hS hA 0 rfl rfl rfl rfl hl.1 rfl (Nat.le_of_ble_eq_true rfl) dX11_readKind_114 ⟨Nat.le_refl _, Nat.le_refl _⟩ (fun u_22 H locs eu_22 hP hD hS => ?_)
          refine W.eq (g2 := F0 m 117 ls [.int u_22.1]) rfl ?_
          have hP : va_P D vwCl (mdW Y cI m_thrown m_status m_isThere m_kinds m_newKinds m_print m_low m_high m_lot m_taped m_latest m_length u_22.2.1 u_22.2.2.1 u_22.2.2.2.1 u_22.2.2.2.2.1 u_22.2.2.2.2.2.1 u_22.2.2.2.2.2.2 m_traced r_lane r_many r_item r_market r_of r_newMarket r_newStart r_newOf r_newCoin r_state r_kept r_tape r_brings r_seen r_seenOut r_trace ++ R) H := hP
          have hD : va_D A (mdW Y cI m_thrown m_status m_isThere m_kinds m_newKinds m_print m_low m_high m_lot m_taped m_latest m_length u_22.2.1 u_22.2.2.1 u_22.2.2.2.1 u_22.2.2.2.2.1 u_22.2.2.2.2.2.1 u_22.2.2.2.2.2.2 m_traced r_lane r_many r_item r_market r_of r_newMarket r_newStart r_newOf r_newCoin r_state r_kept r_tape r_brings r_seen r_seenOut r_trace ++ R) := hD
          have hrd_u_22 := sX11_numberIn_ok (by assumption) (by assumption) eu_22
          have hfz_u_22 : u_22.2.2.2.2.2.1 = 0 → m_newKinds.toInt < 5 := fun h => (show u_21.2.2.2.2.2.1 = 0 → m_newKinds.toInt < 5 by assumption) (sX11_numberIn_f eu_22 h)
          refine lv_istore (lv' := [(4, .int u_22.1), (3, .int u_21.1), (2, .int y_16.1), (1, .int u_10), (0, .ref (Y 0))]) hx hb dX11_readKind_117 hl (by decide) rfl (fun ls hl => ?_)
          refine lv_aload_n hx hb dX11_readKind_119 rfl (lv_at hl 4 rfl) ?_
          refine lv_iconst (v := 0) hx hb dX11_readKind_120 (by decide) ?_
          refine lv_bipush (v := 20) hx hb dX11_readKind_121 (by decide) ?_
          refine mx_callV (As := [.int 0, .int 20]) (rest := []) ⟨hx, hb, hml, hown, hts⟩ (mtX11_numberIn l D cI cB cK cS Y R m_thrown m_status m_isThere m_kinds m_newKinds m_print m_low m_high m_lot m_taped m_latest m_length u_22.2.1 u_22.2.2.1 u_22.2.2.2.1 u_22.2.2.2.2.1 u_22.2.2.2.2.2.1 u_22.2.2.2.2.2.2 m_traced r_lane r_many r_item r_market r_of r_newMarket r_newStart r_newOf r_newCoin r_state r_kept r_tape r_brings r_seen r_seenOut r_trace 0 20 (by assumption) (by assumption)) (cwV 2 hts gX11_readKind_X11_numberIn rfl rfl rfl (by decide +kernel) ⟨Nat.le_of_ble_eq_true rfl, Nat.le_of_ble_eq_true rfl⟩) pF0_ok trivial hK hP hD hS hA 0 rfl rfl rfl rfl hl.1 rfl (Nat.le_of_ble_eq_true rfl) dX11_readKind_123 ⟨Nat.le_refl _, Nat.le_refl _⟩ (fun u_23 H locs eu_23 hP hD hS => ?_)
          refine W.eq (g2 := F0 m 126 ls [.int u_23.1]) rfl ?_
          have hP : va_P D vwCl (mdW Y cI m_thrown m_status m_isThere m_kinds m_newKinds m_print m_low m_high m_lot m_taped m_latest m_length u_23.2.1 u_23.2.2.1 u_23.2.2.2.1 u_23.2.2.2.2.1 u_23.2.2.2.2.2.1 u_23.2.2.2.2.2.2 m_traced r_lane r_many r_item r_market r_of r_newMarket r_newStart r_newOf r_newCoin r_state r_kept r_tape r_brings r_seen r_seenOut r_trace ++ R) H := hP
          have hD : va_D A (mdW Y cI m_thrown m_status m_isThere m_kinds m_newKinds m_print m_low m_high m_lot m_taped m_latest m_length u_23.2.1 u_23.2.2.1 u_23.2.2.2.1 u_23.2.2.2.2.1 u_23.2.2.2.2.2.1 u_23.2.2.2.2.2.2 m_traced r_lane r_many r_item r_market r_of r_newMarket r_newStart r_newOf r_newCoin r_state r_kept r_tape r_brings r_seen r_seenOut r_trace ++ R) := hD
          have hrd_u_23 := sX11_numberIn_ok (by assumption) (by assumption) eu_23
          have hfz_u_23 : u_23.2.2.2.2.2.1 = 0 → m_newKinds.toInt < 5 := fun h => (show u_22.2.2.2.2.2.1 = 0 → m_newKinds.toInt < 5 by assumption) (sX11_numberIn_f eu_23 h)
          refine lv_istore (lv' := [(5, .int u_23.1), (4, .int u_22.1), (3, .int u_21.1), (2, .int y_16.1), (1, .int u_10), (0, .ref (Y 0))]) hx hb dX11_readKind_126 hl (by decide) rfl (fun ls hl => ?_)
          refine lv_aload_n hx hb dX11_readKind_128 rfl (lv_at hl 5 rfl) ?_
          refine lv_iconst (v := 0) hx hb dX11_readKind_129 (by decide) ?_
          refine lv_bipush (v := 99) hx hb dX11_readKind_130 (by decide) ?_
          refine mx_callV (As := [.int 0, .int 99]) (rest := []) ⟨hx, hb, hml, hown, hts⟩ (mtX11_numberIn l D cI cB cK cS Y R m_thrown m_status m_isThere m_kinds m_newKinds m_print m_low m_high m_lot m_taped m_latest m_length u_23.2.1 u_23.2.2.1 u_23.2.2.2.1 u_23.2.2.2.2.1 u_23.2.2.2.2.2.1 u_23.2.2.2.2.2.2 m_traced r_lane r_many r_item r_market r_of r_newMarket r_newStart r_newOf r_newCoin r_state r_kept r_tape r_brings r_seen r_seenOut r_trace 0 99 (by assumption) (by assumption)) (cwV 2 hts gX11_readKind_X11_numberIn rfl rfl rfl (by decide +kernel) ⟨Nat.le_of_ble_eq_true rfl, Nat.le_of_ble_eq_true rfl⟩) pF0_ok trivial hK hP hD hS hA 0 rfl rfl rfl rfl hl.1 rfl (Nat.le_of_ble_eq_true rfl) dX11_readKind_132 ⟨Nat.le_refl _, Nat.le_refl _⟩ (fun u_24 H locs eu_24 hP hD hS => ?_)
          refine W.eq (g2 := F0 m 135 ls [.int u_24.1]) rfl ?_
          have hP : va_P D vwCl (mdW Y cI m_thrown m_status m_isThere m_kinds m_newKinds m_print m_low m_high m_lot m_taped m_latest m_length u_24.2.1 u_24.2.2.1 u_24.2.2.2.1 u_24.2.2.2.2.1 u_24.2.2.2.2.2.1 u_24.2.2.2.2.2.2 m_traced r_lane r_many r_item r_market r_of r_newMarket r_newStart r_newOf r_newCoin r_state r_kept r_tape r_brings r_seen r_seenOut r_trace ++ R) H := hP
          have hD : va_D A (mdW Y cI m_thrown m_status m_isThere m_kinds m_newKinds m_print m_low m_high m_lot m_taped m_latest m_length u_24.2.1 u_24.2.2.1 u_24.2.2.2.1 u_24.2.2.2.2.1 u_24.2.2.2.2.2.1 u_24.2.2.2.2.2.2 m_traced r_lane r_many r_item r_market r_of r_newMarket r_newStart r_newOf r_newCoin r_state r_kept r_tape r_brings r_seen r_seenOut r_trace ++ R) := hD
          have hrd_u_24 := sX11_numberIn_ok (by assumption) (by assumption) eu_24
          have hfz_u_24 : u_24.2.2.2.2.2.1 = 0 → m_newKinds.toInt < 5 := fun h => (show u_23.2.2.2.2.2.1 = 0 → m_newKinds.toInt < 5 by assumption) (sX11_numberIn_f eu_24 h)
          refine lv_istore (lv' := [(6, .int u_24.1), (5, .int u_23.1), (4, .int u_22.1), (3, .int u_21.1), (2, .int y_16.1), (1, .int u_10), (0, .ref (Y 0))]) hx hb dX11_readKind_135 hl (by decide) rfl (fun ls hl => ?_)
          refine lv_aload_n hx hb dX11_readKind_137 rfl (lv_at hl 6 rfl) ?_
          refine lv_iconst (v := 0) hx hb dX11_readKind_138 (by decide) ?_
          refine lv_sipush (v := 999) hx hb dX11_readKind_139 (by decide) ?_
          refine mx_callV (As := [.int 0, .int 999]) (rest := []) ⟨hx, hb, hml, hown, hts⟩ (mtX11_numberIn l D cI cB cK cS Y R m_thrown m_status m_isThere m_kinds m_newKinds m_print m_low m_high m_lot m_taped m_latest m_length u_24.2.1 u_24.2.2.1 u_24.2.2.2.1 u_24.2.2.2.2.1 u_24.2.2.2.2.2.1 u_24.2.2.2.2.2.2 m_traced r_lane r_many r_item r_market r_of r_newMarket r_newStart r_newOf r_newCoin r_state r_kept r_tape r_brings r_seen r_seenOut r_trace 0 999 (by assumption) (by assumption)) (cwV 2 hts gX11_readKind_X11_numberIn rfl rfl rfl (by decide +kernel) ⟨Nat.le_of_ble_eq_true rfl, Nat.le_of_ble_eq_true rfl⟩) pF0_ok trivial hK hP hD hS hA 0 rfl rfl rfl rfl hl.1 rfl (Nat.le_of_ble_eq_true rfl) dX11_readKind_142 ⟨Nat.le_refl _, Nat.le_refl _⟩ (fun u_25 H locs eu_25 hP hD hS => ?_)
          refine W.eq (g2 := F0 m 145 ls [.int u_25.1]) rfl ?_
          have hP : va_P D vwCl (mdW Y cI m_thrown m_status m_isThere m_kinds m_newKinds m_print m_low m_high m_lot m_taped m_latest m_length u_25.2.1 u_25.2.2.1 u_25.2.2.2.1 u_25.2.2.2.2.1 u_25.2.2.2.2.2.1 u_25.2.2.2.2.2.2 m_traced r_lane r_many r_item r_market r_of r_newMarket r_newStart r_newOf r_newCoin r_state r_kept r_tape r_brings r_seen r_seenOut r_trace ++ R) H := hP
          have hD : va_D A (mdW Y cI m_thrown m_status m_isThere m_kinds m_newKinds m_print m_low m_high m_lot m_taped m_latest m_length u_25.2.1 u_25.2.2.1 u_25.2.2.2.1 u_25.2.2.2.2.1 u_25.2.2.2.2.2.1 u_25.2.2.2.2.2.2 m_traced r_lane r_many r_item r_market r_of r_newMarket r_newStart r_newOf r_newCoin r_state r_kept r_tape r_brings r_seen r_seenOut r_trace ++ R) := hD
          have hrd_u_25 := sX11_numberIn_ok (by assumption) (by assumption) eu_25
          have hfz_u_25 : u_25.2.2.2.2.2.1 = 0 → m_newKinds.toInt < 5 := fun h => (show u_24.2.2.2.2.2.1 = 0 → m_newKinds.toInt < 5 by assumption) (sX11_numberIn_f eu_25 h)
          refine lv_istore (lv' := [(7, .int u_25.1), (6, .int u_24.1), (5, .int u_23.1), (4, .int u_22.1), (3, .int u_21.1), (2, .int y_16.1), (1, .int u_10), (0, .ref (Y 0))]) hx hb dX11_readKind_145 hl (by decide) rfl (fun ls hl => ?_)
          refine lv_aload_n hx hb dX11_readKind_147 rfl (lv_at hl 7 rfl) ?_
          refine mx_callV (As := []) (rest := []) ⟨hx, hb, hml, hown, hts⟩ (mtX11_mustEnd l D cI cB cK cS Y R m_thrown m_status m_isThere m_kinds m_newKinds m_print m_low m_high m_lot m_taped m_latest m_length u_25.2.1 u_25.2.2.1 u_25.2.2.2.1 u_25.2.2.2.2.1 u_25.2.2.2.2.2.1 u_25.2.2.2.2.2.2 m_traced r_lane r_many r_item r_market r_of r_newMarket r_newStart r_newOf r_newCoin r_state r_kept r_tape r_brings r_seen r_seenOut r_trace (by assumption) (by assumption)) (cwV 0 hts gX11_readKind_X11_mustEnd rfl rfl rfl (by decide +kernel) ⟨Nat.le_of_ble_eq_true rfl, Nat.le_of_ble_eq_true rfl⟩) pF0_ok trivial hK hP hD hS hA 0 rfl rfl rfl rfl hl.1 rfl (Nat.le_of_ble_eq_true rfl) dX11_readKind_148 ⟨Nat.le_refl _, Nat.le_refl _⟩ (fun u_26 H locs eu_26 hP hD hS => ?_)
          refine W.eq (g2 := F0 m 151 ls []) rfl ?_
          have hP : va_P D vwCl (mdW Y cI m_thrown m_status m_isThere m_kinds m_newKinds m_print m_low m_high m_lot m_taped m_latest m_length u_26.1 u_26.2.1 u_26.2.2.1 u_26.2.2.2.1 u_26.2.2.2.2.1 u_26.2.2.2.2.2 m_traced r_lane r_many r_item r_market r_of r_newMarket r_newStart r_newOf r_newCoin r_state r_kept r_tape r_brings r_seen r_seenOut r_trace ++ R) H := hP
          have hD : va_D A (mdW Y cI m_thrown m_status m_isThere m_kinds m_newKinds m_print m_low m_high m_lot m_taped m_latest m_length u_26.1 u_26.2.1 u_26.2.2.1 u_26.2.2.2.1 u_26.2.2.2.2.1 u_26.2.2.2.2.2 m_traced r_lane r_many r_item r_market r_of r_newMarket r_newStart r_newOf r_newCoin r_state r_kept r_tape r_brings r_seen r_seenOut r_trace ++ R) := hD
          have hrd_u_26 := sX11_mustEnd_ok (by assumption) (by assumption) eu_26
          have hfz_u_26 : u_26.2.2.2.2.1 = 0 → m_newKinds.toInt < 5 := fun h => (show u_25.2.2.2.2.2.1 = 0 → m_newKinds.toInt < 5 by assumption) (sX11_mustEnd_f eu_26 h)
          refine lv_aload_n hx hb dX11_readKind_151 rfl (lv_at hl 7 rfl) ?_
          refine va_get (D := D) (ci := 9) (v := .int u_26.2.2.2.2.1) (C := RX11) (T := TX11) (N := 35) hx hb hts iX11 hown hK hP 0 rfl rfl 28 (by decide) k116 (fun _ h9 => h9) rfl dX11_readKind_152 ?_
          refine lv_if_ne (tgt := 251) hx hb dX11_readKind_155 (by decide) (fun c_27 => ?_) (fun c_27 => ?_)
          · have d_27 := i_eqn rfl (show (0 : Int32).toInt = 0 from by decide) c_27
            rw [hQm]
            exact mx_vret (u0 := sX11_readKind m_newKinds m_length m_cursor m_token m_from m_till m_fault m_faultAt r_newOf r_newCoin r_tape) (rv := (fun _ => none)) (w1 := (fun u => mdW Y cI m_thrown m_status m_isThere m_kinds u.1 m_print m_low m_high m_lot m_taped m_latest m_length u.2.1 u.2.2.1 u.2.2.2.1 u.2.2.2.2.1 u.2.2.2.2.2.1 u.2.2.2.2.2.2.1 m_traced r_lane r_many r_item r_market r_of r_newMarket r_newStart u.2.2.2.2.2.2.2.1 u.2.2.2.2.2.2.2.2 r_state r_kept r_tape r_brings r_seen r_seenOut r_trace ++ R)) (u := (m_newKinds, u_26.1, u_26.2.1, u_26.2.2.1, u_26.2.2.2.1, u_26.2.2.2.2.1, u_26.2.2.2.2.2, r_newOf, r_newCoin)) hx hb hr hlocks hK hS (lt_eq eu_1 (lt_eq ey_2 (lt_eq eu_6 (lt_eq ey_7 (lt_eq eu_9 (lt_eq eu_10 (lt_eq ey_11 (lt_eq ey_16 (lt_eq eu_21 (lt_eq eu_22 (lt_eq eu_23 (lt_eq eu_24 (lt_eq eu_25 (lt_eq eu_26 ((if_neg c_27).trans rfl))))))))))))))) hP hD rfl dX11_readKind_251
          · have d_27 := i_eq rfl (show (0 : Int32).toInt = 0 from by decide) c_27
            have hnk5 : m_newKinds.toInt < 5 := (show u_26.2.2.2.2.1 = 0 → m_newKinds.toInt < 5 by assumption) c_27
            refine lv_bipush (v := 6) hx hb dX11_readKind_158 (by decide) ?_
            refine lv_aload_n hx hb dX11_readKind_160 rfl (lv_at hl 7 rfl) ?_
            refine va_get (D := D) (ci := 9) (v := .int m_newKinds) (C := RX11) (T := TX11) (N := 35) hx hb hts iX11 hown hK hP 0 rfl rfl 9 (by decide) k151 (fun _ h9 => h9) rfl dX11_readKind_161 ?_
            refine lv_imul hx hb dX11_readKind_164 ?_
            refine lv_topi (fun x_28 ex_28 => ?_)
            refine lv_istore (lv' := [(8, .int x_28), (7, .int u_25.1), (6, .int u_24.1), (5, .int u_23.1), (4, .int u_22.1), (3, .int u_21.1), (2, .int y_16.1), (1, .int u_10), (0, .ref (Y 0))]) hx hb dX11_readKind_165 hl (by decide) rfl (fun ls hl => ?_)
            have dx8 : x_28.toInt = 6 * m_newKinds.toInt := by rw [ex_28]; exact i_mulv (show (6 : Int32).toInt = 6 from by decide) rfl (by omega) (by omega)
            refine lv_aload_n hx hb dX11_readKind_167 rfl (lv_at hl 8 rfl) ?_
            refine va_get (D := D) (ci := 9) (v := .ref (Y 12)) (C := RX11) (T := TX11) (N := 35) hx hb hts iX11 hown hK hP 0 rfl rfl 12 (by decide) k31 (fun _ h9 => h9) rfl dX11_readKind_168 ?_
            refine lv_iload hx hb dX11_readKind_171 (lv_at hl 0 rfl) ?_
            refine lv_iconst (v := 0) hx hb dX11_readKind_173 (by decide) ?_
            refine lv_iadd hx hb dX11_readKind_174 ?_
            refine lv_iload_n hx hb dX11_readKind_175 rfl (lv_at hl 7 rfl) ?_
            have q_29 : vp_in (x_28 + 0) 30 := vp_in_iff.mpr (by rw [show (x_28 + 0).toInt = (x_28.toInt + 0) from (i_addv rfl (show (0 : Int32).toInt = 0 from by decide) (by omega) (by omega))]; constructor <;> omega)
            refine va_iast hx hb hK hP hD hS 8 0 rfl rfl q_29 dX11_readKind_176 (fun H locs hP hD hS => ?_)
            obtain ⟨ar_30, ear_30⟩ : ∃ z : Nat → Int32, z = upd r_newOf (x_28 + 0).toNatClampNeg u_10 := ⟨_, rfl⟩
            have hP : va_P D vwCl (mdW Y cI m_thrown m_status m_isThere m_kinds m_newKinds m_print m_low m_high m_lot m_taped m_latest m_length u_26.1 u_26.2.1 u_26.2.2.1 u_26.2.2.2.1 u_26.2.2.2.2.1 u_26.2.2.2.2.2 m_traced r_lane r_many r_item r_market r_of r_newMarket r_newStart (upd r_newOf (x_28 + 0).toNatClampNeg u_10) r_newCoin r_state r_kept r_tape r_brings r_seen r_seenOut r_trace ++ R) H := hP
            have hD : va_D A (mdW Y cI m_thrown m_status m_isThere m_kinds m_newKinds m_print m_low m_high m_lot m_taped m_latest m_length u_26.1 u_26.2.1 u_26.2.2.1 u_26.2.2.2.1 u_26.2.2.2.2.1 u_26.2.2.2.2.2 m_traced r_lane r_many r_item r_market r_of r_newMarket r_newStart (upd r_newOf (x_28 + 0).toNatClampNeg u_10) r_newCoin r_state r_kept r_tape r_brings r_seen r_seenOut r_trace ++ R) := hD
            rw [← ear_30] at hP hD
            have hP : va_P D vwCl (mdW Y cI m_thrown m_status m_isThere m_kinds m_newKinds m_print m_low m_high m_lot m_taped m_latest m_length u_26.1 u_26.2.1 u_26.2.2.1 u_26.2.2.2.1 u_26.2.2.2.2.1 u_26.2.2.2.2.2 m_traced r_lane r_many r_item r_market r_of r_newMarket r_newStart ar_30 r_newCoin r_state r_kept r_tape r_brings r_seen r_seenOut r_trace ++ R) H := hP
            have hD : va_D A (mdW Y cI m_thrown m_status m_isThere m_kinds m_newKinds m_print m_low m_high m_lot m_taped m_latest m_length u_26.1 u_26.2.1 u_26.2.2.1 u_26.2.2.2.1 u_26.2.2.2.2.1 u_26.2.2.2.2.2 m_traced r_lane r_many r_item r_market r_of r_newMarket r_newStart ar_30 r_newCoin r_state r_kept r_tape r_brings r_seen r_seenOut r_trace ++ R) := hD
            refine lv_aload_n hx hb dX11_readKind_177 rfl (lv_at hl 8 rfl) ?_
            refine va_get (D := D) (ci := 9) (v := .ref (Y 12)) (C := RX11) (T := TX11) (N := 35) hx hb hts iX11 hown hK hP 0 rfl rfl 12 (by decide) k31 (fun _ h9 => h9) rfl dX11_readKind_178 ?_
            refine lv_iload hx hb dX11_readKind_181 (lv_at hl 0 rfl) ?_
            refine lv_iconst (v := 1) hx hb dX11_readKind_183 (by decide) ?_
            refine lv_iadd hx hb dX11_readKind_184 ?_
            refine lv_iload_n hx hb dX11_readKind_185 rfl (lv_at hl 6 rfl) ?_
            have q_31 : vp_in (x_28 + 1) 30 := vp_in_iff.mpr (by rw [show (x_28 + 1).toInt = (x_28.toInt + 1) from (i_addv rfl (show (1 : Int32).toInt = 1 from by decide) (by omega) (by omega))]; constructor <;> omega)
            refine va_iast hx hb hK hP hD hS 8 0 rfl rfl q_31 dX11_readKind_186 (fun H locs hP hD hS => ?_)
            obtain ⟨ar_32, ear_32⟩ : ∃ z : Nat → Int32, z = upd ar_30 (x_28 + 1).toNatClampNeg y_16.1 := ⟨_, rfl⟩
            have hP : va_P D vwCl (mdW Y cI m_thrown m_status m_isThere m_kinds m_newKinds m_print m_low m_high m_lot m_taped m_latest m_length u_26.1 u_26.2.1 u_26.2.2.1 u_26.2.2.2.1 u_26.2.2.2.2.1 u_26.2.2.2.2.2 m_traced r_lane r_many r_item r_market r_of r_newMarket r_newStart (upd ar_30 (x_28 + 1).toNatClampNeg y_16.1) r_newCoin r_state r_kept r_tape r_brings r_seen r_seenOut r_trace ++ R) H := hP
            have hD : va_D A (mdW Y cI m_thrown m_status m_isThere m_kinds m_newKinds m_print m_low m_high m_lot m_taped m_latest m_length u_26.1 u_26.2.1 u_26.2.2.1 u_26.2.2.2.1 u_26.2.2.2.2.1 u_26.2.2.2.2.2 m_traced r_lane r_many r_item r_market r_of r_newMarket r_newStart (upd ar_30 (x_28 + 1).toNatClampNeg y_16.1) r_newCoin r_state r_kept r_tape r_brings r_seen r_seenOut r_trace ++ R) := hD
            rw [← ear_32] at hP hD
            have hP : va_P D vwCl (mdW Y cI m_thrown m_status m_isThere m_kinds m_newKinds m_print m_low m_high m_lot m_taped m_latest m_length u_26.1 u_26.2.1 u_26.2.2.1 u_26.2.2.2.1 u_26.2.2.2.2.1 u_26.2.2.2.2.2 m_traced r_lane r_many r_item r_market r_of r_newMarket r_newStart ar_32 r_newCoin r_state r_kept r_tape r_brings r_seen r_seenOut r_trace ++ R) H := hP
            have hD : va_D A (mdW Y cI m_thrown m_status m_isThere m_kinds m_newKinds m_print m_low m_high m_lot m_taped m_latest m_length u_26.1 u_26.2.1 u_26.2.2.1 u_26.2.2.2.1 u_26.2.2.2.2.1 u_26.2.2.2.2.2 m_traced r_lane r_many r_item r_market r_of r_newMarket r_newStart ar_32 r_newCoin r_state r_kept r_tape r_brings r_seen r_seenOut r_trace ++ R) := hD
            refine lv_aload_n hx hb dX11_readKind_187 rfl (lv_at hl 8 rfl) ?_
            refine va_get (D := D) (ci := 9) (v := .ref (Y 12)) (C := RX11) (T := TX11) (N := 35) hx hb hts iX11 hown hK hP 0 rfl rfl 12 (by decide) k31 (fun _ h9 => h9) rfl dX11_readKind_188 ?_
            refine lv_iload hx hb dX11_readKind_191 (lv_at hl 0 rfl) ?_
            refine lv_iconst (v := 2) hx hb dX11_readKind_193 (by decide) ?_
            refine lv_iadd hx hb dX11_readKind_194 ?_
            refine lv_iload_n hx hb dX11_readKind_195 rfl (lv_at hl 5 rfl) ?_
            have q_33 : vp_in (x_28 + 2) 30 := vp_in_iff.mpr (by rw [show (x_28 + 2).toInt = (x_28.toInt + 2) from (i_addv rfl (show (2 : Int32).toInt = 2 from by decide) (by omega) (by omega))]; constructor <;> omega)
            refine va_iast hx hb hK hP hD hS 8 0 rfl rfl q_33 dX11_readKind_196 (fun H locs hP hD hS => ?_)
            obtain ⟨ar_34, ear_34⟩ : ∃ z : Nat → Int32, z = upd ar_32 (x_28 + 2).toNatClampNeg u_21.1 := ⟨_, rfl⟩
            have hP : va_P D vwCl (mdW Y cI m_thrown m_status m_isThere m_kinds m_newKinds m_print m_low m_high m_lot m_taped m_latest m_length u_26.1 u_26.2.1 u_26.2.2.1 u_26.2.2.2.1 u_26.2.2.2.2.1 u_26.2.2.2.2.2 m_traced r_lane r_many r_item r_market r_of r_newMarket r_newStart (upd ar_32 (x_28 + 2).toNatClampNeg u_21.1) r_newCoin r_state r_kept r_tape r_brings r_seen r_seenOut r_trace ++ R) H := hP
            have hD : va_D A (mdW Y cI m_thrown m_status m_isThere m_kinds m_newKinds m_print m_low m_high m_lot m_taped m_latest m_length u_26.1 u_26.2.1 u_26.2.2.1 u_26.2.2.2.1 u_26.2.2.2.2.1 u_26.2.2.2.2.2 m_traced r_lane r_many r_item r_market r_of r_newMarket r_newStart (upd ar_32 (x_28 + 2).toNatClampNeg u_21.1) r_newCoin r_state r_kept r_tape r_brings r_seen r_seenOut r_trace ++ R) := hD
            rw [← ear_34] at hP hD
            have hP : va_P D vwCl (mdW Y cI m_thrown m_status m_isThere m_kinds m_newKinds m_print m_low m_high m_lot m_taped m_latest m_length u_26.1 u_26.2.1 u_26.2.2.1 u_26.2.2.2.1 u_26.2.2.2.2.1 u_26.2.2.2.2.2 m_traced r_lane r_many r_item r_market r_of r_newMarket r_newStart ar_34 r_newCoin r_state r_kept r_tape r_brings r_seen r_seenOut r_trace ++ R) H := hP
            have hD : va_D A (mdW Y cI m_thrown m_status m_isThere m_kinds m_newKinds m_print m_low m_high m_lot m_taped m_latest m_length u_26.1 u_26.2.1 u_26.2.2.1 u_26.2.2.2.1 u_26.2.2.2.2.1 u_26.2.2.2.2.2 m_traced r_lane r_many r_item r_market r_of r_newMarket r_newStart ar_34 r_newCoin r_state r_kept r_tape r_brings r_seen r_seenOut r_trace ++ R) := hD
            refine lv_aload_n hx hb dX11_readKind_197 rfl (lv_at hl 8 rfl) ?_
            refine va_get (D := D) (ci := 9) (v := .ref (Y 12)) (C := RX11) (T := TX11) (N := 35) hx hb hts iX11 hown hK hP 0 rfl rfl 12 (by decide) k31 (fun _ h9 => h9) rfl dX11_readKind_198 ?_
            refine lv_iload hx hb dX11_readKind_201 (lv_at hl 0 rfl) ?_
            refine lv_iconst (v := 3) hx hb dX11_readKind_203 (by decide) ?_
            refine lv_iadd hx hb dX11_readKind_204 ?_
            refine lv_iload hx hb dX11_readKind_205 (lv_at hl 4 rfl) ?_
            have q_35 : vp_in (x_28 + 3) 30 := vp_in_iff.mpr (by rw [show (x_28 + 3).toInt = (x_28.toInt + 3) from (i_addv rfl (show (3 : Int32).toInt = 3 from by decide) (by omega) (by omega))]; constructor <;> omega)
            refine va_iast hx hb hK hP hD hS 8 0 rfl rfl q_35 dX11_readKind_207 (fun H locs hP hD hS => ?_)
            obtain ⟨ar_36, ear_36⟩ : ∃ z : Nat → Int32, z = upd ar_34 (x_28 + 3).toNatClampNeg u_22.1 := ⟨_, rfl⟩
            have hP : va_P D vwCl (mdW Y cI m_thrown m_status m_isThere m_kinds m_newKinds m_print m_low m_high m_lot m_taped m_latest m_length u_26.1 u_26.2.1 u_26.2.2.1 u_26.2.2.2.1 u_26.2.2.2.2.1 u_26.2.2.2.2.2 m_traced r_lane r_many r_item r_market r_of r_newMarket r_newStart (upd ar_34 (x_28 + 3).toNatClampNeg u_22.1) r_newCoin r_state r_kept r_tape r_brings r_seen r_seenOut r_trace ++ R) H := hP
            have hD : va_D A (mdW Y cI m_thrown m_status m_isThere m_kinds m_newKinds m_print m_low m_high m_lot m_taped m_latest m_length u_26.1 u_26.2.1 u_26.2.2.1 u_26.2.2.2.1 u_26.2.2.2.2.1 u_26.2.2.2.2.2 m_traced r_lane r_many r_item r_market r_of r_newMarket r_newStart (upd ar_34 (x_28 + 3).toNatClampNeg u_22.1) r_newCoin r_state r_kept r_tape r_brings r_seen r_seenOut r_trace ++ R) := hD
            rw [← ear_36] at hP hD
            have hP : va_P D vwCl (mdW Y cI m_thrown m_status m_isThere m_kinds m_newKinds m_print m_low m_high m_lot m_taped m_latest m_length u_26.1 u_26.2.1 u_26.2.2.1 u_26.2.2.2.1 u_26.2.2.2.2.1 u_26.2.2.2.2.2 m_traced r_lane r_many r_item r_market r_of r_newMarket r_newStart ar_36 r_newCoin r_state r_kept r_tape r_brings r_seen r_seenOut r_trace ++ R) H := hP
            have hD : va_D A (mdW Y cI m_thrown m_status m_isThere m_kinds m_newKinds m_print m_low m_high m_lot m_taped m_latest m_length u_26.1 u_26.2.1 u_26.2.2.1 u_26.2.2.2.1 u_26.2.2.2.2.1 u_26.2.2.2.2.2 m_traced r_lane r_many r_item r_market r_of r_newMarket r_newStart ar_36 r_newCoin r_state r_kept r_tape r_brings r_seen r_seenOut r_trace ++ R) := hD
            refine lv_aload_n hx hb dX11_readKind_208 rfl (lv_at hl 8 rfl) ?_
            refine va_get (D := D) (ci := 9) (v := .ref (Y 12)) (C := RX11) (T := TX11) (N := 35) hx hb hts iX11 hown hK hP 0 rfl rfl 12 (by decide) k31 (fun _ h9 => h9) rfl dX11_readKind_209 ?_
            refine lv_iload hx hb dX11_readKind_212 (lv_at hl 0 rfl) ?_
            refine lv_iconst (v := 4) hx hb dX11_readKind_214 (by decide) ?_
            refine lv_iadd hx hb dX11_readKind_215 ?_
            refine lv_iload hx hb dX11_readKind_216 (lv_at hl 3 rfl) ?_
            have q_37 : vp_in (x_28 + 4) 30 := vp_in_iff.mpr (by rw [show (x_28 + 4).toInt = (x_28.toInt + 4) from (i_addv rfl (show (4 : Int32).toInt = 4 from by decide) (by omega) (by omega))]; constructor <;> omega)
            refine va_iast hx hb hK hP hD hS 8 0 rfl rfl q_37 dX11_readKind_218 (fun H locs hP hD hS => ?_)
            obtain ⟨ar_38, ear_38⟩ : ∃ z : Nat → Int32, z = upd ar_36 (x_28 + 4).toNatClampNeg u_23.1 := ⟨_, rfl⟩
            have hP : va_P D vwCl (mdW Y cI m_thrown m_status m_isThere m_kinds m_newKinds m_print m_low m_high m_lot m_taped m_latest m_length u_26.1 u_26.2.1 u_26.2.2.1 u_26.2.2.2.1 u_26.2.2.2.2.1 u_26.2.2.2.2.2 m_traced r_lane r_many r_item r_market r_of r_newMarket r_newStart (upd ar_36 (x_28 + 4).toNatClampNeg u_23.1) r_newCoin r_state r_kept r_tape r_brings r_seen r_seenOut r_trace ++ R) H := hP
            have hD : va_D A (mdW Y cI m_thrown m_status m_isThere m_kinds m_newKinds m_print m_low m_high m_lot m_taped m_latest m_length u_26.1 u_26.2.1 u_26.2.2.1 u_26.2.2.2.1 u_26.2.2.2.2.1 u_26.2.2.2.2.2 m_traced r_lane r_many r_item r_market r_of r_newMarket r_newStart (upd ar_36 (x_28 + 4).toNatClampNeg u_23.1) r_newCoin r_state r_kept r_tape r_brings r_seen r_seenOut r_trace ++ R) := hD
            rw [← ear_38] at hP hD
            have hP : va_P D vwCl (mdW Y cI m_thrown m_status m_isThere m_kinds m_newKinds m_print m_low m_high m_lot m_taped m_latest m_length u_26.1 u_26.2.1 u_26.2.2.1 u_26.2.2.2.1 u_26.2.2.2.2.1 u_26.2.2.2.2.2 m_traced r_lane r_many r_item r_market r_of r_newMarket r_newStart ar_38 r_newCoin r_state r_kept r_tape r_brings r_seen r_seenOut r_trace ++ R) H := hP
            have hD : va_D A (mdW Y cI m_thrown m_status m_isThere m_kinds m_newKinds m_print m_low m_high m_lot m_taped m_latest m_length u_26.1 u_26.2.1 u_26.2.2.1 u_26.2.2.2.1 u_26.2.2.2.2.1 u_26.2.2.2.2.2 m_traced r_lane r_many r_item r_market r_of r_newMarket r_newStart ar_38 r_newCoin r_state r_kept r_tape r_brings r_seen r_seenOut r_trace ++ R) := hD
            refine lv_aload_n hx hb dX11_readKind_219 rfl (lv_at hl 8 rfl) ?_
            refine va_get (D := D) (ci := 9) (v := .ref (Y 12)) (C := RX11) (T := TX11) (N := 35) hx hb hts iX11 hown hK hP 0 rfl rfl 12 (by decide) k31 (fun _ h9 => h9) rfl dX11_readKind_220 ?_
            refine lv_iload hx hb dX11_readKind_223 (lv_at hl 0 rfl) ?_
            refine lv_iconst (v := 5) hx hb dX11_readKind_225 (by decide) ?_
            refine lv_iadd hx hb dX11_readKind_226 ?_
            refine lv_iload hx hb dX11_readKind_227 (lv_at hl 2 rfl) ?_
            have q_39 : vp_in (x_28 + 5) 30 := vp_in_iff.mpr (by rw [show (x_28 + 5).toInt = (x_28.toInt + 5) from (i_addv rfl (show (5 : Int32).toInt = 5 from by decide) (by omega) (by omega))]; constructor <;> omega)
            refine va_iast hx hb hK hP hD hS 8 0 rfl rfl q_39 dX11_readKind_229 (fun H locs hP hD hS => ?_)
            obtain ⟨ar_40, ear_40⟩ : ∃ z : Nat → Int32, z = upd ar_38 (x_28 + 5).toNatClampNeg u_24.1 := ⟨_, rfl⟩
            have hP : va_P D vwCl (mdW Y cI m_thrown m_status m_isThere m_kinds m_newKinds m_print m_low m_high m_lot m_taped m_latest m_length u_26.1 u_26.2.1 u_26.2.2.1 u_26.2.2.2.1 u_26.2.2.2.2.1 u_26.2.2.2.2.2 m_traced r_lane r_many r_item r_market r_of r_newMarket r_newStart (upd ar_38 (x_28 + 5).toNatClampNeg u_24.1) r_newCoin r_state r_kept r_tape r_brings r_seen r_seenOut r_trace ++ R) H := hP
            have hD : va_D A (mdW Y cI m_thrown m_status m_isThere m_kinds m_newKinds m_print m_low m_high m_lot m_taped m_latest m_length u_26.1 u_26.2.1 u_26.2.2.1 u_26.2.2.2.1 u_26.2.2.2.2.1 u_26.2.2.2.2.2 m_traced r_lane r_many r_item r_market r_of r_newMarket r_newStart (upd ar_38 (x_28 + 5).toNatClampNeg u_24.1) r_newCoin r_state r_kept r_tape r_brings r_seen r_seenOut r_trace ++ R) := hD
            rw [← ear_40] at hP hD
            have hP : va_P D vwCl (mdW Y cI m_thrown m_status m_isThere m_kinds m_newKinds m_print m_low m_high m_lot m_taped m_latest m_length u_26.1 u_26.2.1 u_26.2.2.1 u_26.2.2.2.1 u_26.2.2.2.2.1 u_26.2.2.2.2.2 m_traced r_lane r_many r_item r_market r_of r_newMarket r_newStart ar_40 r_newCoin r_state r_kept r_tape r_brings r_seen r_seenOut r_trace ++ R) H := hP
            have hD : va_D A (mdW Y cI m_thrown m_status m_isThere m_kinds m_newKinds m_print m_low m_high m_lot m_taped m_latest m_length u_26.1 u_26.2.1 u_26.2.2.1 u_26.2.2.2.1 u_26.2.2.2.2.1 u_26.2.2.2.2.2 m_traced r_lane r_many r_item r_market r_of r_newMarket r_newStart ar_40 r_newCoin r_state r_kept r_tape r_brings r_seen r_seenOut r_trace ++ R) := hD
            refine lv_aload_n hx hb dX11_readKind_230 rfl (lv_at hl 8 rfl) ?_
            refine va_get (D := D) (ci := 9) (v := .ref (Y 13)) (C := RX11) (T := TX11) (N := 35) hx hb hts iX11 hown hK hP 0 rfl rfl 13 (by decide) k34 (fun _ h9 => h9) rfl dX11_readKind_231 ?_
            refine lv_aload_n hx hb dX11_readKind_234 rfl (lv_at hl 8 rfl) ?_
            refine va_get (D := D) (ci := 9) (v := .int m_newKinds) (C := RX11) (T := TX11) (N := 35) hx hb hts iX11 hown hK hP 0 rfl rfl 9 (by decide) k151 (fun _ h9 => h9) rfl dX11_readKind_235 ?_
            refine lv_iload hx hb dX11_readKind_238 (lv_at hl 1 rfl) ?_
            have q_41 : vp_in m_newKinds 5 := vp_in_iff.mpr ⟨by omega, by omega⟩
            refine va_iast hx hb hK hP hD hS 9 0 rfl rfl q_41 dX11_readKind_240 (fun H locs hP hD hS => ?_)
            obtain ⟨ar_42, ear_42⟩ : ∃ z : Nat → Int32, z = upd r_newCoin m_newKinds.toNatClampNeg u_25.1 := ⟨_, rfl⟩
            have hP : va_P D vwCl (mdW Y cI m_thrown m_status m_isThere m_kinds m_newKinds m_print m_low m_high m_lot m_taped m_latest m_length u_26.1 u_26.2.1 u_26.2.2.1 u_26.2.2.2.1 u_26.2.2.2.2.1 u_26.2.2.2.2.2 m_traced r_lane r_many r_item r_market r_of r_newMarket r_newStart ar_40 (upd r_newCoin m_newKinds.toNatClampNeg u_25.1) r_state r_kept r_tape r_brings r_seen r_seenOut r_trace ++ R) H := hP
            have hD : va_D A (mdW Y cI m_thrown m_status m_isThere m_kinds m_newKinds m_print m_low m_high m_lot m_taped m_latest m_length u_26.1 u_26.2.1 u_26.2.2.1 u_26.2.2.2.1 u_26.2.2.2.2.1 u_26.2.2.2.2.2 m_traced r_lane r_many r_item r_market r_of r_newMarket r_newStart ar_40 (upd r_newCoin m_newKinds.toNatClampNeg u_25.1) r_state r_kept r_tape r_brings r_seen r_seenOut r_trace ++ R) := hD
            rw [← ear_42] at hP hD
            have hP : va_P D vwCl (mdW Y cI m_thrown m_status m_isThere m_kinds m_newKinds m_print m_low m_high m_lot m_taped m_latest m_length u_26.1 u_26.2.1 u_26.2.2.1 u_26.2.2.2.1 u_26.2.2.2.2.1 u_26.2.2.2.2.2 m_traced r_lane r_many r_item r_market r_of r_newMarket r_newStart ar_40 ar_42 r_state r_kept r_tape r_brings r_seen r_seenOut r_trace ++ R) H := hP
            have hD : va_D A (mdW Y cI m_thrown m_status m_isThere m_kinds m_newKinds m_print m_low m_high m_lot m_taped m_latest m_length u_26.1 u_26.2.1 u_26.2.2.1 u_26.2.2.2.1 u_26.2.2.2.2.1 u_26.2.2.2.2.2 m_traced r_lane r_many r_item r_market r_of r_newMarket r_newStart ar_40 ar_42 r_state r_kept r_tape r_brings r_seen r_seenOut r_trace ++ R) := hD
            refine lv_aload_n hx hb dX11_readKind_241 rfl (lv_at hl 8 rfl) ?_
            refine lv_dup hx hb dX11_readKind_242 rfl ?_
            refine va_get (D := D) (ci := 9) (v := .int m_newKinds) (C := RX11) (T := TX11) (N := 35) hx hb hts iX11 hown hK hP 0 rfl rfl 9 (by decide) k151 (fun _ h9 => h9) rfl dX11_readKind_243 ?_
            refine lv_iconst (v := 1) hx hb dX11_readKind_246 (by decide) ?_
            refine lv_iadd hx hb dX11_readKind_247 ?_
            refine va_put (D := D) (ci := 9) (v := .int (m_newKinds + 1)) (ty := .int) (C := RX11) (T := TX11) (N := 35) hx hb hts iX11 tyX11 tyX11_ok nmX11 hown hK hP hD hS 0 rfl rfl 9 (by decide) k151 (fun _ h9 => h9) rfl (by decide +kernel) rfl rfl (Nat.le_of_ble_eq_true rfl) dX11_readKind_248 (fun H locs hP hD hS => ?_)
            have hP : va_P D vwCl (mdW Y cI m_thrown m_status m_isThere m_kinds (m_newKinds + 1) m_print m_low m_high m_lot m_taped m_latest m_length u_26.1 u_26.2.1 u_26.2.2.1 u_26.2.2.2.1 u_26.2.2.2.2.1 u_26.2.2.2.2.2 m_traced r_lane r_many r_item r_market r_of r_newMarket r_newStart ar_40 ar_42 r_state r_kept r_tape r_brings r_seen r_seenOut r_trace ++ R) H := hP
            have hD : va_D A (mdW Y cI m_thrown m_status m_isThere m_kinds (m_newKinds + 1) m_print m_low m_high m_lot m_taped m_latest m_length u_26.1 u_26.2.1 u_26.2.2.1 u_26.2.2.2.1 u_26.2.2.2.2.1 u_26.2.2.2.2.2 m_traced r_lane r_many r_item r_market r_of r_newMarket r_newStart ar_40 ar_42 r_state r_kept r_tape r_brings r_seen r_seenOut r_trace ++ R) := hD
            rw [hQm]
            exact mx_vret (u0 := sX11_readKind m_newKinds m_length m_cursor m_token m_from m_till m_fault m_faultAt r_newOf r_newCoin r_tape) (rv := (fun _ => none)) (w1 := (fun u => mdW Y cI m_thrown m_status m_isThere m_kinds u.1 m_print m_low m_high m_lot m_taped m_latest m_length u.2.1 u.2.2.1 u.2.2.2.1 u.2.2.2.2.1 u.2.2.2.2.2.1 u.2.2.2.2.2.2.1 m_traced r_lane r_many r_item r_market r_of r_newMarket r_newStart u.2.2.2.2.2.2.2.1 u.2.2.2.2.2.2.2.2 r_state r_kept r_tape r_brings r_seen r_seenOut r_trace ++ R)) (u := (m_newKinds + 1, u_26.1, u_26.2.1, u_26.2.2.1, u_26.2.2.2.1, u_26.2.2.2.2.1, u_26.2.2.2.2.2, ar_40, ar_42)) hx hb hr hlocks hK hS (lt_eq eu_1 (lt_eq ey_2 (lt_eq eu_6 (lt_eq ey_7 (lt_eq eu_9 (lt_eq eu_10 (lt_eq ey_11 (lt_eq ey_16 (lt_eq eu_21 (lt_eq eu_22 (lt_eq eu_23 (lt_eq eu_24 (lt_eq eu_25 (lt_eq eu_26 ((if_pos c_27).trans (lt_eq ex_28 (lt_eq ear_30 (lt_eq ear_32 (lt_eq ear_34 (lt_eq ear_36 (lt_eq ear_38 (lt_eq ear_40 (lt_eq ear_42 rfl))))))))))))))))))))))) hP hD rfl dX11_readKind_251
        refine lv_icmp_ne (tgt := 85) hx hb dX11_readKind_73 (by decide) (fun c_17 => ?_) (fun c_17 => ?_)
        · have d_17 := i_eqn rfl (show (2 : Int32).toInt = 2 from by decide) c_17
          refine lv_iload_n hx hb dX11_readKind_85 rfl (lv_at hl 0 rfl) ?_
          refine lv_iconst (v := 3) hx hb dX11_readKind_86 (by decide) ?_
          refine lv_icmp_ne (tgt := 100) hx hb dX11_readKind_87 (by decide) (fun c_18 => ?_) (fun c_18 => ?_)
          · have d_18 := i_eqn rfl (show (3 : Int32).toInt = 3 from by decide) c_18
            refine lv_iconst (v := 0) hx hb dX11_readKind_100 (by decide) ?_
            exact J_16 (0, y_11.1, y_11.2.1, y_11.2.2.1, y_11.2.2.2.1, y_11.2.2.2.2.1, y_11.2.2.2.2.2) H locs ls (Eq.symm ((if_neg c_17).trans ((if_neg c_18).trans rfl))) hP hD hS (lv_sub hl [0, 1] rfl)
          · have d_18 := i_eq rfl (show (3 : Int32).toInt = 3 from by decide) c_18
            refine lv_aload_n hx hb dX11_readKind_90 rfl (lv_at hl 1 rfl) ?_
            refine lv_iconst (v := 0) hx hb dX11_readKind_91 (by decide) ?_
            refine lv_bipush (v := 9) hx hb dX11_readKind_92 (by decide) ?_
            refine mx_callV (As := [.int 0, .int 9]) (rest := []) ⟨hx, hb, hml, hown, hts⟩ (mtX11_numberIn l D cI cB cK cS Y R m_thrown m_status m_isThere m_kinds m_newKinds m_print m_low m_high m_lot m_taped m_latest m_length y_11.1 y_11.2.1 y_11.2.2.1 y_11.2.2.2.1 y_11.2.2.2.2.1 y_11.2.2.2.2.2 m_traced r_lane r_many r_item r_market r_of r_newMarket r_newStart r_newOf r_newCoin r_state r_kept r_tape r_brings r_seen r_seenOut r_trace 0 9 (by assumption) (by assumption)) (cwV 2 hts gX11_readKind_X11_numberIn rfl rfl rfl (by decide +kernel) ⟨Nat.le_of_ble_eq_true rfl, Nat.le_of_ble_eq_true rfl⟩) pF0_ok trivial hK hP hD hS hA 0 rfl rfl rfl rfl hl.1 rfl (Nat.le_of_ble_eq_true rfl) dX11_readKind_94 ⟨Nat.le_refl _, Nat.le_refl _⟩ (fun u_19 H locs eu_19 hP hD hS => ?_)
            refine W.eq (g2 := F0 m 97 ls [.int u_19.1]) rfl ?_
            have hP : va_P D vwCl (mdW Y cI m_thrown m_status m_isThere m_kinds m_newKinds m_print m_low m_high m_lot m_taped m_latest m_length u_19.2.1 u_19.2.2.1 u_19.2.2.2.1 u_19.2.2.2.2.1 u_19.2.2.2.2.2.1 u_19.2.2.2.2.2.2 m_traced r_lane r_many r_item r_market r_of r_newMarket r_newStart r_newOf r_newCoin r_state r_kept r_tape r_brings r_seen r_seenOut r_trace ++ R) H := hP
            have hD : va_D A (mdW Y cI m_thrown m_status m_isThere m_kinds m_newKinds m_print m_low m_high m_lot m_taped m_latest m_length u_19.2.1 u_19.2.2.1 u_19.2.2.2.1 u_19.2.2.2.2.1 u_19.2.2.2.2.2.1 u_19.2.2.2.2.2.2 m_traced r_lane r_many r_item r_market r_of r_newMarket r_newStart r_newOf r_newCoin r_state r_kept r_tape r_brings r_seen r_seenOut r_trace ++ R) := hD
            have hrd_u_19 := sX11_numberIn_ok (by assumption) (by assumption) eu_19
            refine lv_goto (tgt := 101) hx hb dX11_readKind_97 (by decide) ?_
            exact J_16 (u_19.1, u_19.2.1, u_19.2.2.1, u_19.2.2.2.1, u_19.2.2.2.2.1, u_19.2.2.2.2.2.1, u_19.2.2.2.2.2.2) H locs ls (Eq.symm ((if_neg c_17).trans ((if_pos c_18).trans (lt_eq eu_19 rfl)))) hP hD hS (lv_sub hl [0, 1] rfl)
        · have d_17 := i_eq rfl (show (2 : Int32).toInt = 2 from by decide) c_17
          refine lv_aload_n hx hb dX11_readKind_76 rfl (lv_at hl 1 rfl) ?_
          refine lv_iconst (v := 1) hx hb dX11_readKind_77 (by decide) ?_
          refine lv_iconst (v := 3) hx hb dX11_readKind_78 (by decide) ?_
          refine mx_callV (As := [.int 1, .int 3]) (rest := []) ⟨hx, hb, hml, hown, hts⟩ (mtX11_numberIn l D cI cB cK cS Y R m_thrown m_status m_isThere m_kinds m_newKinds m_print m_low m_high m_lot m_taped m_latest m_length y_11.1 y_11.2.1 y_11.2.2.1 y_11.2.2.2.1 y_11.2.2.2.2.1 y_11.2.2.2.2.2 m_traced r_lane r_many r_item r_market r_of r_newMarket r_newStart r_newOf r_newCoin r_state r_kept r_tape r_brings r_seen r_seenOut r_trace 1 3 (by assumption) (by assumption)) (cwV 2 hts gX11_readKind_X11_numberIn rfl rfl rfl (by decide +kernel) ⟨Nat.le_of_ble_eq_true rfl, Nat.le_of_ble_eq_true rfl⟩) pF0_ok trivial hK hP hD hS hA 0 rfl rfl rfl rfl hl.1 rfl (Nat.le_of_ble_eq_true rfl) dX11_readKind_79 ⟨Nat.le_refl _, Nat.le_refl _⟩ (fun u_20 H locs eu_20 hP hD hS => ?_)
          refine W.eq (g2 := F0 m 82 ls [.int u_20.1]) rfl ?_
          have hP : va_P D vwCl (mdW Y cI m_thrown m_status m_isThere m_kinds m_newKinds m_print m_low m_high m_lot m_taped m_latest m_length u_20.2.1 u_20.2.2.1 u_20.2.2.2.1 u_20.2.2.2.2.1 u_20.2.2.2.2.2.1 u_20.2.2.2.2.2.2 m_traced r_lane r_many r_item r_market r_of r_newMarket r_newStart r_newOf r_newCoin r_state r_kept r_tape r_brings r_seen r_seenOut r_trace ++ R) H := hP
          have hD : va_D A (mdW Y cI m_thrown m_status m_isThere m_kinds m_newKinds m_print m_low m_high m_lot m_taped m_latest m_length u_20.2.1 u_20.2.2.1 u_20.2.2.2.1 u_20.2.2.2.2.1 u_20.2.2.2.2.2.1 u_20.2.2.2.2.2.2 m_traced r_lane r_many r_item r_market r_of r_newMarket r_newStart r_newOf r_newCoin r_state r_kept r_tape r_brings r_seen r_seenOut r_trace ++ R) := hD
          have hrd_u_20 := sX11_numberIn_ok (by assumption) (by assumption) eu_20
          refine lv_goto (tgt := 101) hx hb dX11_readKind_82 (by decide) ?_
          exact J_16 (u_20.1, u_20.2.1, u_20.2.2.1, u_20.2.2.2.1, u_20.2.2.2.2.1, u_20.2.2.2.2.2.1, u_20.2.2.2.2.2.2) H locs ls (Eq.symm ((if_pos c_17).trans (lt_eq eu_20 rfl))) hP hD hS (lv_sub hl [0, 1] rfl)
      refine lv_if_ne (tgt := 71) hx hb dX11_readKind_53 (by decide) (fun c_12 => ?_) (fun c_12 => ?_)
      · have d_12 := i_eqn rfl (show (0 : Int32).toInt = 0 from by decide) c_12
        exact J_11 (u_9.1, u_9.2.1, u_9.2.2.1, u_9.2.2.2.1, u_9.2.2.2.2.1, u_9.2.2.2.2.2) H locs ls (Eq.symm ((if_neg c_12).trans rfl)) hP hD hS (lv_sub hl [0, 1] rfl)
      · have d_12 := i_eq rfl (show (0 : Int32).toInt = 0 from by decide) c_12
        refine lv_aload_n hx hb dX11_readKind_56 rfl (lv_at hl 1 rfl) ?_
        refine lv_iload_n hx hb dX11_readKind_57 rfl (lv_at hl 0 rfl) ?_
        refine lv_ldc (v := (-1000000)) hx hb hown k94 dX11_readKind_58 ?_
        have J_13 : ∀ (y_13 : Int32) (H : Heap) (locs : List Loc) (ls : Array Slot), y_13 = (if u_10 = (-1000000) then (0) else (1)) → va_P D vwCl (mdW Y cI m_thrown m_status m_isThere m_kinds m_newKinds m_print m_low m_high m_lot m_taped m_latest m_length u_9.1 u_9.2.1 u_9.2.2.1 u_9.2.2.2.1 u_9.2.2.2.2.1 u_9.2.2.2.2.2 m_traced r_lane r_many r_item r_market r_of r_newMarket r_newStart r_newOf r_newCoin r_state r_kept r_tape r_brings r_seen r_seenOut r_trace ++ R) H → va_D A (mdW Y cI m_thrown m_status m_isThere m_kinds m_newKinds m_print m_low m_high m_lot m_taped m_latest m_length u_9.1 u_9.2.1 u_9.2.2.1 u_9.2.2.2.1 u_9.2.2.2.2.1 u_9.2.2.2.2.2 m_traced r_lane r_many r_item r_market r_of r_newMarket r_newStart r_newOf r_newCoin r_state r_kept r_tape r_brings r_seen r_seenOut r_trace ++ R) → va_S A s.heap H locs → lv_has ls 9 [(1, .int u_10), (0, .ref (Y 0))] → W p l e (rmX 5) s m ([.ref (Y 0)] : List Value).toArray below meth c H locs 0 0 Qm (F0 m 68 ls [.int y_13, .ref (Y 0)]) := by
          intro y_13 H locs ls ey_13 hP hD hS hl
          refine mx_callV (As := [.int y_13]) (rest := []) ⟨hx, hb, hml, hown, hts⟩ (mtX11_must l D cI cB cK cS Y R m_thrown m_status m_isThere m_kinds m_newKinds m_print m_low m_high m_lot m_taped m_latest m_length u_9.1 u_9.2.1 u_9.2.2.1 u_9.2.2.2.1 u_9.2.2.2.2.1 u_9.2.2.2.2.2 m_traced r_lane r_many r_item r_market r_of r_newMarket r_newStart r_newOf r_newCoin r_state r_kept r_tape r_brings r_seen r_seenOut r_trace y_13 (by assumption) (by assumption)) (cwV 1 hts gX11_readKind_X11_must rfl rfl rfl (by decide +kernel) ⟨Nat.le_of_ble_eq_true rfl, Nat.le_of_ble_eq_true rfl⟩) pF0_ok trivial hK hP hD hS hA 0 rfl rfl rfl rfl hl.1 rfl (Nat.le_of_ble_eq_true rfl) dX11_readKind_68 ⟨Nat.le_refl _, Nat.le_refl _⟩ (fun u_15 H locs eu_15 hP hD hS => ?_)
          refine W.eq (g2 := F0 m 71 ls []) rfl ?_
          have hP : va_P D vwCl (mdW Y cI m_thrown m_status m_isThere m_kinds m_newKinds m_print m_low m_high m_lot m_taped m_latest m_length u_15.1 u_15.2.1 u_15.2.2.1 u_15.2.2.2.1 u_15.2.2.2.2.1 u_15.2.2.2.2.2 m_traced r_lane r_many r_item r_market r_of r_newMarket r_newStart r_newOf r_newCoin r_state r_kept r_tape r_brings r_seen r_seenOut r_trace ++ R) H := hP
          have hD : va_D A (mdW Y cI m_thrown m_status m_isThere m_kinds m_newKinds m_print m_low m_high m_lot m_taped m_latest m_length u_15.1 u_15.2.1 u_15.2.2.1 u_15.2.2.2.1 u_15.2.2.2.2.1 u_15.2.2.2.2.2 m_traced r_lane r_many r_item r_market r_of r_newMarket r_newStart r_newOf r_newCoin r_state r_kept r_tape r_brings r_seen r_seenOut r_trace ++ R) := hD
          have hrd_u_15 := sX11_must_ok (by assumption) (by assumption) eu_15
          exact J_11 (u_15.1, u_15.2.1, u_15.2.2.1, u_15.2.2.2.1, u_15.2.2.2.2.1, u_15.2.2.2.2.2) H locs ls (Eq.symm ((if_pos c_12).trans (lt_eq ey_13 (lt_eq eu_15 rfl)))) hP hD hS (lv_sub hl [0, 1] rfl)
        refine lv_icmp_eq (tgt := 67) hx hb dX11_readKind_60 (by decide) (fun c_14 => ?_) (fun c_14 => ?_)
        · have d_14 := i_eq rfl (show ((-1000000) : Int32).toInt = (-1000000) from by decide) c_14
          refine lv_iconst (v := 0) hx hb dX11_readKind_67 (by decide) ?_
          exact J_13 0 H locs ls (Eq.symm ((if_pos c_14).trans rfl)) hP hD hS (lv_sub hl [0, 1] rfl)
        · have d_14 := i_eqn rfl (show ((-1000000) : Int32).toInt = (-1000000) from by decide) c_14
          refine lv_iconst (v := 1) hx hb dX11_readKind_63 (by decide) ?_
          refine lv_goto (tgt := 68) hx hb dX11_readKind_64 (by decide) ?_
          exact J_13 1 H locs ls (Eq.symm ((if_neg c_14).trans rfl)) hP hD hS (lv_sub hl [0, 1] rfl)
    refine lv_if_ne (tgt := 40) hx hb dX11_readKind_33 (by decide) (fun c_8 => ?_) (fun c_8 => ?_)
    · have d_8 := i_eqn rfl (show (0 : Int32).toInt = 0 from by decide) c_8
      refine lv_iconst (v := 0) hx hb dX11_readKind_40 (by decide) ?_
      exact J_7 0 H locs ls (Eq.symm ((if_neg c_8).trans rfl)) hP hD hS (lv_sub hl [0] rfl)
    · have d_8 := i_eq rfl (show (0 : Int32).toInt = 0 from by decide) c_8
      refine lv_iconst (v := 1) hx hb dX11_readKind_36 (by decide) ?_
      refine lv_goto (tgt := 41) hx hb dX11_readKind_37 (by decide) ?_
      exact J_7 1 H locs ls (Eq.symm ((if_pos c_8).trans rfl)) hP hD hS (lv_sub hl [0] rfl)
  refine lv_if_ne (tgt := 24) hx hb dX11_readKind_8 (by decide) (fun c_3 => ?_) (fun c_3 => ?_)
  · have d_3 := i_eqn rfl (show (0 : Int32).toInt = 0 from by decide) c_3
    exact J_2 (m_fault, m_faultAt) H locs ls (Eq.symm ((if_neg c_3).trans rfl)) hP hD hS (lv_sub hl [0] rfl)
  · have d_3 := i_eq rfl (show (0 : Int32).toInt = 0 from by decide) c_3
    refine lv_aload_n hx hb dX11_readKind_11 rfl (lv_at hl 0 rfl) ?_
    refine va_get (D := D) (ci := 9) (v := .int m_newKinds) (C := RX11) (T := TX11) (N := 35) hx hb hts iX11 hown hK hP 0 rfl rfl 9 (by decide) k151 (fun _ h9 => h9) rfl dX11_readKind_12 ?_
    refine lv_iconst (v := 5) hx hb dX11_readKind_15 (by decide) ?_
    refine lv_icmp_ne (tgt := 24) hx hb dX11_readKind_16 (by decide) (fun c_4 => ?_) (fun c_4 => ?_)
    · have d_4 := i_eqn rfl (show (5 : Int32).toInt = 5 from by decide) c_4
      exact J_2 (m_fault, m_faultAt) H locs ls (Eq.symm ((if_pos c_3).trans ((if_neg c_4).trans rfl))) hP hD hS (lv_sub hl [0] rfl)
    · have d_4 := i_eq rfl (show (5 : Int32).toInt = 5 from by decide) c_4
      refine lv_aload_n hx hb dX11_readKind_19 rfl (lv_at hl 0 rfl) ?_
      refine lv_iconst (v := 3) hx hb dX11_readKind_20 (by decide) ?_
      refine mx_callV (As := [.int 3]) (rest := []) ⟨hx, hb, hml, hown, hts⟩ (mtX11_bad l D cI cB cK cS Y R m_thrown m_status m_isThere m_kinds m_newKinds m_print m_low m_high m_lot m_taped m_latest m_length m_cursor m_token m_from m_till m_fault m_faultAt m_traced r_lane r_many r_item r_market r_of r_newMarket r_newStart r_newOf r_newCoin r_state r_kept r_tape r_brings r_seen r_seenOut r_trace 3) (cwV 1 hts gX11_readKind_X11_bad rfl rfl rfl (by decide +kernel) ⟨Nat.le_of_ble_eq_true rfl, Nat.le_of_ble_eq_true rfl⟩) pF0_ok trivial hK hP hD hS hA 0 rfl rfl rfl rfl hl.1 rfl (Nat.le_of_ble_eq_true rfl) dX11_readKind_21 ⟨Nat.le_refl _, Nat.le_refl _⟩ (fun u_5 H locs eu_5 hP hD hS => ?_)
      refine W.eq (g2 := F0 m 24 ls []) rfl ?_
      have hP : va_P D vwCl (mdW Y cI m_thrown m_status m_isThere m_kinds m_newKinds m_print m_low m_high m_lot m_taped m_latest m_length m_cursor m_token m_from m_till u_5.1 u_5.2 m_traced r_lane r_many r_item r_market r_of r_newMarket r_newStart r_newOf r_newCoin r_state r_kept r_tape r_brings r_seen r_seenOut r_trace ++ R) H := hP
      have hD : va_D A (mdW Y cI m_thrown m_status m_isThere m_kinds m_newKinds m_print m_low m_high m_lot m_taped m_latest m_length m_cursor m_token m_from m_till u_5.1 u_5.2 m_traced r_lane r_many r_item r_market r_of r_newMarket r_newStart r_newOf r_newCoin r_state r_kept r_tape r_brings r_seen r_seenOut r_trace ++ R) := hD
      exact J_2 (u_5.1, u_5.2) H locs ls (Eq.symm ((if_pos c_3).trans ((if_pos c_4).trans (lt_eq eu_5 rfl)))) hP hD hS (lv_sub hl [0] rfl)
