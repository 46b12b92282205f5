theorem l_sumv (a b : Int32) : (a.toInt64 + b.toInt64).toInt = a.toInt + b.toInt := by
  have h1 := i_rng a
  have h2 := i_rng b
  rw [Int64.toInt_add, Int32.toInt_toInt64, Int32.toInt_toInt64]
  exact Int.bmod_eq_of_le (by omega) (by omega)
theorem l_sum_le {a b d : Int32} (c : ¬ 0 < lg_cmp (a.toInt64 + b.toInt64) d.toInt64) : a.toInt + b.toInt ≤ d.toInt := by
  rw [zc_gt, Int64.lt_iff_toInt_lt, l_sumv, Int32.toInt_toInt64] at c
  omega
theorem l_sum_le2 {a b d : Int32} (c : lg_cmp (a.toInt64 + b.toInt64) d.toInt64 ≤ 0) : a.toInt + b.toInt ≤ d.toInt := by
  apply l_sum_le
  intro h
  have h1 := i_le rfl (show (0 : Int32).toInt = 0 from by decide) c
  have h2 := i_lt (show (0 : Int32).toInt = 0 from by decide) rfl h
  omega
def tr_ok (t : Int32) : Prop := 0 ≤ t.toInt ∧ t.toInt ≤ 16
def lX11_sheet_65 (k : Int32) : Nat → Int32 → (Nat → Int32) → Int32 × (Nat → Int32)
  | 0, x4_65, r_item_65 => (x4_65, r_item_65)
  | n + 1, x4_65, r_item_65 => if 60 ≤ x4_65 then ((x4_65, r_item_65)) else (lt (upd r_item_65 ((60 * k) + x4_65).toNatClampNeg 0) (fun ar_13 : Nat → Int32 => lt (x4_65 + 1) (fun x_14 : Int32 => lX11_sheet_65 k n x_14 ar_13)))

def sX11_sheet (k : Int32) (a : Int32) (nn : Int32) (m_status : Int32) (r_lane : Nat → Int32) (r_many : Nat → Int32) (r_item : Nat → Int32) : Int32 × (Int32) × (Int32) × (Nat → Int32) × (Nat → Int32) × (Nat → Int32) := lt (sX11_isSheet k) (fun u_1 : Int32 => if u_1 = 0 then (((-1000001), 0, m_status, r_lane, r_many, r_item)) else (lt (sX11_in a.toInt64 0 2) (fun u_3 : Int32 => if u_3 = 0 then (((-1000001), 0, m_status, r_lane, r_many, r_item)) else (if nn ≤ 60 then (if 0 ≤ nn then (lt (upd r_lane k.toNatClampNeg a) (fun ar_8 : Nat → Int32 => lt (upd r_many k.toNatClampNeg nn) (fun ar_10 : Nat → Int32 => lt (lX11_sheet_65 k 61 0 r_item) (fun u_15 : Int32 × (Nat → Int32) => (nn, 0, 0, ar_8, ar_10, u_15.2))))) else (lt (sX11_finding 4) (fun u_16 : Int32 × (Int32) => (u_16.1, 0, u_16.2, r_lane, r_many, r_item)))) else (((-1000001), 0, m_status, r_lane, r_many, r_item))))))
set_option maxHeartbeats 4000000 in
set_option maxRecDepth 100000 in
theorem mtX11_sheet (l : Launch) (D : va_G) (cI cB cK cS : ClassId) (Y : Nat → Nat) (R : va_W) (m_thrown : Int32) (m_status : Int32) (m_isThere : Int32) (m_kinds : Int32) (m_newKinds : Int32) (m_print : Int32) (m_low : Int32) (m_high : Int32) (m_lot : Int32) (m_taped : Int32) (m_latest : Int32) (m_length : Int32) (m_cursor : Int32) (m_token : Int32) (m_from : Int32) (m_till : Int32) (m_fault : Int32) (m_faultAt : Int32) (m_traced : Int32) (r_lane : Nat → Int32) (r_many : Nat → Int32) (r_item : Nat → Int32) (r_market : Nat → Int32) (r_of : Nat → Int32) (r_newMarket : Nat → Int32) (r_newStart : Nat → Int32) (r_newOf : Nat → Int32) (r_newCoin : Nat → Int32) (r_state : Nat → Int32) (r_kept : Nat → Int32) (r_tape : Nat → Int32) (r_brings : Nat → Int32) (r_seen : Nat → Int32) (r_seenOut : Nat → Int32) (r_trace : Nat → Int32) (k : Int32) (a : Int32) (nn : Int32) : MX l yX11_sheet wsX11_sheet (rmX 3) D (tyX cI cB cK cS) pF0 (mdW Y cI m_thrown m_status m_isThere m_kinds m_newKinds m_print m_low m_high m_lot m_taped m_latest m_length m_cursor m_token m_from m_till m_fault m_faultAt m_traced r_lane r_many r_item r_market r_of r_newMarket r_newStart r_newOf r_newCoin r_state r_kept r_tape r_brings r_seen r_seenOut r_trace ++ R) [.ref (Y 0), .int k, .int a, .int nn] (sX11_sheet k a nn m_status r_lane r_many r_item) (fun u => some (.int u.1)) (fun u => mdW Y cI u.2.1 u.2.2.1 m_isThere m_kinds m_newKinds m_print m_low m_high m_lot m_taped m_latest m_length m_cursor m_token m_from m_till m_fault m_faultAt m_traced u.2.2.2.1 u.2.2.2.2.1 u.2.2.2.2.2 r_market r_of r_newMarket r_newStart r_newOf r_newCoin r_state r_kept r_tape r_brings r_seen r_seenOut r_trace ++ R) := by
  refine mx_intro (cc := cX11_sheet) (maxL := 5) (ret := (some .int)) (by decide) rfl (Nat.le_of_ble_eq_true rfl) ?_
  intro p e s m below meth c A ls H locs Qm hQm hx hb hr hml hts hown hlocks hA hS hP hK hD hF hl
  have hown : s.vm.findClass RX11 = some m.cls := hown
  have hl : lv_has ls 5 [(0, .ref (Y 0)), (1, .int k), (2, .int a), (3, .int nn)] := hl
  have k58 := hts (.fieldLink RX11 58 "PigRoundsModel" "thrown" "I") (by decide +kernel)
  have k78 := hts (.constant RX11 78 (-1000001)) (by decide +kernel)
  have k76 := hts (.constantLong RX11 76 (2)) (by decide +kernel)
  have k62 := hts (.fieldLink RX11 62 "PigRoundsModel" "status" "I") (by decide +kernel)
  have k7 := hts (.fieldLink RX11 7 "PigRoundsModel" "lane" "[I") (by decide +kernel)
  have k13 := hts (.fieldLink RX11 13 "PigRoundsModel" "many" "[I") (by decide +kernel)
  have k16 := hts (.fieldLink RX11 16 "PigRoundsModel" "item" "[I") (by decide +kernel)
  have iX11 : ∀ w ∈ u_ws RX11 TX11 35, w ∈ wsX11_sheet := by decide +kernel
  refine lv_aload_n hx hb dX11_sheet_0 rfl (lv_at hl 0 rfl) ?_
  refine lv_iconst (v := 0) hx hb dX11_sheet_1 (by decide) ?_
  refine va_put (D := D) (ci := 9) (v := .int 0) (ty := .int) (C := RX11) (T := TX11) (N := 35) hx hb hts iX11 tyX11 tyX11_ok nmX11 hown hK hP hD hS 0 rfl rfl 0 (by decide) k58 (fun _ h9 => h9) rfl (by decide +kernel) rfl rfl (Nat.le_of_ble_eq_true rfl) dX11_sheet_2 (fun H locs hP hD hS => ?_)
  have hP : va_P D vwCl (mdW Y cI 0 m_status m_isThere m_kinds m_newKinds m_print m_low m_high m_lot m_taped m_latest m_length m_cursor m_token m_from m_till m_fault m_faultAt m_traced r_lane r_many r_item r_market r_of r_newMarket r_newStart r_newOf r_newCoin r_state r_kept r_tape r_brings r_seen r_seenOut r_trace ++ R) H := hP
  have hD : va_D A (mdW Y cI 0 m_status m_isThere m_kinds m_newKinds m_print m_low m_high m_lot m_taped m_latest m_length m_cursor m_token m_from m_till m_fault m_faultAt m_traced r_lane r_many r_item r_market r_of r_newMarket r_newStart r_newOf r_newCoin r_state r_kept r_tape r_brings r_seen r_seenOut r_trace ++ R) := hD
  refine lv_iload_n hx hb dX11_sheet_5 rfl (lv_at hl 1 rfl) ?_
  refine mx_callS (As := [.int k]) (rest := []) ⟨hx, hb, hml, hown, hts⟩ (mtX11_isSheet l D cI cB cK cS (mdW Y cI 0 m_status m_isThere m_kinds m_newKinds m_print m_low m_high m_lot m_taped m_latest m_length m_cursor m_token m_from m_till m_fault m_faultAt m_traced r_lane r_many r_item r_market r_of r_newMarket r_newStart r_newOf r_newCoin r_state r_kept r_tape r_brings r_seen r_seenOut r_trace ++ R) k) (va_cwS 1 hts gX11_sheet_X11_isSheet rfl rfl rfl (by decide +kernel) ⟨Nat.le_of_ble_eq_true rfl, Nat.le_of_ble_eq_true rfl⟩) pF0_ok trivial hK hP hD hS hA rfl hl.1 rfl (Nat.le_of_ble_eq_true rfl) dX11_sheet_6 ⟨Nat.le_refl _, Nat.le_refl _⟩ (fun u_1 H locs eu_1 hP hD hS => ?_)
  refine W.eq (g2 := F0 m 9 ls [.int u_1]) rfl ?_
  have hP : va_P D vwCl (mdW Y cI 0 m_status m_isThere m_kinds m_newKinds m_print m_low m_high m_lot m_taped m_latest m_length m_cursor m_token m_from m_till m_fault m_faultAt m_traced r_lane r_many r_item r_market r_of r_newMarket r_newStart r_newOf r_newCoin r_state r_kept r_tape r_brings r_seen r_seenOut r_trace ++ R) H := hP
  have hD : va_D A (mdW Y cI 0 m_status m_isThere m_kinds m_newKinds m_print m_low m_high m_lot m_taped m_latest m_length m_cursor m_token m_from m_till m_fault m_faultAt m_traced r_lane r_many r_item r_market r_of r_newMarket r_newStart r_newOf r_newCoin r_state r_kept r_tape r_brings r_seen r_seenOut r_trace ++ R) := hD
  refine lv_if_eq (tgt := 30) hx hb dX11_sheet_9 (by decide) (fun c_2 => ?_) (fun c_2 => ?_)
  · have d_2 := i_eq rfl (show (0 : Int32).toInt = 0 from by decide) c_2
    refine lv_ldc (v := (-1000001)) hx hb hown k78 dX11_sheet_30 ?_
    rw [hQm]
    exact mx_iret (u0 := sX11_sheet k a nn m_status r_lane r_many r_item) (rv := (fun u => some (.int u.1))) (w1 := (fun u => mdW Y cI u.2.1 u.2.2.1 m_isThere m_kinds m_newKinds m_print m_low m_high m_lot m_taped m_latest m_length m_cursor m_token m_from m_till m_fault m_faultAt m_traced u.2.2.2.1 u.2.2.2.2.1 u.2.2.2.2.2 r_market r_of r_newMarket r_newStart r_newOf r_newCoin r_state r_kept r_tape r_brings r_seen r_seenOut r_trace ++ R)) (u := ((-1000001), 0, m_status, r_lane, r_many, r_item)) hx hb hr hlocks hK hS (lt_eq eu_1 ((if_pos c_2).trans rfl)) hP hD rfl dX11_sheet_32
  · have d_2 := i_eqn rfl (show (0 : Int32).toInt = 0 from by decide) c_2
    have dt_2 := sX11_isSheet_t eu_1 c_2
    refine lv_iload_n hx hb dX11_sheet_12 rfl (lv_at hl 2 rfl) ?_
    refine lv_i2l (v := a.toInt64) hx hb dX11_sheet_13 rfl ?_
    refine lv_lconst (v := 0) hx hb dX11_sheet_14 (by decide) ?_
    refine lv_ldc2 (v := 2) hx hb hown k76 dX11_sheet_15 ?_
    refine mx_callS (As := [.long a.toInt64, .long 0, .long 2]) (rest := []) ⟨hx, hb, hml, hown, hts⟩ (mtX11_in l D cI cB cK cS (mdW Y cI 0 m_status m_isThere m_kinds m_newKinds m_print m_low m_high m_lot m_taped m_latest m_length m_cursor m_token m_from m_till m_fault m_faultAt m_traced r_lane r_many r_item r_market r_of r_newMarket r_newStart r_newOf r_newCoin r_state r_kept r_tape r_brings r_seen r_seenOut r_trace ++ R) a.toInt64 0 2) (va_cwS 3 hts gX11_sheet_X11_in rfl rfl rfl (by decide +kernel) ⟨Nat.le_of_ble_eq_true rfl, Nat.le_of_ble_eq_true rfl⟩) pF0_ok trivial hK hP hD hS hA rfl hl.1 rfl (Nat.le_of_ble_eq_true rfl) dX11_sheet_18 ⟨Nat.le_refl _, Nat.le_refl _⟩ (fun u_3 H locs eu_3 hP hD hS => ?_)
    refine W.eq (g2 := F0 m 21 ls [.int u_3]) rfl ?_
    have hP : va_P D vwCl (mdW Y cI 0 m_status m_isThere m_kinds m_newKinds m_print m_low m_high m_lot m_taped m_latest m_length m_cursor m_token m_from m_till m_fault m_faultAt m_traced r_lane r_many r_item r_market r_of r_newMarket r_newStart r_newOf r_newCoin r_state r_kept r_tape r_brings r_seen r_seenOut r_trace ++ R) H := hP
    have hD : va_D A (mdW Y cI 0 m_status m_isThere m_kinds m_newKinds m_print m_low m_high m_lot m_taped m_latest m_length m_cursor m_token m_from m_till m_fault m_faultAt m_traced r_lane r_many r_item r_market r_of r_newMarket r_newStart r_newOf r_newCoin r_state r_kept r_tape r_brings r_seen r_seenOut r_trace ++ R) := hD
    refine lv_if_eq (tgt := 30) hx hb dX11_sheet_21 (by decide) (fun c_4 => ?_) (fun c_4 => ?_)
    · have d_4 := i_eq rfl (show (0 : Int32).toInt = 0 from by decide) c_4
      refine lv_ldc (v := (-1000001)) hx hb hown k78 dX11_sheet_30 ?_
      rw [hQm]
      exact mx_iret (u0 := sX11_sheet k a nn m_status r_lane r_many r_item) (rv := (fun u => some (.int u.1))) (w1 := (fun u => mdW Y cI u.2.1 u.2.2.1 m_isThere m_kinds m_newKinds m_print m_low m_high m_lot m_taped m_latest m_length m_cursor m_token m_from m_till m_fault m_faultAt m_traced u.2.2.2.1 u.2.2.2.2.1 u.2.2.2.2.2 r_market r_of r_newMarket r_newStart r_newOf r_newCoin r_state r_kept r_tape r_brings r_seen r_seenOut r_trace ++ R)) (u := ((-1000001), 0, m_status, r_lane, r_many, r_item)) hx hb hr hlocks hK hS (lt_eq eu_1 ((if_neg c_2).trans (lt_eq eu_3 ((if_pos c_4).trans rfl)))) hP hD rfl dX11_sheet_32
    · have d_4 := i_eqn rfl (show (0 : Int32).toInt = 0 from by decide) c_4
      have dt_4 := sX11_in_t ((Int32.toInt_toInt64 _).trans rfl) (show (0 : Int64).toInt = 0 from by decide) (show (2 : Int64).toInt = 2 from by decide) eu_3 c_4
      refine lv_iload_n hx hb dX11_sheet_24 rfl (lv_at hl 3 rfl) ?_
      refine lv_bipush (v := 60) hx hb dX11_sheet_25 (by decide) ?_
      refine lv_icmp_le (tgt := 33) hx hb dX11_sheet_27 (by decide) (fun c_5 => ?_) (fun c_5 => ?_)
      · have d_5 := i_le rfl (show (60 : Int32).toInt = 60 from by decide) c_5
        refine lv_aload_n hx hb dX11_sheet_33 rfl (lv_at hl 0 rfl) ?_
        refine lv_iconst (v := 0) hx hb dX11_sheet_34 (by decide) ?_
        refine va_put (D := D) (ci := 9) (v := .int 0) (ty := .int) (C := RX11) (T := TX11) (N := 35) hx hb hts iX11 tyX11 tyX11_ok nmX11 hown hK hP hD hS 0 rfl rfl 1 (by decide) k62 (fun _ h9 => h9) rfl (by decide +kernel) rfl rfl (Nat.le_of_ble_eq_true rfl) dX11_sheet_35 (fun H locs hP hD hS => ?_)
        have hP : va_P D vwCl (mdW Y cI 0 0 m_isThere m_kinds m_newKinds m_print m_low m_high m_lot m_taped m_latest m_length m_cursor m_token m_from m_till m_fault m_faultAt m_traced r_lane r_many r_item r_market r_of r_newMarket r_newStart r_newOf r_newCoin r_state r_kept r_tape r_brings r_seen r_seenOut r_trace ++ R) H := hP
        have hD : va_D A (mdW Y cI 0 0 m_isThere m_kinds m_newKinds m_print m_low m_high m_lot m_taped m_latest m_length m_cursor m_token m_from m_till m_fault m_faultAt m_traced r_lane r_many r_item r_market r_of r_newMarket r_newStart r_newOf r_newCoin r_state r_kept r_tape r_brings r_seen r_seenOut r_trace ++ R) := hD
        refine lv_iload_n hx hb dX11_sheet_38 rfl (lv_at hl 3 rfl) ?_
        refine lv_if_ge (tgt := 48) hx hb dX11_sheet_39 (by decide) (fun c_6 => ?_) (fun c_6 => ?_)
        · have d_6 := i_le (show (0 : Int32).toInt = 0 from by decide) rfl c_6
          refine lv_aload_n hx hb dX11_sheet_48 rfl (lv_at hl 0 rfl) ?_
          refine va_get (D := D) (ci := 9) (v := .ref (Y 2)) (C := RX11) (T := TX11) (N := 35) hx hb hts iX11 hown hK hP 0 rfl rfl 2 (by decide) k7 (fun _ h9 => h9) rfl dX11_sheet_49 ?_
          refine lv_iload_n hx hb dX11_sheet_52 rfl (lv_at hl 1 rfl) ?_
          refine lv_iload_n hx hb dX11_sheet_53 rfl (lv_at hl 2 rfl) ?_
          have q_7 : vp_in k 8 := vp_in_iff.mpr ⟨by omega, by omega⟩
          refine va_iast hx hb hK hP hD hS 1 0 rfl rfl q_7 dX11_sheet_54 (fun H locs hP hD hS => ?_)
          obtain ⟨ar_8, ear_8⟩ : ∃ z : Nat → Int32, z = upd r_lane k.toNatClampNeg a := ⟨_, rfl⟩
          have hP : va_P D vwCl (mdW Y cI 0 0 m_isThere m_kinds m_newKinds m_print m_low m_high m_lot m_taped m_latest m_length m_cursor m_token m_from m_till m_fault m_faultAt m_traced (upd r_lane k.toNatClampNeg a) r_many r_item r_market r_of r_newMarket r_newStart r_newOf r_newCoin r_state r_kept r_tape r_brings r_seen r_seenOut r_trace ++ R) H := hP
          have hD : va_D A (mdW Y cI 0 0 m_isThere m_kinds m_newKinds m_print m_low m_high m_lot m_taped m_latest m_length m_cursor m_token m_from m_till m_fault m_faultAt m_traced (upd r_lane k.toNatClampNeg a) r_many r_item r_market r_of r_newMarket r_newStart r_newOf r_newCoin r_state r_kept r_tape r_brings r_seen r_seenOut r_trace ++ R) := hD
          rw [← ear_8] at hP hD
          have hP : va_P D vwCl (mdW Y cI 0 0 m_isThere m_kinds m_newKinds m_print m_low m_high m_lot m_taped m_latest m_length m_cursor m_token m_from m_till m_fault m_faultAt m_traced ar_8 r_many r_item r_market r_of r_newMarket r_newStart r_newOf r_newCoin r_state r_kept r_tape r_brings r_seen r_seenOut r_trace ++ R) H := hP
          have hD : va_D A (mdW Y cI 0 0 m_isThere m_kinds m_newKinds m_print m_low m_high m_lot m_taped m_latest m_length m_cursor m_token m_from m_till m_fault m_faultAt m_traced ar_8 r_many r_item r_market r_of r_newMarket r_newStart r_newOf r_newCoin r_state r_kept r_tape r_brings r_seen r_seenOut r_trace ++ R) := hD
          refine lv_aload_n hx hb dX11_sheet_55 rfl (lv_at hl 0 rfl) ?_
          refine va_get (D := D) (ci := 9) (v := .ref (Y 3)) (C := RX11) (T := TX11) (N := 35) hx hb hts iX11 hown hK hP 0 rfl rfl 3 (by decide) k13 (fun _ h9 => h9) rfl dX11_sheet_56 ?_
          refine lv_iload_n hx hb dX11_sheet_59 rfl (lv_at hl 1 rfl) ?_
          refine lv_iload_n hx hb dX11_sheet_60 rfl (lv_at hl 3 rfl) ?_
          have q_9 : vp_in k 8 := vp_in_iff.mpr ⟨by omega, by omega⟩
          refine va_iast hx hb hK hP hD hS 2 0 rfl rfl q_9 dX11_sheet_61 (fun H locs hP hD hS => ?_)
          obtain ⟨ar_10, ear_10⟩ : ∃ z : Nat → Int32, z = upd r_many k.toNatClampNeg nn := ⟨_, rfl⟩
          have hP : va_P D vwCl (mdW Y cI 0 0 m_isThere m_kinds m_newKinds m_print m_low m_high m_lot m_taped m_latest m_length m_cursor m_token m_from m_till m_fault m_faultAt m_traced ar_8 (upd r_many k.toNatClampNeg nn) r_item r_market r_of r_newMarket r_newStart r_newOf r_newCoin r_state r_kept r_tape r_brings r_seen r_seenOut r_trace ++ R) H := hP
          have hD : va_D A (mdW Y cI 0 0 m_isThere m_kinds m_newKinds m_print m_low m_high m_lot m_taped m_latest m_length m_cursor m_token m_from m_till m_fault m_faultAt m_traced ar_8 (upd r_many k.toNatClampNeg nn) r_item r_market r_of r_newMarket r_newStart r_newOf r_newCoin r_state r_kept r_tape r_brings r_seen r_seenOut r_trace ++ R) := hD
          rw [← ear_10] at hP hD
          have hP : va_P D vwCl (mdW Y cI 0 0 m_isThere m_kinds m_newKinds m_print m_low m_high m_lot m_taped m_latest m_length m_cursor m_token m_from m_till m_fault m_faultAt m_traced ar_8 ar_10 r_item r_market r_of r_newMarket r_newStart r_newOf r_newCoin r_state r_kept r_tape r_brings r_seen r_seenOut r_trace ++ R) H := hP
          have hD : va_D A (mdW Y cI 0 0 m_isThere m_kinds m_newKinds m_print m_low m_high m_lot m_taped m_latest m_length m_cursor m_token m_from m_till m_fault m_faultAt m_traced ar_8 ar_10 r_item r_market r_of r_newMarket r_newStart r_newOf r_newCoin r_state r_kept r_tape r_brings r_seen r_seenOut r_trace ++ R) := hD
          refine lv_iconst (v := 0) hx hb dX11_sheet_62 (by decide) ?_
          refine lv_istore (lv' := [(4, .int 0), (0, .ref (Y 0)), (1, .int k), (2, .int a), (3, .int nn)]) hx hb dX11_sheet_63 hl (by decide) rfl (fun ls hl => ?_)
          have L_65 : ∀ (n : Nat) (x4_65 : Int32) (r_item_65 : Nat → Int32) (H : Heap) (locs : List Loc) (ls : Array Slot), 0 ≤ x4_65.toInt → x4_65.toInt ≤ 60 → (60 : Int) < x4_65.toInt + ((n : Nat) : Int) → va_P D vwCl (mdW Y cI 0 0 m_isThere m_kinds m_newKinds m_print m_low m_high m_lot m_taped m_latest m_length m_cursor m_token m_from m_till m_fault m_faultAt m_traced ar_8 ar_10 r_item_65 r_market r_of r_newMarket r_newStart r_newOf r_newCoin r_state r_kept r_tape r_brings r_seen r_seenOut r_trace ++ R) H → va_D A (mdW Y cI 0 0 m_isThere m_kinds m_newKinds m_print m_low m_high m_lot m_taped m_latest m_length m_cursor m_token m_from m_till m_fault m_faultAt m_traced ar_8 ar_10 r_item_65 r_market r_of r_newMarket r_newStart r_newOf r_newCoin r_state r_kept r_tape r_brings r_seen r_seenOut r_trace ++ R) → va_S A s.heap H locs → lv_has ls 5 [(4, .int x4_65), (0, .ref (Y 0)), (1, .int k), (3, .int nn)] → (∀ (u : Int32 × (Nat → Int32)) (H : Heap) (locs : List Loc) (ls : Array Slot), u = lX11_sheet_65 k n x4_65 r_item_65 → va_P D vwCl (mdW Y cI 0 0 m_isThere m_kinds m_newKinds m_print m_low m_high m_lot m_taped m_latest m_length m_cursor m_token m_from m_till m_fault m_faultAt m_traced ar_8 ar_10 u.2 r_market r_of r_newMarket r_newStart r_newOf r_newCoin r_state r_kept r_tape r_brings r_seen r_seenOut r_trace ++ R) H → va_D A (mdW Y cI 0 0 m_isThere m_kinds m_newKinds m_print m_low m_high m_lot m_taped m_latest m_length m_cursor m_token m_from m_till m_fault m_faultAt m_traced ar_8 ar_10 u.2 r_market r_of r_newMarket r_newStart r_newOf r_newCoin r_state r_kept r_tape r_brings r_seen r_seenOut r_trace ++ R) → va_S A s.heap H locs → lv_has ls 5 [(3, .int nn)] → W p l e (rmX 3) s m ([.ref (Y 0), .int k, .int a, .int nn] : List Value).toArray below meth c H locs 0 0 Qm (F0 m 91 ls [])) → W p l e (rmX 3) s m ([.ref (Y 0), .int k, .int a, .int nn] : List Value).toArray below meth c H locs 0 0 Qm (F0 m 65 ls []) := by
            intro n
            induction n with
            | zero =>
              intro x4_65 r_item_65 H locs ls iv_65_0 iv_65_1 iv_65_2 hP hD hS hl kont_65
              exfalso; omega
            | succ n ih_65 =>
              intro x4_65 r_item_65 H locs ls iv_65_0 iv_65_1 iv_65_2 hP hD hS hl kont_65
              refine lv_iload hx hb dX11_sheet_65 (lv_at hl 0 rfl) ?_
              refine lv_bipush (v := 60) hx hb dX11_sheet_67 (by decide) ?_
              refine lv_icmp_ge (tgt := 91) hx hb dX11_sheet_69 (by decide) (fun c_11 => ?_) (fun c_11 => ?_)
              · have d_11 := i_le (show (60 : Int32).toInt = 60 from by decide) rfl c_11
                exact kont_65 (x4_65, r_item_65) H locs ls (show lX11_sheet_65 k (n + 1) x4_65 r_item_65 = (x4_65, r_item_65) from ((if_pos c_11).trans rfl)).symm  hP hD hS (lv_sub hl [3] rfl)
              · have d_11 := i_len (show (60 : Int32).toInt = 60 from by decide) rfl c_11
                refine lv_aload_n hx hb dX11_sheet_72 rfl (lv_at hl 1 rfl) ?_
                refine va_get (D := D) (ci := 9) (v := .ref (Y 4)) (C := RX11) (T := TX11) (N := 35) hx hb hts iX11 hown hK hP 0 rfl rfl 4 (by decide) k16 (fun _ h9 => h9) rfl dX11_sheet_73 ?_
                refine lv_bipush (v := 60) hx hb dX11_sheet_76 (by decide) ?_
                refine lv_iload_n hx hb dX11_sheet_78 rfl (lv_at hl 2 rfl) ?_
                refine lv_imul hx hb dX11_sheet_79 ?_
                refine lv_iload hx hb dX11_sheet_80 (lv_at hl 0 rfl) ?_
                refine lv_iadd hx hb dX11_sheet_82 ?_
                refine lv_iconst (v := 0) hx hb dX11_sheet_83 (by decide) ?_
                have q_12 : vp_in ((60 * k) + x4_65) 480 := vp_in_iff.mpr (by rw [show ((60 * k) + x4_65).toInt = ((60 * k.toInt) + x4_65.toInt) from (i_addv (i_mulv (show (60 : Int32).toInt = 60 from by decide) rfl (by omega) (by omega)) rfl (by omega) (by omega))]; constructor <;> omega)
                refine va_iast hx hb hK hP hD hS 3 0 rfl rfl q_12 dX11_sheet_84 (fun H locs hP hD hS => ?_)
                obtain ⟨ar_13, ear_13⟩ : ∃ z : Nat → Int32, z = upd r_item_65 ((60 * k) + x4_65).toNatClampNeg 0 := ⟨_, rfl⟩
                have hP : va_P D vwCl (mdW Y cI 0 0 m_isThere m_kinds m_newKinds m_print m_low m_high m_lot m_taped m_latest m_length m_cursor m_token m_from m_till m_fault m_faultAt m_traced ar_8 ar_10 (upd r_item_65 ((60 * k) + x4_65).toNatClampNeg 0) r_market r_of r_newMarket r_newStart r_newOf r_newCoin r_state r_kept r_tape r_brings r_seen r_seenOut r_trace ++ R) H := hP
                have hD : va_D A (mdW Y cI 0 0 m_isThere m_kinds m_newKinds m_print m_low m_high m_lot m_taped m_latest m_length m_cursor m_token m_from m_till m_fault m_faultAt m_traced ar_8 ar_10 (upd r_item_65 ((60 * k) + x4_65).toNatClampNeg 0) r_market r_of r_newMarket r_newStart r_newOf r_newCoin r_state r_kept r_tape r_brings r_seen r_seenOut r_trace ++ R) := hD
                rw [← ear_13] at hP hD
                have hP : va_P D vwCl (mdW Y cI 0 0 m_isThere m_kinds m_newKinds m_print m_low m_high m_lot m_taped m_latest m_length m_cursor m_token m_from m_till m_fault m_faultAt m_traced ar_8 ar_10 ar_13 r_market r_of r_newMarket r_newStart r_newOf r_newCoin r_state r_kept r_tape r_brings r_seen r_seenOut r_trace ++ R) H := hP
                have hD : va_D A (mdW Y cI 0 0 m_isThere m_kinds m_newKinds m_print m_low m_high m_lot m_taped m_latest m_length m_cursor m_token m_from m_till m_fault m_faultAt m_traced ar_8 ar_10 ar_13 r_market r_of r_newMarket r_newStart r_newOf r_newCoin r_state r_kept r_tape r_brings r_seen r_seenOut r_trace ++ R) := hD
                obtain ⟨x_14, ex_14⟩ : ∃ z : Int32, z = x4_65 + 1 := ⟨_, rfl⟩
                refine lv_iinc (v := x_14) (lv' := [(4, .int x_14), (0, .ref (Y 0)), (1, .int k), (3, .int nn)]) hx hb dX11_sheet_85 hl (k := 0) rfl (by rw [ex_14]; rfl) (by decide) rfl (fun ls hl => ?_)
                refine lv_goto (tgt := 65) hx hb dX11_sheet_88 (by decide) ?_
                have tx_14 : x_14.toInt = x4_65.toInt + 1 := i_inc ex_14 (by decide) (by omega) (by omega)
                refine ih_65 x_14 ar_13 H locs ls (by omega) (by omega) (by omega) hP hD hS (lv_sub hl [0, 1, 2, 3] rfl) (fun u H locs ls eu  hP hD hS hl => ?_)
                exact kont_65 u H locs ls (eu.trans (show lX11_sheet_65 k (n + 1) x4_65 r_item_65 = lX11_sheet_65 k n x_14 ar_13 from ((if_neg c_11).trans (lt_eq ear_13 (lt_eq ex_14 rfl)))).symm)  hP hD hS hl
          refine L_65 61 0 r_item H locs ls (by decide) (by decide) (by decide) hP hD hS (lv_sub hl [0, 1, 2, 4] rfl) (fun u_15 H locs ls eu_15  hP hD hS hl => ?_)
          have hP : va_P D vwCl (mdW Y cI 0 0 m_isThere m_kinds m_newKinds m_print m_low m_high m_lot m_taped m_latest m_length m_cursor m_token m_from m_till m_fault m_faultAt m_traced ar_8 ar_10 u_15.2 r_market r_of r_newMarket r_newStart r_newOf r_newCoin r_state r_kept r_tape r_brings r_seen r_seenOut r_trace ++ R) H := hP
          have hD : va_D A (mdW Y cI 0 0 m_isThere m_kinds m_newKinds m_print m_low m_high m_lot m_taped m_latest m_length m_cursor m_token m_from m_till m_fault m_faultAt m_traced ar_8 ar_10 u_15.2 r_market r_of r_newMarket r_newStart r_newOf r_newCoin r_state r_kept r_tape r_brings r_seen r_seenOut r_trace ++ R) := hD
          refine lv_iload_n hx hb dX11_sheet_91 rfl (lv_at hl 0 rfl) ?_
          rw [hQm]
          exact mx_iret (u0 := sX11_sheet k a nn m_status r_lane r_many r_item) (rv := (fun u => some (.int u.1))) (w1 := (fun u => mdW Y cI u.2.1 u.2.2.1 m_isThere m_kinds m_newKinds m_print m_low m_high m_lot m_taped m_latest m_length m_cursor m_token m_from m_till m_fault m_faultAt m_traced u.2.2.2.1 u.2.2.2.2.1 u.2.2.2.2.2 r_market r_of r_newMarket r_newStart r_newOf r_newCoin r_state r_kept r_tape r_brings r_seen r_seenOut r_trace ++ R)) (u := (nn, 0, 0, ar_8, ar_10, u_15.2)) hx hb hr hlocks hK hS (lt_eq eu_1 ((if_neg c_2).trans (lt_eq eu_3 ((if_neg c_4).trans ((if_pos c_5).trans ((if_pos c_6).trans (lt_eq ear_8 (lt_eq ear_10 (lt_eq eu_15 rfl))))))))) hP hD rfl dX11_sheet_92
        · have d_6 := i_len (show (0 : Int32).toInt = 0 from by decide) rfl c_6
          refine lv_aload_n hx hb dX11_sheet_42 rfl (lv_at hl 0 rfl) ?_
          refine lv_iconst (v := 4) hx hb dX11_sheet_43 (by decide) ?_
          refine mx_callV (As := [.int 4]) (rest := []) ⟨hx, hb, hml, hown, hts⟩ (mtX11_finding l D cI cB cK cS Y R 0 0 m_isThere m_kinds m_newKinds m_print m_low m_high m_lot m_taped m_latest m_length m_cursor m_token m_from m_till m_fault m_faultAt m_traced r_lane r_many r_item r_market r_of r_newMarket r_newStart r_newOf r_newCoin r_state r_kept r_tape r_brings r_seen r_seenOut r_trace 4) (cwV 1 hts gX11_sheet_X11_finding rfl rfl rfl (by decide +kernel) ⟨Nat.le_of_ble_eq_true rfl, Nat.le_of_ble_eq_true rfl⟩) pF0_ok trivial hK hP hD hS hA 0 rfl rfl rfl rfl hl.1 rfl (Nat.le_of_ble_eq_true rfl) dX11_sheet_44 ⟨Nat.le_refl _, Nat.le_refl _⟩ (fun u_16 H locs eu_16 hP hD hS => ?_)
          refine W.eq (g2 := F0 m 47 ls [.int u_16.1]) rfl ?_
          have hP : va_P D vwCl (mdW Y cI 0 u_16.2 m_isThere m_kinds m_newKinds m_print m_low m_high m_lot m_taped m_latest m_length m_cursor m_token m_from m_till m_fault m_faultAt m_traced r_lane r_many r_item r_market r_of r_newMarket r_newStart r_newOf r_newCoin r_state r_kept r_tape r_brings r_seen r_seenOut r_trace ++ R) H := hP
          have hD : va_D A (mdW Y cI 0 u_16.2 m_isThere m_kinds m_newKinds m_print m_low m_high m_lot m_taped m_latest m_length m_cursor m_token m_from m_till m_fault m_faultAt m_traced r_lane r_many r_item r_market r_of r_newMarket r_newStart r_newOf r_newCoin r_state r_kept r_tape r_brings r_seen r_seenOut r_trace ++ R) := hD
          rw [hQm]
          exact mx_iret (u0 := sX11_sheet k a nn m_status r_lane r_many r_item) (rv := (fun u => some (.int u.1))) (w1 := (fun u => mdW Y cI u.2.1 u.2.2.1 m_isThere m_kinds m_newKinds m_print m_low m_high m_lot m_taped m_latest m_length m_cursor m_token m_from m_till m_fault m_faultAt m_traced u.2.2.2.1 u.2.2.2.2.1 u.2.2.2.2.2 r_market r_of r_newMarket r_newStart r_newOf r_newCoin r_state r_kept r_tape r_brings r_seen r_seenOut r_trace ++ R)) (u := (u_16.1, 0, u_16.2, r_lane, r_many, r_item)) hx hb hr hlocks hK hS (lt_eq eu_1 ((if_neg c_2).trans (lt_eq eu_3 ((if_neg c_4).trans ((if_pos c_5).trans ((if_neg c_6).trans (lt_eq eu_16 rfl))))))) hP hD rfl dX11_sheet_47
      · have d_5 := i_len rfl (show (60 : Int32).toInt = 60 from by decide) c_5
        refine lv_ldc (v := (-1000001)) hx hb hown k78 dX11_sheet_30 ?_
        rw [hQm]
        exact mx_iret (u0 := sX11_sheet k a nn m_status r_lane r_many r_item) (rv := (fun u => some (.int u.1))) (w1 := (fun u => mdW Y cI u.2.1 u.2.2.1 m_isThere m_kinds m_newKinds m_print m_low m_high m_lot m_taped m_latest m_length m_cursor m_token m_from m_till m_fault m_faultAt m_traced u.2.2.2.1 u.2.2.2.2.1 u.2.2.2.2.2 r_market r_of r_newMarket r_newStart r_newOf r_newCoin r_state r_kept r_tape r_brings r_seen r_seenOut r_trace ++ R)) (u := ((-1000001), 0, m_status, r_lane, r_many, r_item)) hx hb hr hlocks hK hS (lt_eq eu_1 ((if_neg c_2).trans (lt_eq eu_3 ((if_neg c_4).trans ((if_neg c_5).trans rfl))))) hP hD rfl dX11_sheet_32

def sX11_set (k : Int32) (j : Int32) (v : Int32) (m_status : Int32) (r_lane : Nat → Int32) (r_many : Nat → Int32) (r_item : Nat → Int32) : Int32 × (Int32) × (Int32) × (Nat → Int32) := lt (sX11_isSheet k) (fun u_1 : Int32 => if u_1 = 0 then (((-1000001), 0, m_status, r_item)) else (if 0 ≤ (r_lane k.toNatClampNeg) then (lt (sX11_in j.toInt64 0 (((r_many k.toNatClampNeg) - 1).toInt64)) (fun u_6 : Int32 => if u_6 = 0 then (lt (sX11_finding 2) (fun u_17 : Int32 × (Int32) => (u_17.1, 0, u_17.2, r_item))) else (lt (if (r_lane k.toNatClampNeg) = 0 then (v.toInt8.toInt32) else (if (r_lane k.toNatClampNeg) = 1 then (v.toInt16.toInt32) else (v))) (fun y_10 : Int32 => lt (upd r_item ((60 * k) + j).toNatClampNeg y_10) (fun ar_15 : Nat → Int32 => ((ar_15 ((60 * k) + j).toNatClampNeg), 0, 0, ar_15)))))) else (lt (sX11_finding 1) (fun u_18 : Int32 × (Int32) => (u_18.1, 0, u_18.2, r_item)))))
set_option maxHeartbeats 4000000 in
set_option maxRecDepth 100000 in
theorem mtX11_set (l : Launch) (D : va_G) (cI cB cK cS : ClassId) (Y : Nat → Nat) (R : va_W) (m_thrown : Int32) (m_status : Int32) (m_isThere : Int32) (m_kinds : Int32) (m_newKinds : Int32) (m_print : Int32) (m_low : Int32) (m_high : Int32) (m_lot : Int32) (m_taped : Int32) (m_latest : Int32) (m_length : Int32) (m_cursor : Int32) (m_token : Int32) (m_from : Int32) (m_till : Int32) (m_fault : Int32) (m_faultAt : Int32) (m_traced : Int32) (r_lane : Nat → Int32) (r_many : Nat → Int32) (r_item : Nat → Int32) (r_market : Nat → Int32) (r_of : Nat → Int32) (r_newMarket : Nat → Int32) (r_newStart : Nat → Int32) (r_newOf : Nat → Int32) (r_newCoin : Nat → Int32) (r_state : Nat → Int32) (r_kept : Nat → Int32) (r_tape : Nat → Int32) (r_brings : Nat → Int32) (r_seen : Nat → Int32) (r_seenOut : Nat → Int32) (r_trace : Nat → Int32) (k : Int32) (j : Int32) (v : Int32) (hmn : ∀ i, i < 8 → 0 ≤ (r_many i).toInt ∧ (r_many i).toInt ≤ 60) : MX l yX11_set wsX11_set (rmX 3) D (tyX cI cB cK cS) pF0 (mdW Y cI m_thrown m_status m_isThere m_kinds m_newKinds m_print m_low m_high m_lot m_taped m_latest m_length m_cursor m_token m_from m_till m_fault m_faultAt m_traced r_lane r_many r_item r_market r_of r_newMarket r_newStart r_newOf r_newCoin r_state r_kept r_tape r_brings r_seen r_seenOut r_trace ++ R) [.ref (Y 0), .int k, .int j, .int v] (sX11_set k j v m_status r_lane r_many r_item) (fun u => some (.int u.1)) (fun u => mdW Y cI u.2.1 u.2.2.1 m_isThere m_kinds m_newKinds m_print m_low m_high m_lot m_taped m_latest m_length m_cursor m_token m_from m_till m_fault m_faultAt m_traced r_lane r_many u.2.2.2 r_market r_of r_newMarket r_newStart r_newOf r_newCoin r_state r_kept r_tape r_brings r_seen r_seenOut r_trace ++ R) := by
  refine mx_intro (cc := cX11_set) (maxL := 4) (ret := (some .int)) (by decide) rfl (Nat.le_of_ble_eq_true rfl) ?_
  intro p e s m below meth c A ls H locs Qm hQm hx hb hr hml hts hown hlocks hA hS hP hK hD hF hl
  have hown : s.vm.findClass RX11 = some m.cls := hown
  have hl : lv_has ls 4 [(0, .ref (Y 0)), (1, .int k), (2, .int j), (3, .int v)] := hl
  have k58 := hts (.fieldLink RX11 58 "PigRoundsModel" "thrown" "I") (by decide +kernel)
  have k62 := hts (.fieldLink RX11 62 "PigRoundsModel" "status" "I") (by decide +kernel)
  have k7 := hts (.fieldLink RX11 7 "PigRoundsModel" "lane" "[I") (by decide +kernel)
  have k13 := hts (.fieldLink RX11 13 "PigRoundsModel" "many" "[I") (by decide +kernel)
  have k16 := hts (.fieldLink RX11 16 "PigRoundsModel" "item" "[I") (by decide +kernel)
  have k78 := hts (.constant RX11 78 (-1000001)) (by decide +kernel)
  have iX11 : ∀ w ∈ u_ws RX11 TX11 35, w ∈ wsX11_set := by decide +kernel
  refine lv_aload_n hx hb dX11_set_0 rfl (lv_at hl 0 rfl) ?_
  refine lv_iconst (v := 0) hx hb dX11_set_1 (by decide) ?_
  refine va_put (D := D) (ci := 9) (v := .int 0) (ty := .int) (C := RX11) (T := TX11) (N := 35) hx hb hts iX11 tyX11 tyX11_ok nmX11 hown hK hP hD hS 0 rfl rfl 0 (by decide) k58 (fun _ h9 => h9) rfl (by decide +kernel) rfl rfl (Nat.le_of_ble_eq_true rfl) dX11_set_2 (fun H locs hP hD hS => ?_)
  have hP : va_P D vwCl (mdW Y cI 0 m_status m_isThere m_kinds m_newKinds m_print m_low m_high m_lot m_taped m_latest m_length m_cursor m_token m_from m_till m_fault m_faultAt m_traced r_lane r_many r_item r_market r_of r_newMarket r_newStart r_newOf r_newCoin r_state r_kept r_tape r_brings r_seen r_seenOut r_trace ++ R) H := hP
  have hD : va_D A (mdW Y cI 0 m_status m_isThere m_kinds m_newKinds m_print m_low m_high m_lot m_taped m_latest m_length m_cursor m_token m_from m_till m_fault m_faultAt m_traced r_lane r_many r_item r_market r_of r_newMarket r_newStart r_newOf r_newCoin r_state r_kept r_tape r_brings r_seen r_seenOut r_trace ++ R) := hD
  refine lv_iload_n hx hb dX11_set_5 rfl (lv_at hl 1 rfl) ?_
  refine mx_callS (As := [.int k]) (rest := []) ⟨hx, hb, hml, hown, hts⟩ (mtX11_isSheet l D cI cB cK cS (mdW Y cI 0 m_status m_isThere m_kinds m_newKinds m_print m_low m_high m_lot m_taped m_latest m_length m_cursor m_token m_from m_till m_fault m_faultAt m_traced r_lane r_many r_item r_market r_of r_newMarket r_newStart r_newOf r_newCoin r_state r_kept r_tape r_brings r_seen r_seenOut r_trace ++ R) k) (va_cwS 1 hts gX11_set_X11_isSheet rfl rfl rfl (by decide +kernel) ⟨Nat.le_of_ble_eq_true rfl, Nat.le_of_ble_eq_true rfl⟩) pF0_ok trivial hK hP hD hS hA rfl hl.1 rfl (Nat.le_of_ble_eq_true rfl) dX11_set_6 ⟨Nat.le_refl _, Nat.le_refl _⟩ (fun u_1 H locs eu_1 hP hD hS => ?_)
  refine W.eq (g2 := F0 m 9 ls [.int u_1]) rfl ?_
  have hP : va_P D vwCl (mdW Y cI 0 m_status m_isThere m_kinds m_newKinds m_print m_low m_high m_lot m_taped m_latest m_length m_cursor m_token m_from m_till m_fault m_faultAt m_traced r_lane r_many r_item r_market r_of r_newMarket r_newStart r_newOf r_newCoin r_state r_kept r_tape r_brings r_seen r_seenOut r_trace ++ R) H := hP
  have hD : va_D A (mdW Y cI 0 m_status m_isThere m_kinds m_newKinds m_print m_low m_high m_lot m_taped m_latest m_length m_cursor m_token m_from m_till m_fault m_faultAt m_traced r_lane r_many r_item r_market r_of r_newMarket r_newStart r_newOf r_newCoin r_state r_kept r_tape r_brings r_seen r_seenOut r_trace ++ R) := hD
  refine lv_if_ne (tgt := 15) hx hb dX11_set_9 (by decide) (fun c_2 => ?_) (fun c_2 => ?_)
  · have d_2 := i_eqn rfl (show (0 : Int32).toInt = 0 from by decide) c_2
    have dt_2 := sX11_isSheet_t eu_1 c_2
    refine lv_aload_n hx hb dX11_set_15 rfl (lv_at hl 0 rfl) ?_
    refine lv_iconst (v := 0) hx hb dX11_set_16 (by decide) ?_
    refine va_put (D := D) (ci := 9) (v := .int 0) (ty := .int) (C := RX11) (T := TX11) (N := 35) hx hb hts iX11 tyX11 tyX11_ok nmX11 hown hK hP hD hS 0 rfl rfl 1 (by decide) k62 (fun _ h9 => h9) rfl (by decide +kernel) rfl rfl (Nat.le_of_ble_eq_true rfl) dX11_set_17 (fun H locs hP hD hS => ?_)
    have hP : va_P D vwCl (mdW Y cI 0 0 m_isThere m_kinds m_newKinds m_print m_low m_high m_lot m_taped m_latest m_length m_cursor m_token m_from m_till m_fault m_faultAt m_traced r_lane r_many r_item r_market r_of r_newMarket r_newStart r_newOf r_newCoin r_state r_kept r_tape r_brings r_seen r_seenOut r_trace ++ R) H := hP
    have hD : va_D A (mdW Y cI 0 0 m_isThere m_kinds m_newKinds m_print m_low m_high m_lot m_taped m_latest m_length m_cursor m_token m_from m_till m_fault m_faultAt m_traced r_lane r_many r_item r_market r_of r_newMarket r_newStart r_newOf r_newCoin r_state r_kept r_tape r_brings r_seen r_seenOut r_trace ++ R) := hD
    refine lv_aload_n hx hb dX11_set_20 rfl (lv_at hl 0 rfl) ?_
    refine va_get (D := D) (ci := 9) (v := .ref (Y 2)) (C := RX11) (T := TX11) (N := 35) hx hb hts iX11 hown hK hP 0 rfl rfl 2 (by decide) k7 (fun _ h9 => h9) rfl dX11_set_21 ?_
    refine lv_iload_n hx hb dX11_set_24 rfl (lv_at hl 1 rfl) ?_
    have q_3 : vp_in k 8 := vp_in_iff.mpr ⟨by omega, by omega⟩
    refine va_iald hx hb hK hP 1 0 rfl rfl q_3 dX11_set_25 ?_
    refine lv_if_ge (tgt := 35) hx hb dX11_set_26 (by decide) (fun c_4 => ?_) (fun c_4 => ?_)
    · have d_4 := i_le (show (0 : Int32).toInt = 0 from by decide) rfl c_4
      have hm_k := hmn k.toNatClampNeg (vp_lt (vp_in_iff.mpr ⟨by omega, by omega⟩))
      refine lv_iload_n hx hb dX11_set_35 rfl (lv_at hl 2 rfl) ?_
      refine lv_i2l (v := j.toInt64) hx hb dX11_set_36 rfl ?_
      refine lv_lconst (v := 0) hx hb dX11_set_37 (by decide) ?_
      refine lv_aload_n hx hb dX11_set_38 rfl (lv_at hl 0 rfl) ?_
      refine va_get (D := D) (ci := 9) (v := .ref (Y 3)) (C := RX11) (T := TX11) (N := 35) hx hb hts iX11 hown hK hP 0 rfl rfl 3 (by decide) k13 (fun _ h9 => h9) rfl dX11_set_39 ?_
      refine lv_iload_n hx hb dX11_set_42 rfl (lv_at hl 1 rfl) ?_
      have q_5 : vp_in k 8 := vp_in_iff.mpr ⟨by omega, by omega⟩
      refine va_iald hx hb hK hP 2 0 rfl rfl q_5 dX11_set_43 ?_
      refine lv_iconst (v := 1) hx hb dX11_set_44 (by decide) ?_
      refine lv_isub hx hb dX11_set_45 ?_
      refine lv_i2l (v := ((r_many k.toNatClampNeg) - 1).toInt64) hx hb dX11_set_46 rfl ?_
      refine mx_callS (As := [.long j.toInt64, .long 0, .long (((r_many k.toNatClampNeg) - 1).toInt64)]) (rest := []) ⟨hx, hb, hml, hown, hts⟩ (mtX11_in l D cI cB cK cS (mdW Y cI 0 0 m_isThere m_kinds m_newKinds m_print m_low m_high m_lot m_taped m_latest m_length m_cursor m_token m_from m_till m_fault m_faultAt m_traced r_lane r_many r_item r_market r_of r_newMarket r_newStart r_newOf r_newCoin r_state r_kept r_tape r_brings r_seen r_seenOut r_trace ++ R) j.toInt64 0 (((r_many k.toNatClampNeg) - 1).toInt64)) (va_cwS 3 hts gX11_set_X11_in rfl rfl rfl (by decide +kernel) ⟨Nat.le_of_ble_eq_true rfl, Nat.le_of_ble_eq_true rfl⟩) pF0_ok trivial hK hP hD hS hA rfl hl.1 rfl (Nat.le_of_ble_eq_true rfl) dX11_set_47 ⟨Nat.le_refl _, Nat.le_refl _⟩ (fun u_6 H locs eu_6 hP hD hS => ?_)
      refine W.eq (g2 := F0 m 50 ls [.int u_6]) rfl ?_
      have hP : va_P D vwCl (mdW Y cI 0 0 m_isThere m_kinds m_newKinds m_print m_low m_high m_lot m_taped m_latest m_length m_cursor m_token m_from m_till m_fault m_faultAt m_traced r_lane r_many r_item r_market r_of r_newMarket r_newStart r_newOf r_newCoin r_state r_kept r_tape r_brings r_seen r_seenOut r_trace ++ R) H := hP
      have hD : va_D A (mdW Y cI 0 0 m_isThere m_kinds m_newKinds m_print m_low m_high m_lot m_taped m_latest m_length m_cursor m_token m_from m_till m_fault m_faultAt m_traced r_lane r_many r_item r_market r_of r_newMarket r_newStart r_newOf r_newCoin r_state r_kept r_tape r_brings r_seen r_seenOut r_trace ++ R) := hD
      refine lv_if_ne (tgt := 59) hx hb dX11_set_50 (by decide) (fun c_7 => ?_) (fun c_7 => ?_)
      · have d_7 := i_eqn rfl (show (0 : Int32).toInt = 0 from by decide) c_7
        have dt_7 := sX11_in_t ((Int32.toInt_toInt64 _).trans rfl) (show (0 : Int64).toInt = 0 from by decide) ((Int32.toInt_toInt64 _).trans (i_subv rfl (show (1 : Int32).toInt = 1 from by decide) (by omega) (by omega))) eu_6 c_7
        refine lv_aload_n hx hb dX11_set_59 rfl (lv_at hl 0 rfl) ?_
        refine va_get (D := D) (ci := 9) (v := .ref (Y 4)) (C := RX11) (T := TX11) (N := 35) hx hb hts iX11 hown hK hP 0 rfl rfl 4 (by decide) k16 (fun _ h9 => h9) rfl dX11_set_60 ?_
        refine lv_bipush (v := 60) hx hb dX11_set_63 (by decide) ?_
        refine lv_iload_n hx hb dX11_set_65 rfl (lv_at hl 1 rfl) ?_
        refine lv_imul hx hb dX11_set_66 ?_
        refine lv_iload_n hx hb dX11_set_67 rfl (lv_at hl 2 rfl) ?_
        refine lv_iadd hx hb dX11_set_68 ?_
        refine lv_aload_n hx hb dX11_set_69 rfl (lv_at hl 0 rfl) ?_
        refine va_get (D := D) (ci := 9) (v := .ref (Y 2)) (C := RX11) (T := TX11) (N := 35) hx hb hts iX11 hown hK hP 0 rfl rfl 2 (by decide) k7 (fun _ h9 => h9) rfl dX11_set_70 ?_
        refine lv_iload_n hx hb dX11_set_73 rfl (lv_at hl 1 rfl) ?_
        have q_8 : vp_in k 8 := vp_in_iff.mpr ⟨by omega, by omega⟩
        refine va_iald hx hb hK hP 1 0 rfl rfl q_8 dX11_set_74 ?_
        have J_10 : ∀ (y_10 : Int32) (H : Heap) (locs : List Loc) (ls : Array Slot), y_10 = (if (r_lane k.toNatClampNeg) = 0 then (v.toInt8.toInt32) else (if (r_lane k.toNatClampNeg) = 1 then (v.toInt16.toInt32) else (v))) → va_P D vwCl (mdW Y cI 0 0 m_isThere m_kinds m_newKinds m_print m_low m_high m_lot m_taped m_latest m_length m_cursor m_token m_from m_till m_fault m_faultAt m_traced r_lane r_many r_item r_market r_of r_newMarket r_newStart r_newOf r_newCoin r_state r_kept r_tape r_brings r_seen r_seenOut r_trace ++ R) H → va_D A (mdW Y cI 0 0 m_isThere m_kinds m_newKinds m_print m_low m_high m_lot m_taped m_latest m_length m_cursor m_token m_from m_till m_fault m_faultAt m_traced r_lane r_many r_item r_market r_of r_newMarket r_newStart r_newOf r_newCoin r_state r_kept r_tape r_brings r_seen r_seenOut r_trace ++ R) → va_S A s.heap H locs → lv_has ls 4 [(0, .ref (Y 0)), (1, .int k), (2, .int j)] → W p l e (rmX 3) s m ([.ref (Y 0), .int k, .int j, .int v] : List Value).toArray below meth c H locs 0 0 Qm (F0 m 99 ls [.int y_10, .int ((60 * k) + j), .ref (Y 4)]) := by
          intro y_10 H locs ls ey_10 hP hD hS hl
          have q_14 : vp_in ((60 * k) + j) 480 := vp_in_iff.mpr (by rw [show ((60 * k) + j).toInt = ((60 * k.toInt) + j.toInt) from (i_addv (i_mulv (show (60 : Int32).toInt = 60 from by decide) rfl (by omega) (by omega)) rfl (by omega) (by omega))]; constructor <;> omega)
          refine va_iast hx hb hK hP hD hS 3 0 rfl rfl q_14 dX11_set_99 (fun H locs hP hD hS => ?_)
          obtain ⟨ar_15, ear_15⟩ : ∃ z : Nat → Int32, z = upd r_item ((60 * k) + j).toNatClampNeg y_10 := ⟨_, rfl⟩
          have hP : va_P D vwCl (mdW Y cI 0 0 m_isThere m_kinds m_newKinds m_print m_low m_high m_lot m_taped m_latest m_length m_cursor m_token m_from m_till m_fault m_faultAt m_traced r_lane r_many (upd r_item ((60 * k) + j).toNatClampNeg y_10) r_market r_of r_newMarket r_newStart r_newOf r_newCoin r_state r_kept r_tape r_brings r_seen r_seenOut r_trace ++ R) H := hP
          have hD : va_D A (mdW Y cI 0 0 m_isThere m_kinds m_newKinds m_print m_low m_high m_lot m_taped m_latest m_length m_cursor m_token m_from m_till m_fault m_faultAt m_traced r_lane r_many (upd r_item ((60 * k) + j).toNatClampNeg y_10) r_market r_of r_newMarket r_newStart r_newOf r_newCoin r_state r_kept r_tape r_brings r_seen r_seenOut r_trace ++ R) := hD
          rw [← ear_15] at hP hD
          have hP : va_P D vwCl (mdW Y cI 0 0 m_isThere m_kinds m_newKinds m_print m_low m_high m_lot m_taped m_latest m_length m_cursor m_token m_from m_till m_fault m_faultAt m_traced r_lane r_many ar_15 r_market r_of r_newMarket r_newStart r_newOf r_newCoin r_state r_kept r_tape r_brings r_seen r_seenOut r_trace ++ R) H := hP
          have hD : va_D A (mdW Y cI 0 0 m_isThere m_kinds m_newKinds m_print m_low m_high m_lot m_taped m_latest m_length m_cursor m_token m_from m_till m_fault m_faultAt m_traced r_lane r_many ar_15 r_market r_of r_newMarket r_newStart r_newOf r_newCoin r_state r_kept r_tape r_brings r_seen r_seenOut r_trace ++ R) := hD
          refine lv_aload_n hx hb dX11_set_100 rfl (lv_at hl 0 rfl) ?_
          refine va_get (D := D) (ci := 9) (v := .ref (Y 4)) (C := RX11) (T := TX11) (N := 35) hx hb hts iX11 hown hK hP 0 rfl rfl 4 (by decide) k16 (fun _ h9 => h9) rfl dX11_set_101 ?_
          refine lv_bipush (v := 60) hx hb dX11_set_104 (by decide) ?_
          refine lv_iload_n hx hb dX11_set_106 rfl (lv_at hl 1 rfl) ?_
          refine lv_imul hx hb dX11_set_107 ?_
          refine lv_iload_n hx hb dX11_set_108 rfl (lv_at hl 2 rfl) ?_
          refine lv_iadd hx hb dX11_set_109 ?_
          have q_16 : vp_in ((60 * k) + j) 480 := vp_in_iff.mpr (by rw [show ((60 * k) + j).toInt = ((60 * k.toInt) + j.toInt) from (i_addv (i_mulv (show (60 : Int32).toInt = 60 from by decide) rfl (by omega) (by omega)) rfl (by omega) (by omega))]; constructor <;> omega)
          refine va_iald hx hb hK hP 3 0 rfl rfl q_16 dX11_set_110 ?_
          rw [hQm]
          exact mx_iret (u0 := sX11_set k j v m_status r_lane r_many r_item) (rv := (fun u => some (.int u.1))) (w1 := (fun u => mdW Y cI u.2.1 u.2.2.1 m_isThere m_kinds m_newKinds m_print m_low m_high m_lot m_taped m_latest m_length m_cursor m_token m_from m_till m_fault m_faultAt m_traced r_lane r_many u.2.2.2 r_market r_of r_newMarket r_newStart r_newOf r_newCoin r_state r_kept r_tape r_brings r_seen r_seenOut r_trace ++ R)) (u := ((ar_15 ((60 * k) + j).toNatClampNeg), 0, 0, ar_15)) hx hb hr hlocks hK hS (lt_eq eu_1 ((if_neg c_2).trans ((if_pos c_4).trans (lt_eq eu_6 ((if_neg c_7).trans (lt_eq ey_10 (lt_eq ear_15 rfl))))))) hP hD rfl dX11_set_111
        refine lv_if_ne (tgt := 83) hx hb dX11_set_75 (by decide) (fun c_11 => ?_) (fun c_11 => ?_)
        · have d_11 := i_eqn rfl (show (0 : Int32).toInt = 0 from by decide) c_11
          refine lv_aload_n hx hb dX11_set_83 rfl (lv_at hl 0 rfl) ?_
          refine va_get (D := D) (ci := 9) (v := .ref (Y 2)) (C := RX11) (T := TX11) (N := 35) hx hb hts iX11 hown hK hP 0 rfl rfl 2 (by decide) k7 (fun _ h9 => h9) rfl dX11_set_84 ?_
          refine lv_iload_n hx hb dX11_set_87 rfl (lv_at hl 1 rfl) ?_
          have q_12 : vp_in k 8 := vp_in_iff.mpr ⟨by omega, by omega⟩
          refine va_iald hx hb hK hP 1 0 rfl rfl q_12 dX11_set_88 ?_
          refine lv_iconst (v := 1) hx hb dX11_set_89 (by decide) ?_
          refine lv_icmp_ne (tgt := 98) hx hb dX11_set_90 (by decide) (fun c_13 => ?_) (fun c_13 => ?_)
          · have d_13 := i_eqn rfl (show (1 : Int32).toInt = 1 from by decide) c_13
            refine lv_iload_n hx hb dX11_set_98 rfl (lv_at hl 3 rfl) ?_
            exact J_10 v H locs ls (Eq.symm ((if_neg c_11).trans ((if_neg c_13).trans rfl))) hP hD hS (lv_sub hl [0, 1, 2] rfl)
          · have d_13 := i_eq rfl (show (1 : Int32).toInt = 1 from by decide) c_13
            refine lv_iload_n hx hb dX11_set_93 rfl (lv_at hl 3 rfl) ?_
            refine lv_i2s (v := v.toInt16.toInt32) hx hb dX11_set_94 rfl ?_
            refine lv_goto (tgt := 99) hx hb dX11_set_95 (by decide) ?_
            exact J_10 v.toInt16.toInt32 H locs ls (Eq.symm ((if_neg c_11).trans ((if_pos c_13).trans rfl))) hP hD hS (lv_sub hl [0, 1, 2] rfl)
        · have d_11 := i_eq rfl (show (0 : Int32).toInt = 0 from by decide) c_11
          refine lv_iload_n hx hb dX11_set_78 rfl (lv_at hl 3 rfl) ?_
          refine lv_i2b (v := v.toInt8.toInt32) hx hb dX11_set_79 rfl ?_
          refine lv_goto (tgt := 99) hx hb dX11_set_80 (by decide) ?_
          exact J_10 v.toInt8.toInt32 H locs ls (Eq.symm ((if_pos c_11).trans rfl)) hP hD hS (lv_sub hl [0, 1, 2] rfl)
      · have d_7 := i_eq rfl (show (0 : Int32).toInt = 0 from by decide) c_7
        refine lv_aload_n hx hb dX11_set_53 rfl (lv_at hl 0 rfl) ?_
        refine lv_iconst (v := 2) hx hb dX11_set_54 (by decide) ?_
        refine mx_callV (As := [.int 2]) (rest := []) ⟨hx, hb, hml, hown, hts⟩ (mtX11_finding l D cI cB cK cS Y R 0 0 m_isThere m_kinds m_newKinds m_print m_low m_high m_lot m_taped m_latest m_length m_cursor m_token m_from m_till m_fault m_faultAt m_traced r_lane r_many r_item r_market r_of r_newMarket r_newStart r_newOf r_newCoin r_state r_kept r_tape r_brings r_seen r_seenOut r_trace 2) (cwV 1 hts gX11_set_X11_finding rfl rfl rfl (by decide +kernel) ⟨Nat.le_of_ble_eq_true rfl, Nat.le_of_ble_eq_true rfl⟩) pF0_ok trivial hK hP hD hS hA 0 rfl rfl rfl rfl hl.1 rfl (Nat.le_of_ble_eq_true rfl) dX11_set_55 ⟨Nat.le_refl _, Nat.le_refl _⟩ (fun u_17 H locs eu_17 hP hD hS => ?_)
        refine W.eq (g2 := F0 m 58 ls [.int u_17.1]) rfl ?_
        have hP : va_P D vwCl (mdW Y cI 0 u_17.2 m_isThere m_kinds m_newKinds m_print m_low m_high m_lot m_taped m_latest m_length m_cursor m_token m_from m_till m_fault m_faultAt m_traced r_lane r_many r_item r_market r_of r_newMarket r_newStart r_newOf r_newCoin r_state r_kept r_tape r_brings r_seen r_seenOut r_trace ++ R) H := hP
        have hD : va_D A (mdW Y cI 0 u_17.2 m_isThere m_kinds m_newKinds m_print m_low m_high m_lot m_taped m_latest m_length m_cursor m_token m_from m_till m_fault m_faultAt m_traced r_lane r_many r_item r_market r_of r_newMarket r_newStart r_newOf r_newCoin r_state r_kept r_tape r_brings r_seen r_seenOut r_trace ++ R) := hD
        rw [hQm]
        exact mx_iret (u0 := sX11_set k j v m_status r_lane r_many r_item) (rv := (fun u => some (.int u.1))) (w1 := (fun u => mdW Y cI u.2.1 u.2.2.1 m_isThere m_kinds m_newKinds m_print m_low m_high m_lot m_taped m_latest m_length m_cursor m_token m_from m_till m_fault m_faultAt m_traced r_lane r_many u.2.2.2 r_market r_of r_newMarket r_newStart r_newOf r_newCoin r_state r_kept r_tape r_brings r_seen r_seenOut r_trace ++ R)) (u := (u_17.1, 0, u_17.2, r_item)) hx hb hr hlocks hK hS (lt_eq eu_1 ((if_neg c_2).trans ((if_pos c_4).trans (lt_eq eu_6 ((if_pos c_7).trans (lt_eq eu_17 rfl)))))) hP hD rfl dX11_set_58
    · have d_4 := i_len (show (0 : Int32).toInt = 0 from by decide) rfl c_4
      refine lv_aload_n hx hb dX11_set_29 rfl (lv_at hl 0 rfl) ?_
      refine lv_iconst (v := 1) hx hb dX11_set_30 (by decide) ?_
      refine mx_callV (As := [.int 1]) (rest := []) ⟨hx, hb, hml, hown, hts⟩ (mtX11_finding l D cI cB cK cS Y R 0 0 m_isThere m_kinds m_newKinds m_print m_low m_high m_lot m_taped m_latest m_length m_cursor m_token m_from m_till m_fault m_faultAt m_traced r_lane r_many r_item r_market r_of r_newMarket r_newStart r_newOf r_newCoin r_state r_kept r_tape r_brings r_seen r_seenOut r_trace 1) (cwV 1 hts gX11_set_X11_finding rfl rfl rfl (by decide +kernel) ⟨Nat.le_of_ble_eq_true rfl, Nat.le_of_ble_eq_true rfl⟩) pF0_ok trivial hK hP hD hS hA 0 rfl rfl rfl rfl hl.1 rfl (Nat.le_of_ble_eq_true rfl) dX11_set_31 ⟨Nat.le_refl _, Nat.le_refl _⟩ (fun u_18 H locs eu_18 hP hD hS => ?_)
      refine W.eq (g2 := F0 m 34 ls [.int u_18.1]) rfl ?_
      have hP : va_P D vwCl (mdW Y cI 0 u_18.2 m_isThere m_kinds m_newKinds m_print m_low m_high m_lot m_taped m_latest m_length m_cursor m_token m_from m_till m_fault m_faultAt m_traced r_lane r_many r_item r_market r_of r_newMarket r_newStart r_newOf r_newCoin r_state r_kept r_tape r_brings r_seen r_seenOut r_trace ++ R) H := hP
      have hD : va_D A (mdW Y cI 0 u_18.2 m_isThere m_kinds m_newKinds m_print m_low m_high m_lot m_taped m_latest m_length m_cursor m_token m_from m_till m_fault m_faultAt m_traced r_lane r_many r_item r_market r_of r_newMarket r_newStart r_newOf r_newCoin r_state r_kept r_tape r_brings r_seen r_seenOut r_trace ++ R) := hD
      rw [hQm]
      exact mx_iret (u0 := sX11_set k j v m_status r_lane r_many r_item) (rv := (fun u => some (.int u.1))) (w1 := (fun u => mdW Y cI u.2.1 u.2.2.1 m_isThere m_kinds m_newKinds m_print m_low m_high m_lot m_taped m_latest m_length m_cursor m_token m_from m_till m_fault m_faultAt m_traced r_lane r_many u.2.2.2 r_market r_of r_newMarket r_newStart r_newOf r_newCoin r_state r_kept r_tape r_brings r_seen r_seenOut r_trace ++ R)) (u := (u_18.1, 0, u_18.2, r_item)) hx hb hr hlocks hK hS (lt_eq eu_1 ((if_neg c_2).trans ((if_neg c_4).trans (lt_eq eu_18 rfl)))) hP hD rfl dX11_set_34
  · have d_2 := i_eq rfl (show (0 : Int32).toInt = 0 from by decide) c_2
    refine lv_ldc (v := (-1000001)) hx hb hown k78 dX11_set_12 ?_
    rw [hQm]
    exact mx_iret (u0 := sX11_set k j v m_status r_lane r_many r_item) (rv := (fun u => some (.int u.1))) (w1 := (fun u => mdW Y cI u.2.1 u.2.2.1 m_isThere m_kinds m_newKinds m_print m_low m_high m_lot m_taped m_latest m_length m_cursor m_token m_from m_till m_fault m_faultAt m_traced r_lane r_many u.2.2.2 r_market r_of r_newMarket r_newStart r_newOf r_newCoin r_state r_kept r_tape r_brings r_seen r_seenOut r_trace ++ R)) (u := ((-1000001), 0, m_status, r_item)) hx hb hr hlocks hK hS (lt_eq eu_1 ((if_pos c_2).trans rfl)) hP hD rfl dX11_set_14

def sX11_drop (k : Int32) (m_status : Int32) (r_lane : Nat → Int32) (r_many : Nat → Int32) : Int32 × (Int32) × (Int32) × (Nat → Int32) := lt (sX11_isSheet k) (fun u_1 : Int32 => if u_1 = 0 then (((-1000001), 0, m_status, r_lane)) else (if 0 ≤ (r_lane k.toNatClampNeg) then (lt (upd r_lane k.toNatClampNeg (-1)) (fun ar_6 : Nat → Int32 => ((r_many k.toNatClampNeg), 0, 0, ar_6))) else (lt (sX11_finding 1) (fun u_8 : Int32 × (Int32) => (u_8.1, 0, u_8.2, r_lane)))))
set_option maxHeartbeats 4000000 in
set_option maxRecDepth 100000 in
theorem mtX11_drop (l : Launch) (D : va_G) (cI cB cK cS : ClassId) (Y : Nat → Nat) (R : va_W) (m_thrown : Int32) (m_status : Int32) (m_isThere : Int32) (m_kinds : Int32) (m_newKinds : Int32) (m_print : Int32) (m_low : Int32) (m_high : Int32) (m_lot : Int32) (m_taped : Int32) (m_latest : Int32) (m_length : Int32) (m_cursor : Int32) (m_token : Int32) (m_from : Int32) (m_till : Int32) (m_fault : Int32) (m_faultAt : Int32) (m_traced : Int32) (r_lane : Nat → Int32) (r_many : Nat → Int32) (r_item : Nat → Int32) (r_market : Nat → Int32) (r_of : Nat → Int32) (r_newMarket : Nat → Int32) (r_newStart : Nat → Int32) (r_newOf : Nat → Int32) (r_newCoin : Nat → Int32) (r_state : Nat → Int32) (r_kept : Nat → Int32) (r_tape : Nat → Int32) (r_brings : Nat → Int32) (r_seen : Nat → Int32) (r_seenOut : Nat → Int32) (r_trace : Nat → Int32) (k : Int32) : MX l yX11_drop wsX11_drop (rmX 3) D (tyX cI cB cK cS) pF0 (mdW Y cI m_thrown m_status m_isThere m_kinds m_newKinds m_print m_low m_high m_lot m_taped m_latest m_length m_cursor m_token m_from m_till m_fault m_faultAt m_traced r_lane r_many r_item r_market r_of r_newMarket r_newStart r_newOf r_newCoin r_state r_kept r_tape r_brings r_seen r_seenOut r_trace ++ R) [.ref (Y 0), .int k] (sX11_drop k m_status r_lane r_many) (fun u => some (.int u.1)) (fun u => mdW Y cI u.2.1 u.2.2.1 m_isThere m_kinds m_newKinds m_print m_low m_high m_lot m_taped m_latest m_length m_cursor m_token m_from m_till m_fault m_faultAt m_traced u.2.2.2 r_many r_item r_market r_of r_newMarket r_newStart r_newOf r_newCoin r_state r_kept r_tape r_brings r_seen r_seenOut r_trace ++ R) := by
  refine mx_intro (cc := cX11_drop) (maxL := 2) (ret := (some .int)) (by decide) rfl (Nat.le_of_ble_eq_true rfl) ?_
  intro p e s m below meth c A ls H locs Qm hQm hx hb hr hml hts hown hlocks hA hS hP hK hD hF hl
  have hown : s.vm.findClass RX11 = some m.cls := hown
  have hl : lv_has ls 2 [(0, .ref (Y 0)), (1, .int k)] := hl
  have k58 := hts (.fieldLink RX11 58 "PigRoundsModel" "thrown" "I") (by decide +kernel)
  have k62 := hts (.fieldLink RX11 62 "PigRoundsModel" "status" "I") (by decide +kernel)
  have k7 := hts (.fieldLink RX11 7 "PigRoundsModel" "lane" "[I") (by decide +kernel)
  have k13 := hts (.fieldLink RX11 13 "PigRoundsModel" "many" "[I") (by decide +kernel)
  have k78 := hts (.constant RX11 78 (-1000001)) (by decide +kernel)
  have iX11 : ∀ w ∈ u_ws RX11 TX11 35, w ∈ wsX11_drop := by decide +kernel
  refine lv_aload_n hx hb dX11_drop_0 rfl (lv_at hl 0 rfl) ?_
  refine lv_iconst (v := 0) hx hb dX11_drop_1 (by decide) ?_
  refine va_put (D := D) (ci := 9) (v := .int 0) (ty := .int) (C := RX11) (T := TX11) (N := 35) hx hb hts iX11 tyX11 tyX11_ok nmX11 hown hK hP hD hS 0 rfl rfl 0 (by decide) k58 (fun _ h9 => h9) rfl (by decide +kernel) rfl rfl (Nat.le_of_ble_eq_true rfl) dX11_drop_2 (fun H locs hP hD hS => ?_)
  have hP : va_P D vwCl (mdW Y cI 0 m_status m_isThere m_kinds m_newKinds m_print m_low m_high m_lot m_taped m_latest m_length m_cursor m_token m_from m_till m_fault m_faultAt m_traced r_lane r_many r_item r_market r_of r_newMarket r_newStart r_newOf r_newCoin r_state r_kept r_tape r_brings r_seen r_seenOut r_trace ++ R) H := hP
  have hD : va_D A (mdW Y cI 0 m_status m_isThere m_kinds m_newKinds m_print m_low m_high m_lot m_taped m_latest m_length m_cursor m_token m_from m_till m_fault m_faultAt m_traced r_lane r_many r_item r_market r_of r_newMarket r_newStart r_newOf r_newCoin r_state r_kept r_tape r_brings r_seen r_seenOut r_trace ++ R) := hD
  refine lv_iload_n hx hb dX11_drop_5 rfl (lv_at hl 1 rfl) ?_
  refine mx_callS (As := [.int k]) (rest := []) ⟨hx, hb, hml, hown, hts⟩ (mtX11_isSheet l D cI cB cK cS (mdW Y cI 0 m_status m_isThere m_kinds m_newKinds m_print m_low m_high m_lot m_taped m_latest m_length m_cursor m_token m_from m_till m_fault m_faultAt m_traced r_lane r_many r_item r_market r_of r_newMarket r_newStart r_newOf r_newCoin r_state r_kept r_tape r_brings r_seen r_seenOut r_trace ++ R) k) (va_cwS 1 hts gX11_drop_X11_isSheet rfl rfl rfl (by decide +kernel) ⟨Nat.le_of_ble_eq_true rfl, Nat.le_of_ble_eq_true rfl⟩) pF0_ok trivial hK hP hD hS hA rfl hl.1 rfl (Nat.le_of_ble_eq_true rfl) dX11_drop_6 ⟨Nat.le_refl _, Nat.le_refl _⟩ (fun u_1 H locs eu_1 hP hD hS => ?_)
  refine W.eq (g2 := F0 m 9 ls [.int u_1]) rfl ?_
  have hP : va_P D vwCl (mdW Y cI 0 m_status m_isThere m_kinds m_newKinds m_print m_low m_high m_lot m_taped m_latest m_length m_cursor m_token m_from m_till m_fault m_faultAt m_traced r_lane r_many r_item r_market r_of r_newMarket r_newStart r_newOf r_newCoin r_state r_kept r_tape r_brings r_seen r_seenOut r_trace ++ R) H := hP
  have hD : va_D A (mdW Y cI 0 m_status m_isThere m_kinds m_newKinds m_print m_low m_high m_lot m_taped m_latest m_length m_cursor m_token m_from m_till m_fault m_faultAt m_traced r_lane r_many r_item r_market r_of r_newMarket r_newStart r_newOf r_newCoin r_state r_kept r_tape r_brings r_seen r_seenOut r_trace ++ R) := hD
  refine lv_if_ne (tgt := 15) hx hb dX11_drop_9 (by decide) (fun c_2 => ?_) (fun c_2 => ?_)
  · have d_2 := i_eqn rfl (show (0 : Int32).toInt = 0 from by decide) c_2
    have dt_2 := sX11_isSheet_t eu_1 c_2
    refine lv_aload_n hx hb dX11_drop_15 rfl (lv_at hl 0 rfl) ?_
    refine lv_iconst (v := 0) hx hb dX11_drop_16 (by decide) ?_
    refine va_put (D := D) (ci := 9) (v := .int 0) (ty := .int) (C := RX11) (T := TX11) (N := 35) hx hb hts iX11 tyX11 tyX11_ok nmX11 hown hK hP hD hS 0 rfl rfl 1 (by decide) k62 (fun _ h9 => h9) rfl (by decide +kernel) rfl rfl (Nat.le_of_ble_eq_true rfl) dX11_drop_17 (fun H locs hP hD hS => ?_)
    have hP : va_P D vwCl (mdW Y cI 0 0 m_isThere m_kinds m_newKinds m_print m_low m_high m_lot m_taped m_latest m_length m_cursor m_token m_from m_till m_fault m_faultAt m_traced r_lane r_many r_item r_market r_of r_newMarket r_newStart r_newOf r_newCoin r_state r_kept r_tape r_brings r_seen r_seenOut r_trace ++ R) H := hP
    have hD : va_D A (mdW Y cI 0 0 m_isThere m_kinds m_newKinds m_print m_low m_high m_lot m_taped m_latest m_length m_cursor m_token m_from m_till m_fault m_faultAt m_traced r_lane r_many r_item r_market r_of r_newMarket r_newStart r_newOf r_newCoin r_state r_kept r_tape r_brings r_seen r_seenOut r_trace ++ R) := hD
    refine lv_aload_n hx hb dX11_drop_20 rfl (lv_at hl 0 rfl) ?_
    refine va_get (D := D) (ci := 9) (v := .ref (Y 2)) (C := RX11) (T := TX11) (N := 35) hx hb hts iX11 hown hK hP 0 rfl rfl 2 (by decide) k7 (fun _ h9 => h9) rfl dX11_drop_21 ?_
    refine lv_iload_n hx hb dX11_drop_24 rfl (lv_at hl 1 rfl) ?_
    have q_3 : vp_in k 8 := vp_in_iff.mpr ⟨by omega, by omega⟩
    refine va_iald hx hb hK hP 1 0 rfl rfl q_3 dX11_drop_25 ?_
    refine lv_if_ge (tgt := 35) hx hb dX11_drop_26 (by decide) (fun c_4 => ?_) (fun c_4 => ?_)
    · have d_4 := i_le (show (0 : Int32).toInt = 0 from by decide) rfl c_4
      refine lv_aload_n hx hb dX11_drop_35 rfl (lv_at hl 0 rfl) ?_
      refine va_get (D := D) (ci := 9) (v := .ref (Y 2)) (C := RX11) (T := TX11) (N := 35) hx hb hts iX11 hown hK hP 0 rfl rfl 2 (by decide) k7 (fun _ h9 => h9) rfl dX11_drop_36 ?_
      refine lv_iload_n hx hb dX11_drop_39 rfl (lv_at hl 1 rfl) ?_
      refine lv_iconst (v := (-1)) hx hb dX11_drop_40 (by decide) ?_
      have q_5 : vp_in k 8 := vp_in_iff.mpr ⟨by omega, by omega⟩
      refine va_iast hx hb hK hP hD hS 1 0 rfl rfl q_5 dX11_drop_41 (fun H locs hP hD hS => ?_)
      obtain ⟨ar_6, ear_6⟩ : ∃ z : Nat → Int32, z = upd r_lane k.toNatClampNeg (-1) := ⟨_, rfl⟩
      have hP : va_P D vwCl (mdW Y cI 0 0 m_isThere m_kinds m_newKinds m_print m_low m_high m_lot m_taped m_latest m_length m_cursor m_token m_from m_till m_fault m_faultAt m_traced (upd r_lane k.toNatClampNeg (-1)) r_many r_item r_market r_of r_newMarket r_newStart r_newOf r_newCoin r_state r_kept r_tape r_brings r_seen r_seenOut r_trace ++ R) H := hP
      have hD : va_D A (mdW Y cI 0 0 m_isThere m_kinds m_newKinds m_print m_low m_high m_lot m_taped m_latest m_length m_cursor m_token m_from m_till m_fault m_faultAt m_traced (upd r_lane k.toNatClampNeg (-1)) r_many r_item r_market r_of r_newMarket r_newStart r_newOf r_newCoin r_state r_kept r_tape r_brings r_seen r_seenOut r_trace ++ R) := hD
      rw [← ear_6] at hP hD
      have hP : va_P D vwCl (mdW Y cI 0 0 m_isThere m_kinds m_newKinds m_print m_low m_high m_lot m_taped m_latest m_length m_cursor m_token m_from m_till m_fault m_faultAt m_traced ar_6 r_many r_item r_market r_of r_newMarket r_newStart r_newOf r_newCoin r_state r_kept r_tape r_brings r_seen r_seenOut r_trace ++ R) H := hP
      have hD : va_D A (mdW Y cI 0 0 m_isThere m_kinds m_newKinds m_print m_low m_high m_lot m_taped m_latest m_length m_cursor m_token m_from m_till m_fault m_faultAt m_traced ar_6 r_many r_item r_market r_of r_newMarket r_newStart r_newOf r_newCoin r_state r_kept r_tape r_brings r_seen r_seenOut r_trace ++ R) := hD
      refine lv_aload_n hx hb dX11_drop_42 rfl (lv_at hl 0 rfl) ?_
      refine va_get (D := D) (ci := 9) (v := .ref (Y 3)) (C := RX11) (T := TX11) (N := 35) hx hb hts iX11 hown hK hP 0 rfl rfl 3 (by decide) k13 (fun _ h9 => h9) rfl dX11_drop_43 ?_
      refine lv_iload_n hx hb dX11_drop_46 rfl (lv_at hl 1 rfl) ?_
      have q_7 : vp_in k 8 := vp_in_iff.mpr ⟨by omega, by omega⟩
      refine va_iald hx hb hK hP 2 0 rfl rfl q_7 dX11_drop_47 ?_
      rw [hQm]
      exact mx_iret (u0 := sX11_drop k m_status r_lane r_many) (rv := (fun u => some (.int u.1))) (w1 := (fun u => mdW Y cI u.2.1 u.2.2.1 m_isThere m_kinds m_newKinds m_print m_low m_high m_lot m_taped m_latest m_length m_cursor m_token m_from m_till m_fault m_faultAt m_traced u.2.2.2 r_many r_item r_market r_of r_newMarket r_newStart r_newOf r_newCoin r_state r_kept r_tape r_brings r_seen r_seenOut r_trace ++ R)) (u := ((r_many k.toNatClampNeg), 0, 0, ar_6)) hx hb hr hlocks hK hS (lt_eq eu_1 ((if_neg c_2).trans ((if_pos c_4).trans (lt_eq ear_6 rfl)))) hP hD rfl dX11_drop_48
    · have d_4 := i_len (show (0 : Int32).toInt = 0 from by decide) rfl c_4
      refine lv_aload_n hx hb dX11_drop_29 rfl (lv_at hl 0 rfl) ?_
      refine lv_iconst (v := 1) hx hb dX11_drop_30 (by decide) ?_
      refine mx_callV (As := [.int 1]) (rest := []) ⟨hx, hb, hml, hown, hts⟩ (mtX11_finding l D cI cB cK cS Y R 0 0 m_isThere m_kinds m_newKinds m_print m_low m_high m_lot m_taped m_latest m_length m_cursor m_token m_from m_till m_fault m_faultAt m_traced r_lane r_many r_item r_market r_of r_newMarket r_newStart r_newOf r_newCoin r_state r_kept r_tape r_brings r_seen r_seenOut r_trace 1) (cwV 1 hts gX11_drop_X11_finding rfl rfl rfl (by decide +kernel) ⟨Nat.le_of_ble_eq_true rfl, Nat.le_of_ble_eq_true rfl⟩) pF0_ok trivial hK hP hD hS hA 0 rfl rfl rfl rfl hl.1 rfl (Nat.le_of_ble_eq_true rfl) dX11_drop_31 ⟨Nat.le_refl _, Nat.le_refl _⟩ (fun u_8 H locs eu_8 hP hD hS => ?_)
      refine W.eq (g2 := F0 m 34 ls [.int u_8.1]) rfl ?_
      have hP : va_P D vwCl (mdW Y cI 0 u_8.2 m_isThere m_kinds m_newKinds m_print m_low m_high m_lot m_taped m_latest m_length m_cursor m_token m_from m_till m_fault m_faultAt m_traced r_lane r_many r_item r_market r_of r_newMarket r_newStart r_newOf r_newCoin r_state r_kept r_tape r_brings r_seen r_seenOut r_trace ++ R) H := hP
      have hD : va_D A (mdW Y cI 0 u_8.2 m_isThere m_kinds m_newKinds m_print m_low m_high m_lot m_taped m_latest m_length m_cursor m_token m_from m_till m_fault m_faultAt m_traced r_lane r_many r_item r_market r_of r_newMarket r_newStart r_newOf r_newCoin r_state r_kept r_tape r_brings r_seen r_seenOut r_trace ++ R) := hD
      rw [hQm]
      exact mx_iret (u0 := sX11_drop k m_status r_lane r_many) (rv := (fun u => some (.int u.1))) (w1 := (fun u => mdW Y cI u.2.1 u.2.2.1 m_isThere m_kinds m_newKinds m_print m_low m_high m_lot m_taped m_latest m_length m_cursor m_token m_from m_till m_fault m_faultAt m_traced u.2.2.2 r_many r_item r_market r_of r_newMarket r_newStart r_newOf r_newCoin r_state r_kept r_tape r_brings r_seen r_seenOut r_trace ++ R)) (u := (u_8.1, 0, u_8.2, r_lane)) hx hb hr hlocks hK hS (lt_eq eu_1 ((if_neg c_2).trans ((if_neg c_4).trans (lt_eq eu_8 rfl)))) hP hD rfl dX11_drop_34
  · have d_2 := i_eq rfl (show (0 : Int32).toInt = 0 from by decide) c_2
    refine lv_ldc (v := (-1000001)) hx hb hown k78 dX11_drop_12 ?_
    rw [hQm]
    exact mx_iret (u0 := sX11_drop k m_status r_lane r_many) (rv := (fun u => some (.int u.1))) (w1 := (fun u => mdW Y cI u.2.1 u.2.2.1 m_isThere m_kinds m_newKinds m_print m_low m_high m_lot m_taped m_latest m_length m_cursor m_token m_from m_till m_fault m_faultAt m_traced u.2.2.2 r_many r_item r_market r_of r_newMarket r_newStart r_newOf r_newCoin r_state r_kept r_tape r_brings r_seen r_seenOut r_trace ++ R)) (u := ((-1000001), 0, m_status, r_lane)) hx hb hr hlocks hK hS (lt_eq eu_1 ((if_pos c_2).trans rfl)) hP hD rfl dX11_drop_14

def lX11_copy_143 (a : Int32) (i : Int32) (b : Int32) (j : Int32) (nn : Int32) (y_24 : Int32) : Nat → Int32 → (Nat → Int32) → Int32 × (Nat → Int32)
  | 0, x7_143, r_item_143 => (x7_143, r_item_143)
  | n + 1, x7_143, r_item_143 => if nn ≤ x7_143 then ((x7_143, r_item_143)) else (lt (if y_24 = 0 then (((nn - 1) - x7_143)) else (x7_143)) (fun y_27 : Int32 => lt (upd r_item_143 (((60 * b) + j) + y_27).toNatClampNeg (r_item_143 (((60 * a) + i) + y_27).toNatClampNeg)) (fun ar_31 : Nat → Int32 => lt (x7_143 + 1) (fun x_32 : Int32 => lX11_copy_143 a i b j nn y_24 n x_32 ar_31))))

def sX11_copy (a : Int32) (i : Int32) (b : Int32) (j : Int32) (nn : Int32) (m_status : Int32) (r_lane : Nat → Int32) (r_many : Nat → Int32) (r_item : Nat → Int32) : Int32 × (Int32) × (Int32) × (Nat → Int32) := lt (sX11_isSheet a) (fun u_1 : Int32 => if u_1 = 0 then (((-1000001), 0, m_status, r_item)) else (lt (sX11_isSheet b) (fun u_3 : Int32 => if u_3 = 0 then (((-1000001), 0, m_status, r_item)) else (if (r_lane a.toNatClampNeg) < 0 then (lt (sX11_finding 1) (fun u_7 : Int32 × (Int32) => (u_7.1, 0, u_7.2, r_item))) else (if 0 ≤ (r_lane b.toNatClampNeg) then (if (r_lane a.toNatClampNeg) = (r_lane b.toNatClampNeg) then (if i < 0 then (lt (sX11_finding 2) (fun u_14 : Int32 × (Int32) => (u_14.1, 0, u_14.2, r_item))) else (if j < 0 then (lt (sX11_finding 2) (fun u_16 : Int32 × (Int32) => (u_16.1, 0, u_16.2, r_item))) else (if nn < 0 then (lt (sX11_finding 2) (fun u_18 : Int32 × (Int32) => (u_18.1, 0, u_18.2, r_item))) else (if 0 < (lg_cmp (i.toInt64 + nn.toInt64) ((r_many a.toNatClampNeg).toInt64)) then (lt (sX11_finding 2) (fun u_21 : Int32 × (Int32) => (u_21.1, 0, u_21.2, r_item))) else (if (lg_cmp (j.toInt64 + nn.toInt64) ((r_many b.toNatClampNeg).toInt64)) ≤ 0 then (lt (if i < j then (0) else (1)) (fun y_24 : Int32 => lt (lX11_copy_143 a i b j nn y_24 61 0 r_item) (fun u_33 : Int32 × (Nat → Int32) => (nn, 0, 0, u_33.2)))) else (lt (sX11_finding 2) (fun u_34 : Int32 × (Int32) => (u_34.1, 0, u_34.2, r_item)))))))) else (lt (sX11_finding 5) (fun u_35 : Int32 × (Int32) => (u_35.1, 0, u_35.2, r_item)))) else (lt (sX11_finding 1) (fun u_36 : Int32 × (Int32) => (u_36.1, 0, u_36.2, r_item))))))))
set_option maxHeartbeats 4000000 in
set_option maxRecDepth 100000 in
theorem mtX11_copy (l : Launch) (D : va_G) (cI cB cK cS : ClassId) (Y : Nat → Nat) (R : va_W) (m_thrown : Int32) (m_status : Int32) (m_isThere : Int32) (m_kinds : Int32) (m_newKinds : Int32) (m_print : Int32) (m_low : Int32) (m_high : Int32) (m_lot : Int32) (m_taped : Int32) (m_latest : Int32) (m_length : Int32) (m_cursor : Int32) (m_token : Int32) (m_from : Int32) (m_till : Int32) (m_fault : Int32) (m_faultAt : Int32) (m_traced : Int32) (r_lane : Nat → Int32) (r_many : Nat → Int32) (r_item : Nat → Int32) (r_market : Nat → Int32) (r_of : Nat → Int32) (r_newMarket : Nat → Int32) (r_newStart : Nat → Int32) (r_newOf : Nat → Int32) (r_newCoin : Nat → Int32) (r_state : Nat → Int32) (r_kept : Nat → Int32) (r_tape : Nat → Int32) (r_brings : Nat → Int32) (r_seen : Nat → Int32) (r_seenOut : Nat → Int32) (r_trace : Nat → Int32) (a : Int32) (i : Int32) (b : Int32) (j : Int32) (nn : Int32) (hmn : ∀ i, i < 8 → 0 ≤ (r_many i).toInt ∧ (r_many i).toInt ≤ 60) : MX l yX11_copy wsX11_copy (rmX 3) D (tyX cI cB cK cS) pF0 (mdW Y cI m_thrown m_status m_isThere m_kinds m_newKinds m_print m_low m_high m_lot m_taped m_latest m_length m_cursor m_token m_from m_till m_fault m_faultAt m_traced r_lane r_many r_item r_market r_of r_newMarket r_newStart r_newOf r_newCoin r_state r_kept r_tape r_brings r_seen r_seenOut r_trace ++ R) [.ref (Y 0), .int a, .int i, .int b, .int j, .int nn] (sX11_copy a i b j nn m_status r_lane r_many r_item) (fun u => some (.int u.1)) (fun u => mdW Y cI u.2.1 u.2.2.1 m_isThere m_kinds m_newKinds m_print m_low m_high m_lot m_taped m_latest m_length m_cursor m_token m_from m_till m_fault m_faultAt m_traced r_lane r_many u.2.2.2 r_market r_of r_newMarket r_newStart r_newOf r_newCoin r_state r_kept r_tape r_brings r_seen r_seenOut r_trace ++ R) := by
  refine mx_intro (cc := cX11_copy) (maxL := 9) (ret := (some .int)) (by decide) rfl (Nat.le_of_ble_eq_true rfl) ?_
  intro p e s m below meth c A ls H locs Qm hQm hx hb hr hml hts hown hlocks hA hS hP hK hD hF hl
  have hown : s.vm.findClass RX11 = some m.cls := hown
  have hl : lv_has ls 9 [(0, .ref (Y 0)), (1, .int a), (2, .int i), (3, .int b), (4, .int j), (5, .int nn)] := hl
  have k58 := hts (.fieldLink RX11 58 "PigRoundsModel" "thrown" "I") (by decide +kernel)
  have k78 := hts (.constant RX11 78 (-1000001)) (by decide +kernel)
  have k62 := hts (.fieldLink RX11 62 "PigRoundsModel" "status" "I") (by decide +kernel)
  have k7 := hts (.fieldLink RX11 7 "PigRoundsModel" "lane" "[I") (by decide +kernel)
  have k13 := hts (.fieldLink RX11 13 "PigRoundsModel" "many" "[I") (by decide +kernel)
  have k16 := hts (.fieldLink RX11 16 "PigRoundsModel" "item" "[I") (by decide +kernel)
  have iX11 : ∀ w ∈ u_ws RX11 TX11 35, w ∈ wsX11_copy := by decide +kernel
  refine lv_aload_n hx hb dX11_copy_0 rfl (lv_at hl 0 rfl) ?_
  refine lv_iconst (v := 0) hx hb dX11_copy_1 (by decide) ?_
  refine va_put (D := D) (ci := 9) (v := .int 0) (ty := .int) (C := RX11) (T := TX11) (N := 35) hx hb hts iX11 tyX11 tyX11_ok nmX11 hown hK hP hD hS 0 rfl rfl 0 (by decide) k58 (fun _ h9 => h9) rfl (by decide +kernel) rfl rfl (Nat.le_of_ble_eq_true rfl) dX11_copy_2 (fun H locs hP hD hS => ?_)
  have hP : va_P D vwCl (mdW Y cI 0 m_status m_isThere m_kinds m_newKinds m_print m_low m_high m_lot m_taped m_latest m_length m_cursor m_token m_from m_till m_fault m_faultAt m_traced r_lane r_many r_item r_market r_of r_newMarket r_newStart r_newOf r_newCoin r_state r_kept r_tape r_brings r_seen r_seenOut r_trace ++ R) H := hP
  have hD : va_D A (mdW Y cI 0 m_status m_isThere m_kinds m_newKinds m_print m_low m_high m_lot m_taped m_latest m_length m_cursor m_token m_from m_till m_fault m_faultAt m_traced r_lane r_many r_item r_market r_of r_newMarket r_newStart r_newOf r_newCoin r_state r_kept r_tape r_brings r_seen r_seenOut r_trace ++ R) := hD
  refine lv_iload_n hx hb dX11_copy_5 rfl (lv_at hl 1 rfl) ?_
  refine mx_callS (As := [.int a]) (rest := []) ⟨hx, hb, hml, hown, hts⟩ (mtX11_isSheet l D cI cB cK cS (mdW Y cI 0 m_status m_isThere m_kinds m_newKinds m_print m_low m_high m_lot m_taped m_latest m_length m_cursor m_token m_from m_till m_fault m_faultAt m_traced r_lane r_many r_item r_market r_of r_newMarket r_newStart r_newOf r_newCoin r_state r_kept r_tape r_brings r_seen r_seenOut r_trace ++ R) a) (va_cwS 1 hts gX11_copy_X11_isSheet rfl rfl rfl (by decide +kernel) ⟨Nat.le_of_ble_eq_true rfl, Nat.le_of_ble_eq_true rfl⟩) pF0_ok trivial hK hP hD hS hA rfl hl.1 rfl (Nat.le_of_ble_eq_true rfl) dX11_copy_6 ⟨Nat.le_refl _, Nat.le_refl _⟩ (fun u_1 H locs eu_1 hP hD hS => ?_)
  refine W.eq (g2 := F0 m 9 ls [.int u_1]) rfl ?_
  have hP : va_P D vwCl (mdW Y cI 0 m_status m_isThere m_kinds m_newKinds m_print m_low m_high m_lot m_taped m_latest m_length m_cursor m_token m_from m_till m_fault m_faultAt m_traced r_lane r_many r_item r_market r_of r_newMarket r_newStart r_newOf r_newCoin r_state r_kept r_tape r_brings r_seen r_seenOut r_trace ++ R) H := hP
  have hD : va_D A (mdW Y cI 0 m_status m_isThere m_kinds m_newKinds m_print m_low m_high m_lot m_taped m_latest m_length m_cursor m_token m_from m_till m_fault m_faultAt m_traced r_lane r_many r_item r_market r_of r_newMarket r_newStart r_newOf r_newCoin r_state r_kept r_tape r_brings r_seen r_seenOut r_trace ++ R) := hD
  refine lv_if_eq (tgt := 19) hx hb dX11_copy_9 (by decide) (fun c_2 => ?_) (fun c_2 => ?_)
  · have d_2 := i_eq rfl (show (0 : Int32).toInt = 0 from by decide) c_2
    refine lv_ldc (v := (-1000001)) hx hb hown k78 dX11_copy_19 ?_
    rw [hQm]
    exact mx_iret (u0 := sX11_copy a i b j nn m_status r_lane r_many r_item) (rv := (fun u => some (.int u.1))) (w1 := (fun u => mdW Y cI u.2.1 u.2.2.1 m_isThere m_kinds m_newKinds m_print m_low m_high m_lot m_taped m_latest m_length m_cursor m_token m_from m_till m_fault m_faultAt m_traced r_lane r_many u.2.2.2 r_market r_of r_newMarket r_newStart r_newOf r_newCoin r_state r_kept r_tape r_brings r_seen r_seenOut r_trace ++ R)) (u := ((-1000001), 0, m_status, r_item)) hx hb hr hlocks hK hS (lt_eq eu_1 ((if_pos c_2).trans rfl)) hP hD rfl dX11_copy_21
  · have d_2 := i_eqn rfl (show (0 : Int32).toInt = 0 from by decide) c_2
    have dt_2 := sX11_isSheet_t eu_1 c_2
    refine lv_iload_n hx hb dX11_copy_12 rfl (lv_at hl 3 rfl) ?_
    refine mx_callS (As := [.int b]) (rest := []) ⟨hx, hb, hml, hown, hts⟩ (mtX11_isSheet l D cI cB cK cS (mdW Y cI 0 m_status m_isThere m_kinds m_newKinds m_print m_low m_high m_lot m_taped m_latest m_length m_cursor m_token m_from m_till m_fault m_faultAt m_traced r_lane r_many r_item r_market r_of r_newMarket r_newStart r_newOf r_newCoin r_state r_kept r_tape r_brings r_seen r_seenOut r_trace ++ R) b) (va_cwS 1 hts gX11_copy_X11_isSheet rfl rfl rfl (by decide +kernel) ⟨Nat.le_of_ble_eq_true rfl, Nat.le_of_ble_eq_true rfl⟩) pF0_ok trivial hK hP hD hS hA rfl hl.1 rfl (Nat.le_of_ble_eq_true rfl) dX11_copy_13 ⟨Nat.le_refl _, Nat.le_refl _⟩ (fun u_3 H locs eu_3 hP hD hS => ?_)
    refine W.eq (g2 := F0 m 16 ls [.int u_3]) rfl ?_
    have hP : va_P D vwCl (mdW Y cI 0 m_status m_isThere m_kinds m_newKinds m_print m_low m_high m_lot m_taped m_latest m_length m_cursor m_token m_from m_till m_fault m_faultAt m_traced r_lane r_many r_item r_market r_of r_newMarket r_newStart r_newOf r_newCoin r_state r_kept r_tape r_brings r_seen r_seenOut r_trace ++ R) H := hP
    have hD : va_D A (mdW Y cI 0 m_status m_isThere m_kinds m_newKinds m_print m_low m_high m_lot m_taped m_latest m_length m_cursor m_token m_from m_till m_fault m_faultAt m_traced r_lane r_many r_item r_market r_of r_newMarket r_newStart r_newOf r_newCoin r_state r_kept r_tape r_brings r_seen r_seenOut r_trace ++ R) := hD
    refine lv_if_ne (tgt := 22) hx hb dX11_copy_16 (by decide) (fun c_4 => ?_) (fun c_4 => ?_)
    · have d_4 := i_eqn rfl (show (0 : Int32).toInt = 0 from by decide) c_4
      have dt_4 := sX11_isSheet_t eu_3 c_4
      refine lv_aload_n hx hb dX11_copy_22 rfl (lv_at hl 0 rfl) ?_
      refine lv_iconst (v := 0) hx hb dX11_copy_23 (by decide) ?_
      refine va_put (D := D) (ci := 9) (v := .int 0) (ty := .int) (C := RX11) (T := TX11) (N := 35) hx hb hts iX11 tyX11 tyX11_ok nmX11 hown hK hP hD hS 0 rfl rfl 1 (by decide) k62 (fun _ h9 => h9) rfl (by decide +kernel) rfl rfl (Nat.le_of_ble_eq_true rfl) dX11_copy_24 (fun H locs hP hD hS => ?_)
      have hP : va_P D vwCl (mdW Y cI 0 0 m_isThere m_kinds m_newKinds m_print m_low m_high m_lot m_taped m_latest m_length m_cursor m_token m_from m_till m_fault m_faultAt m_traced r_lane r_many r_item r_market r_of r_newMarket r_newStart r_newOf r_newCoin r_state r_kept r_tape r_brings r_seen r_seenOut r_trace ++ R) H := hP
      have hD : va_D A (mdW Y cI 0 0 m_isThere m_kinds m_newKinds m_print m_low m_high m_lot m_taped m_latest m_length m_cursor m_token m_from m_till m_fault m_faultAt m_traced r_lane r_many r_item r_market r_of r_newMarket r_newStart r_newOf r_newCoin r_state r_kept r_tape r_brings r_seen r_seenOut r_trace ++ R) := hD
      refine lv_aload_n hx hb dX11_copy_27 rfl (lv_at hl 0 rfl) ?_
      refine va_get (D := D) (ci := 9) (v := .ref (Y 2)) (C := RX11) (T := TX11) (N := 35) hx hb hts iX11 hown hK hP 0 rfl rfl 2 (by decide) k7 (fun _ h9 => h9) rfl dX11_copy_28 ?_
      refine lv_iload_n hx hb dX11_copy_31 rfl (lv_at hl 1 rfl) ?_
      have q_5 : vp_in a 8 := vp_in_iff.mpr ⟨by omega, by omega⟩
      refine va_iald hx hb hK hP 1 0 rfl rfl q_5 dX11_copy_32 ?_
      refine lv_if_lt (tgt := 45) hx hb dX11_copy_33 (by decide) (fun c_6 => ?_) (fun c_6 => ?_)
      · have d_6 := i_lt rfl (show (0 : Int32).toInt = 0 from by decide) c_6
        refine lv_aload_n hx hb dX11_copy_45 rfl (lv_at hl 0 rfl) ?_
        refine lv_iconst (v := 1) hx hb dX11_copy_46 (by decide) ?_
        refine mx_callV (As := [.int 1]) (rest := []) ⟨hx, hb, hml, hown, hts⟩ (mtX11_finding l D cI cB cK cS Y R 0 0 m_isThere m_kinds m_newKinds m_print m_low m_high m_lot m_taped m_latest m_length m_cursor m_token m_from m_till m_fault m_faultAt m_traced r_lane r_many r_item r_market r_of r_newMarket r_newStart r_newOf r_newCoin r_state r_kept r_tape r_brings r_seen r_seenOut r_trace 1) (cwV 1 hts gX11_copy_X11_finding rfl rfl rfl (by decide +kernel) ⟨Nat.le_of_ble_eq_true rfl, Nat.le_of_ble_eq_true rfl⟩) pF0_ok trivial hK hP hD hS hA 0 rfl rfl rfl rfl hl.1 rfl (Nat.le_of_ble_eq_true rfl) dX11_copy_47 ⟨Nat.le_refl _, Nat.le_refl _⟩ (fun u_7 H locs eu_7 hP hD hS => ?_)
        refine W.eq (g2 := F0 m 50 ls [.int u_7.1]) rfl ?_
        have hP : va_P D vwCl (mdW Y cI 0 u_7.2 m_isThere m_kinds m_newKinds m_print m_low m_high m_lot m_taped m_latest m_length m_cursor m_token m_from m_till m_fault m_faultAt m_traced r_lane r_many r_item r_market r_of r_newMarket r_newStart r_newOf r_newCoin r_state r_kept r_tape r_brings r_seen r_seenOut r_trace ++ R) H := hP
        have hD : va_D A (mdW Y cI 0 u_7.2 m_isThere m_kinds m_newKinds m_print m_low m_high m_lot m_taped m_latest m_length m_cursor m_token m_from m_till m_fault m_faultAt m_traced r_lane r_many r_item r_market r_of r_newMarket r_newStart r_newOf r_newCoin r_state r_kept r_tape r_brings r_seen r_seenOut r_trace ++ R) := hD
        rw [hQm]
        exact mx_iret (u0 := sX11_copy a i b j nn m_status r_lane r_many r_item) (rv := (fun u => some (.int u.1))) (w1 := (fun u => mdW Y cI u.2.1 u.2.2.1 m_isThere m_kinds m_newKinds m_print m_low m_high m_lot m_taped m_latest m_length m_cursor m_token m_from m_till m_fault m_faultAt m_traced r_lane r_many u.2.2.2 r_market r_of r_newMarket r_newStart r_newOf r_newCoin r_state r_kept r_tape r_brings r_seen r_seenOut r_trace ++ R)) (u := (u_7.1, 0, u_7.2, r_item)) hx hb hr hlocks hK hS (lt_eq eu_1 ((if_neg c_2).trans (lt_eq eu_3 ((if_neg c_4).trans ((if_pos c_6).trans (lt_eq eu_7 rfl)))))) hP hD rfl dX11_copy_50
      · have d_6 := i_ltn rfl (show (0 : Int32).toInt = 0 from by decide) c_6
        refine lv_aload_n hx hb dX11_copy_36 rfl (lv_at hl 0 rfl) ?_
        refine va_get (D := D) (ci := 9) (v := .ref (Y 2)) (C := RX11) (T := TX11) (N := 35) hx hb hts iX11 hown hK hP 0 rfl rfl 2 (by decide) k7 (fun _ h9 => h9) rfl dX11_copy_37 ?_
        refine lv_iload_n hx hb dX11_copy_40 rfl (lv_at hl 3 rfl) ?_
        have q_8 : vp_in b 8 := vp_in_iff.mpr ⟨by omega, by omega⟩
        refine va_iald hx hb hK hP 1 0 rfl rfl q_8 dX11_copy_41 ?_
        refine lv_if_ge (tgt := 51) hx hb dX11_copy_42 (by decide) (fun c_9 => ?_) (fun c_9 => ?_)
        · have d_9 := i_le (show (0 : Int32).toInt = 0 from by decide) rfl c_9
          refine lv_aload_n hx hb dX11_copy_51 rfl (lv_at hl 0 rfl) ?_
          refine va_get (D := D) (ci := 9) (v := .ref (Y 2)) (C := RX11) (T := TX11) (N := 35) hx hb hts iX11 hown hK hP 0 rfl rfl 2 (by decide) k7 (fun _ h9 => h9) rfl dX11_copy_52 ?_
          refine lv_iload_n hx hb dX11_copy_55 rfl (lv_at hl 1 rfl) ?_
          have q_10 : vp_in a 8 := vp_in_iff.mpr ⟨by omega, by omega⟩
          refine va_iald hx hb hK hP 1 0 rfl rfl q_10 dX11_copy_56 ?_
          refine lv_aload_n hx hb dX11_copy_57 rfl (lv_at hl 0 rfl) ?_
          refine va_get (D := D) (ci := 9) (v := .ref (Y 2)) (C := RX11) (T := TX11) (N := 35) hx hb hts iX11 hown hK hP 0 rfl rfl 2 (by decide) k7 (fun _ h9 => h9) rfl dX11_copy_58 ?_
          refine lv_iload_n hx hb dX11_copy_61 rfl (lv_at hl 3 rfl) ?_
          have q_11 : vp_in b 8 := vp_in_iff.mpr ⟨by omega, by omega⟩
          refine va_iald hx hb hK hP 1 0 rfl rfl q_11 dX11_copy_62 ?_
          refine lv_icmp_eq (tgt := 72) hx hb dX11_copy_63 (by decide) (fun c_12 => ?_) (fun c_12 => ?_)
          · have d_12 := i_eq rfl rfl c_12
            have hm_a := hmn a.toNatClampNeg (vp_lt (vp_in_iff.mpr ⟨by omega, by omega⟩))
            have hm_b := hmn b.toNatClampNeg (vp_lt (vp_in_iff.mpr ⟨by omega, by omega⟩))
            refine lv_iload_n hx hb dX11_copy_72 rfl (lv_at hl 2 rfl) ?_
            refine lv_if_lt (tgt := 121) hx hb dX11_copy_73 (by decide) (fun c_13 => ?_) (fun c_13 => ?_)
            · have d_13 := i_lt rfl (show (0 : Int32).toInt = 0 from by decide) c_13
              refine lv_aload_n hx hb dX11_copy_121 rfl (lv_at hl 0 rfl) ?_
              refine lv_iconst (v := 2) hx hb dX11_copy_122 (by decide) ?_
              refine mx_callV (As := [.int 2]) (rest := []) ⟨hx, hb, hml, hown, hts⟩ (mtX11_finding l D cI cB cK cS Y R 0 0 m_isThere m_kinds m_newKinds m_print m_low m_high m_lot m_taped m_latest m_length m_cursor m_token m_from m_till m_fault m_faultAt m_traced r_lane r_many r_item r_market r_of r_newMarket r_newStart r_newOf r_newCoin r_state r_kept r_tape r_brings r_seen r_seenOut r_trace 2) (cwV 1 hts gX11_copy_X11_finding rfl rfl rfl (by decide +kernel) ⟨Nat.le_of_ble_eq_true rfl, Nat.le_of_ble_eq_true rfl⟩) pF0_ok trivial hK hP hD hS hA 0 rfl rfl rfl rfl hl.1 rfl (Nat.le_of_ble_eq_true rfl) dX11_copy_123 ⟨Nat.le_refl _, Nat.le_refl _⟩ (fun u_14 H locs eu_14 hP hD hS => ?_)
              refine W.eq (g2 := F0 m 126 ls [.int u_14.1]) rfl ?_
              have hP : va_P D vwCl (mdW Y cI 0 u_14.2 m_isThere m_kinds m_newKinds m_print m_low m_high m_lot m_taped m_latest m_length m_cursor m_token m_from m_till m_fault m_faultAt m_traced r_lane r_many r_item r_market r_of r_newMarket r_newStart r_newOf r_newCoin r_state r_kept r_tape r_brings r_seen r_seenOut r_trace ++ R) H := hP
              have hD : va_D A (mdW Y cI 0 u_14.2 m_isThere m_kinds m_newKinds m_print m_low m_high m_lot m_taped m_latest m_length m_cursor m_token m_from m_till m_fault m_faultAt m_traced r_lane r_many r_item r_market r_of r_newMarket r_newStart r_newOf r_newCoin r_state r_kept r_tape r_brings r_seen r_seenOut r_trace ++ R) := hD
              rw [hQm]
              exact mx_iret (u0 := sX11_copy a i b j nn m_status r_lane r_many r_item) (rv := (fun u => some (.int u.1))) (w1 := (fun u => mdW Y cI u.2.1 u.2.2.1 m_isThere m_kinds m_newKinds m_print m_low m_high m_lot m_taped m_latest m_length m_cursor m_token m_from m_till m_fault m_faultAt m_traced r_lane r_many u.2.2.2 r_market r_of r_newMarket r_newStart r_newOf r_newCoin r_state r_kept r_tape r_brings r_seen r_seenOut r_trace ++ R)) (u := (u_14.1, 0, u_14.2, r_item)) hx hb hr hlocks hK hS (lt_eq eu_1 ((if_neg c_2).trans (lt_eq eu_3 ((if_neg c_4).trans ((if_neg c_6).trans ((if_pos c_9).trans ((if_pos c_12).trans ((if_pos c_13).trans (lt_eq eu_14 rfl))))))))) hP hD rfl dX11_copy_126
            · have d_13 := i_ltn rfl (show (0 : Int32).toInt = 0 from by decide) c_13
              refine lv_iload hx hb dX11_copy_76 (lv_at hl 4 rfl) ?_
              refine lv_if_lt (tgt := 121) hx hb dX11_copy_78 (by decide) (fun c_15 => ?_) (fun c_15 => ?_)
              · have d_15 := i_lt rfl (show (0 : Int32).toInt = 0 from by decide) c_15
                refine lv_aload_n hx hb dX11_copy_121 rfl (lv_at hl 0 rfl) ?_
                refine lv_iconst (v := 2) hx hb dX11_copy_122 (by decide) ?_
                refine mx_callV (As := [.int 2]) (rest := []) ⟨hx, hb, hml, hown, hts⟩ (mtX11_finding l D cI cB cK cS Y R 0 0 m_isThere m_kinds m_newKinds m_print m_low m_high m_lot m_taped m_latest m_length m_cursor m_token m_from m_till m_fault m_faultAt m_traced r_lane r_many r_item r_market r_of r_newMarket r_newStart r_newOf r_newCoin r_state r_kept r_tape r_brings r_seen r_seenOut r_trace 2) (cwV 1 hts gX11_copy_X11_finding rfl rfl rfl (by decide +kernel) ⟨Nat.le_of_ble_eq_true rfl, Nat.le_of_ble_eq_true rfl⟩) pF0_ok trivial hK hP hD hS hA 0 rfl rfl rfl rfl hl.1 rfl (Nat.le_of_ble_eq_true rfl) dX11_copy_123 ⟨Nat.le_refl _, Nat.le_refl _⟩ (fun u_16 H locs eu_16 hP hD hS => ?_)
                refine W.eq (g2 := F0 m 126 ls [.int u_16.1]) rfl ?_
                have hP : va_P D vwCl (mdW Y cI 0 u_16.2 m_isThere m_kinds m_newKinds m_print m_low m_high m_lot m_taped m_latest m_length m_cursor m_token m_from m_till m_fault m_faultAt m_traced r_lane r_many r_item r_market r_of r_newMarket r_newStart r_newOf r_newCoin r_state r_kept r_tape r_brings r_seen r_seenOut r_trace ++ R) H := hP
                have hD : va_D A (mdW Y cI 0 u_16.2 m_isThere m_kinds m_newKinds m_print m_low m_high m_lot m_taped m_latest m_length m_cursor m_token m_from m_till m_fault m_faultAt m_traced r_lane r_many r_item r_market r_of r_newMarket r_newStart r_newOf r_newCoin r_state r_kept r_tape r_brings r_seen r_seenOut r_trace ++ R) := hD
                rw [hQm]
                exact mx_iret (u0 := sX11_copy a i b j nn m_status r_lane r_many r_item) (rv := (fun u => some (.int u.1))) (w1 := (fun u => mdW Y cI u.2.1 u.2.2.1 m_isThere m_kinds m_newKinds m_print m_low m_high m_lot m_taped m_latest m_length m_cursor m_token m_from m_till m_fault m_faultAt m_traced r_lane r_many u.2.2.2 r_market r_of r_newMarket r_newStart r_newOf r_newCoin r_state r_kept r_tape r_brings r_seen r_seenOut r_trace ++ R)) (u := (u_16.1, 0, u_16.2, r_item)) hx hb hr hlocks hK hS (lt_eq eu_1 ((if_neg c_2).trans (lt_eq eu_3 ((if_neg c_4).trans ((if_neg c_6).trans ((if_pos c_9).trans ((if_pos c_12).trans ((if_neg c_13).trans ((if_pos c_15).trans (lt_eq eu_16 rfl)))))))))) hP hD rfl dX11_copy_126
              · have d_15 := i_ltn rfl (show (0 : Int32).toInt = 0 from by decide) c_15
                refine lv_iload hx hb dX11_copy_81 (lv_at hl 5 rfl) ?_
                refine lv_if_lt (tgt := 121) hx hb dX11_copy_83 (by decide) (fun c_17 => ?_) (fun c_17 => ?_)
                · have d_17 := i_lt rfl (show (0 : Int32).toInt = 0 from by decide) c_17
                  refine lv_aload_n hx hb dX11_copy_121 rfl (lv_at hl 0 rfl) ?_
                  refine lv_iconst (v := 2) hx hb dX11_copy_122 (by decide) ?_
                  refine mx_callV (As := [.int 2]) (rest := []) ⟨hx, hb, hml, hown, hts⟩ (mtX11_finding l D cI cB cK cS Y R 0 0 m_isThere m_kinds m_newKinds m_print m_low m_high m_lot m_taped m_latest m_length m_cursor m_token m_from m_till m_fault m_faultAt m_traced r_lane r_many r_item r_market r_of r_newMarket r_newStart r_newOf r_newCoin r_state r_kept r_tape r_brings r_seen r_seenOut r_trace 2) (cwV 1 hts gX11_copy_X11_finding rfl rfl rfl (by decide +kernel) ⟨Nat.le_of_ble_eq_true rfl, Nat.le_of_ble_eq_true rfl⟩) pF0_ok trivial hK hP hD hS hA 0 rfl rfl rfl rfl hl.1 rfl (Nat.le_of_ble_eq_true rfl) dX11_copy_123 ⟨Nat.le_refl _, Nat.le_refl _⟩ (fun u_18 H locs eu_18 hP hD hS => ?_)
                  refine W.eq (g2 := F0 m 126 ls [.int u_18.1]) rfl ?_
                  have hP : va_P D vwCl (mdW Y cI 0 u_18.2 m_isThere m_kinds m_newKinds m_print m_low m_high m_lot m_taped m_latest m_length m_cursor m_token m_from m_till m_fault m_faultAt m_traced r_lane r_many r_item r_market r_of r_newMarket r_newStart r_newOf r_newCoin r_state r_kept r_tape r_brings r_seen r_seenOut r_trace ++ R) H := hP
                  have hD : va_D A (mdW Y cI 0 u_18.2 m_isThere m_kinds m_newKinds m_print m_low m_high m_lot m_taped m_latest m_length m_cursor m_token m_from m_till m_fault m_faultAt m_traced r_lane r_many r_item r_market r_of r_newMarket r_newStart r_newOf r_newCoin r_state r_kept r_tape r_brings r_seen r_seenOut r_trace ++ R) := hD
                  rw [hQm]
                  exact mx_iret (u0 := sX11_copy a i b j nn m_status r_lane r_many r_item) (rv := (fun u => some (.int u.1))) (w1 := (fun u => mdW Y cI u.2.1 u.2.2.1 m_isThere m_kinds m_newKinds m_print m_low m_high m_lot m_taped m_latest m_length m_cursor m_token m_from m_till m_fault m_faultAt m_traced r_lane r_many u.2.2.2 r_market r_of r_newMarket r_newStart r_newOf r_newCoin r_state r_kept r_tape r_brings r_seen r_seenOut r_trace ++ R)) (u := (u_18.1, 0, u_18.2, r_item)) hx hb hr hlocks hK hS (lt_eq eu_1 ((if_neg c_2).trans (lt_eq eu_3 ((if_neg c_4).trans ((if_neg c_6).trans ((if_pos c_9).trans ((if_pos c_12).trans ((if_neg c_13).trans ((if_neg c_15).trans ((if_pos c_17).trans (lt_eq eu_18 rfl))))))))))) hP hD rfl dX11_copy_126
                · have d_17 := i_ltn rfl (show (0 : Int32).toInt = 0 from by decide) c_17
                  refine lv_iload_n hx hb dX11_copy_86 rfl (lv_at hl 2 rfl) ?_
                  refine lv_i2l (v := i.toInt64) hx hb dX11_copy_87 rfl ?_
                  refine lv_iload hx hb dX11_copy_88 (lv_at hl 5 rfl) ?_
                  refine lv_i2l (v := nn.toInt64) hx hb dX11_copy_90 rfl ?_
                  refine lv_ladd hx hb dX11_copy_91 ?_
                  refine lv_aload_n hx hb dX11_copy_92 rfl (lv_at hl 0 rfl) ?_
                  refine va_get (D := D) (ci := 9) (v := .ref (Y 3)) (C := RX11) (T := TX11) (N := 35) hx hb hts iX11 hown hK hP 0 rfl rfl 3 (by decide) k13 (fun _ h9 => h9) rfl dX11_copy_93 ?_
                  refine lv_iload_n hx hb dX11_copy_96 rfl (lv_at hl 1 rfl) ?_
                  have q_19 : vp_in a 8 := vp_in_iff.mpr ⟨by omega, by omega⟩
                  refine va_iald hx hb hK hP 2 0 rfl rfl q_19 dX11_copy_97 ?_
                  refine lv_i2l (v := (r_many a.toNatClampNeg).toInt64) hx hb dX11_copy_98 rfl ?_
                  refine W.lcmp hx hb dX11_copy_99 ?_
                  refine lv_if_gt (tgt := 121) hx hb dX11_copy_100 (by decide) (fun c_20 => ?_) (fun c_20 => ?_)
                  · have d_20 := i_lt (show (0 : Int32).toInt = 0 from by decide) rfl c_20
                    refine lv_aload_n hx hb dX11_copy_121 rfl (lv_at hl 0 rfl) ?_
                    refine lv_iconst (v := 2) hx hb dX11_copy_122 (by decide) ?_
                    refine mx_callV (As := [.int 2]) (rest := []) ⟨hx, hb, hml, hown, hts⟩ (mtX11_finding l D cI cB cK cS Y R 0 0 m_isThere m_kinds m_newKinds m_print m_low m_high m_lot m_taped m_latest m_length m_cursor m_token m_from m_till m_fault m_faultAt m_traced r_lane r_many r_item r_market r_of r_newMarket r_newStart r_newOf r_newCoin r_state r_kept r_tape r_brings r_seen r_seenOut r_trace 2) (cwV 1 hts gX11_copy_X11_finding rfl rfl rfl (by decide +kernel) ⟨Nat.le_of_ble_eq_true rfl, Nat.le_of_ble_eq_true rfl⟩) pF0_ok trivial hK hP hD hS hA 0 rfl rfl rfl rfl hl.1 rfl (Nat.le_of_ble_eq_true rfl) dX11_copy_123 ⟨Nat.le_refl _, Nat.le_refl _⟩ (fun u_21 H locs eu_21 hP hD hS => ?_)
                    refine W.eq (g2 := F0 m 126 ls [.int u_21.1]) rfl ?_
                    have hP : va_P D vwCl (mdW Y cI 0 u_21.2 m_isThere m_kinds m_newKinds m_print m_low m_high m_lot m_taped m_latest m_length m_cursor m_token m_from m_till m_fault m_faultAt m_traced r_lane r_many r_item r_market r_of r_newMarket r_newStart r_newOf r_newCoin r_state r_kept r_tape r_brings r_seen r_seenOut r_trace ++ R) H := hP
                    have hD : va_D A (mdW Y cI 0 u_21.2 m_isThere m_kinds m_newKinds m_print m_low m_high m_lot m_taped m_latest m_length m_cursor m_token m_from m_till m_fault m_faultAt m_traced r_lane r_many r_item r_market r_of r_newMarket r_newStart r_newOf r_newCoin r_state r_kept r_tape r_brings r_seen r_seenOut r_trace ++ R) := hD
                    rw [hQm]
                    exact mx_iret (u0 := sX11_copy a i b j nn m_status r_lane r_many r_item) (rv := (fun u => some (.int u.1))) (w1 := (fun u => mdW Y cI u.2.1 u.2.2.1 m_isThere m_kinds m_newKinds m_print m_low m_high m_lot m_taped m_latest m_length m_cursor m_token m_from m_till m_fault m_faultAt m_traced r_lane r_many u.2.2.2 r_market r_of r_newMarket r_newStart r_newOf r_newCoin r_state r_kept r_tape r_brings r_seen r_seenOut r_trace ++ R)) (u := (u_21.1, 0, u_21.2, r_item)) hx hb hr hlocks hK hS (lt_eq eu_1 ((if_neg c_2).trans (lt_eq eu_3 ((if_neg c_4).trans ((if_neg c_6).trans ((if_pos c_9).trans ((if_pos c_12).trans ((if_neg c_13).trans ((if_neg c_15).trans ((if_neg c_17).trans ((if_pos c_20).trans (lt_eq eu_21 rfl)))))))))))) hP hD rfl dX11_copy_126
                  · have d_20 := i_ltn (show (0 : Int32).toInt = 0 from by decide) rfl c_20
                    have dl1 := l_sum_le c_20
                    refine lv_iload hx hb dX11_copy_103 (lv_at hl 4 rfl) ?_
                    refine lv_i2l (v := j.toInt64) hx hb dX11_copy_105 rfl ?_
                    refine lv_iload hx hb dX11_copy_106 (lv_at hl 5 rfl) ?_
                    refine lv_i2l (v := nn.toInt64) hx hb dX11_copy_108 rfl ?_
                    refine lv_ladd hx hb dX11_copy_109 ?_
                    refine lv_aload_n hx hb dX11_copy_110 rfl (lv_at hl 0 rfl) ?_
                    refine va_get (D := D) (ci := 9) (v := .ref (Y 3)) (C := RX11) (T := TX11) (N := 35) hx hb hts iX11 hown hK hP 0 rfl rfl 3 (by decide) k13 (fun _ h9 => h9) rfl dX11_copy_111 ?_
                    refine lv_iload_n hx hb dX11_copy_114 rfl (lv_at hl 3 rfl) ?_
                    have q_22 : vp_in b 8 := vp_in_iff.mpr ⟨by omega, by omega⟩
                    refine va_iald hx hb hK hP 2 0 rfl rfl q_22 dX11_copy_115 ?_
                    refine lv_i2l (v := (r_many b.toNatClampNeg).toInt64) hx hb dX11_copy_116 rfl ?_
                    refine W.lcmp hx hb dX11_copy_117 ?_
                    refine lv_if_le (tgt := 127) hx hb dX11_copy_118 (by decide) (fun c_23 => ?_) (fun c_23 => ?_)
                    · have d_23 := i_le rfl (show (0 : Int32).toInt = 0 from by decide) c_23
                      have dl2 := l_sum_le2 c_23
                      refine lv_iload_n hx hb dX11_copy_127 rfl (lv_at hl 2 rfl) ?_
                      refine lv_iload hx hb dX11_copy_128 (lv_at hl 4 rfl) ?_
                      have J_24 : ∀ (y_24 : Int32) (H : Heap) (locs : List Loc) (ls : Array Slot), y_24 = (if i < j then (0) else (1)) → va_P D vwCl (mdW Y cI 0 0 m_isThere m_kinds m_newKinds m_print m_low m_high m_lot m_taped m_latest m_length m_cursor m_token m_from m_till m_fault m_faultAt m_traced r_lane r_many r_item r_market r_of r_newMarket r_newStart r_newOf r_newCoin r_state r_kept r_tape r_brings r_seen r_seenOut r_trace ++ R) H → va_D A (mdW Y cI 0 0 m_isThere m_kinds m_newKinds m_print m_low m_high m_lot m_taped m_latest m_length m_cursor m_token m_from m_till m_fault m_faultAt m_traced r_lane r_many r_item r_market r_of r_newMarket r_newStart r_newOf r_newCoin r_state r_kept r_tape r_brings r_seen r_seenOut r_trace ++ R) → va_S A s.heap H locs → lv_has ls 9 [(0, .ref (Y 0)), (1, .int a), (2, .int i), (3, .int b), (4, .int j), (5, .int nn)] → W p l e (rmX 3) s m ([.ref (Y 0), .int a, .int i, .int b, .int j, .int nn] : List Value).toArray below meth c H locs 0 0 Qm (F0 m 138 ls [.int y_24]) := by
                        intro y_24 H locs ls ey_24 hP hD hS hl
                        refine lv_istore (lv' := [(6, .int y_24), (0, .ref (Y 0)), (1, .int a), (2, .int i), (3, .int b), (4, .int j), (5, .int nn)]) hx hb dX11_copy_138 hl (by decide) rfl (fun ls hl => ?_)
                        refine lv_iconst (v := 0) hx hb dX11_copy_140 (by decide) ?_
                        refine lv_istore (lv' := [(7, .int 0), (6, .int y_24), (0, .ref (Y 0)), (1, .int a), (2, .int i), (3, .int b), (4, .int j), (5, .int nn)]) hx hb dX11_copy_141 hl (by decide) rfl (fun ls hl => ?_)
                        have L_143 : ∀ (n : Nat) (x7_143 : Int32) (r_item_143 : Nat → Int32) (H : Heap) (locs : List Loc) (ls : Array Slot), 0 ≤ x7_143.toInt → x7_143.toInt ≤ 60 → (60 : Int) < x7_143.toInt + ((n : Nat) : Int) → va_P D vwCl (mdW Y cI 0 0 m_isThere m_kinds m_newKinds m_print m_low m_high m_lot m_taped m_latest m_length m_cursor m_token m_from m_till m_fault m_faultAt m_traced r_lane r_many r_item_143 r_market r_of r_newMarket r_newStart r_newOf r_newCoin r_state r_kept r_tape r_brings r_seen r_seenOut r_trace ++ R) H → va_D A (mdW Y cI 0 0 m_isThere m_kinds m_newKinds m_print m_low m_high m_lot m_taped m_latest m_length m_cursor m_token m_from m_till m_fault m_faultAt m_traced r_lane r_many r_item_143 r_market r_of r_newMarket r_newStart r_newOf r_newCoin r_state r_kept r_tape r_brings r_seen r_seenOut r_trace ++ R) → va_S A s.heap H locs → lv_has ls 9 [(7, .int x7_143), (6, .int y_24), (0, .ref (Y 0)), (1, .int a), (2, .int i), (3, .int b), (4, .int j), (5, .int nn)] → (∀ (u : Int32 × (Nat → Int32)) (H : Heap) (locs : List Loc) (ls : Array Slot), u = lX11_copy_143 a i b j nn y_24 n x7_143 r_item_143 → va_P D vwCl (mdW Y cI 0 0 m_isThere m_kinds m_newKinds m_print m_low m_high m_lot m_taped m_latest m_length m_cursor m_token m_from m_till m_fault m_faultAt m_traced r_lane r_many u.2 r_market r_of r_newMarket r_newStart r_newOf r_newCoin r_state r_kept r_tape r_brings r_seen r_seenOut r_trace ++ R) H → va_D A (mdW Y cI 0 0 m_isThere m_kinds m_newKinds m_print m_low m_high m_lot m_taped m_latest m_length m_cursor m_token m_from m_till m_fault m_faultAt m_traced r_lane r_many u.2 r_market r_of r_newMarket r_newStart r_newOf r_newCoin r_state r_kept r_tape r_brings r_seen r_seenOut r_trace ++ R) → va_S A s.heap H locs → lv_has ls 9 [(5, .int nn)] → W p l e (rmX 3) s m ([.ref (Y 0), .int a, .int i, .int b, .int j, .int nn] : List Value).toArray below meth c H locs 0 0 Qm (F0 m 204 ls [])) → W p l e (rmX 3) s m ([.ref (Y 0), .int a, .int i, .int b, .int j, .int nn] : List Value).toArray below meth c H locs 0 0 Qm (F0 m 143 ls []) := by
                          intro n
                          induction n with
                          | zero =>
                            intro x7_143 r_item_143 H locs ls iv_143_0 iv_143_1 iv_143_2 hP hD hS hl kont_143
                            exfalso; omega
                          | succ n ih_143 =>
                            intro x7_143 r_item_143 H locs ls iv_143_0 iv_143_1 iv_143_2 hP hD hS hl kont_143
                            refine lv_iload hx hb dX11_copy_143 (lv_at hl 0 rfl) ?_
                            refine lv_iload hx hb dX11_copy_145 (lv_at hl 7 rfl) ?_
                            refine lv_icmp_ge (tgt := 204) hx hb dX11_copy_147 (by decide) (fun c_26 => ?_) (fun c_26 => ?_)
                            · have d_26 := i_le rfl rfl c_26
                              exact kont_143 (x7_143, r_item_143) H locs ls (show lX11_copy_143 a i b j nn y_24 (n + 1) x7_143 r_item_143 = (x7_143, r_item_143) from ((if_pos c_26).trans rfl)).symm  hP hD hS (lv_sub hl [7] rfl)
                            · have d_26 := i_len rfl rfl c_26
                              refine lv_iload hx hb dX11_copy_150 (lv_at hl 1 rfl) ?_
                              have J_27 : ∀ (y_27 : Int32) (H : Heap) (locs : List Loc) (ls : Array Slot), y_27 = (if y_24 = 0 then (((nn - 1) - x7_143)) else (x7_143)) → va_P D vwCl (mdW Y cI 0 0 m_isThere m_kinds m_newKinds m_print m_low m_high m_lot m_taped m_latest m_length m_cursor m_token m_from m_till m_fault m_faultAt m_traced r_lane r_many r_item_143 r_market r_of r_newMarket r_newStart r_newOf r_newCoin r_state r_kept r_tape r_brings r_seen r_seenOut r_trace ++ R) H → va_D A (mdW Y cI 0 0 m_isThere m_kinds m_newKinds m_print m_low m_high m_lot m_taped m_latest m_length m_cursor m_token m_from m_till m_fault m_faultAt m_traced r_lane r_many r_item_143 r_market r_of r_newMarket r_newStart r_newOf r_newCoin r_state r_kept r_tape r_brings r_seen r_seenOut r_trace ++ R) → va_S A s.heap H locs → lv_has ls 9 [(7, .int x7_143), (6, .int y_24), (0, .ref (Y 0)), (1, .int a), (2, .int i), (3, .int b), (4, .int j), (5, .int nn)] → W p l e (rmX 3) s m ([.ref (Y 0), .int a, .int i, .int b, .int j, .int nn] : List Value).toArray below meth c H locs 0 0 Qm (F0 m 167 ls [.int y_27]) := by
                                intro y_27 H locs ls ey_27 hP hD hS hl
                                have dy : 0 ≤ y_27.toInt ∧ y_27.toInt < nn.toInt := by rw [ey_27]; split <;> first | (constructor <;> omega) | (rw [show ((nn - 1) - x7_143).toInt = ((nn.toInt - 1) - x7_143.toInt) from (i_subv (i_subv rfl (show (1 : Int32).toInt = 1 from by decide) (by omega) (by omega)) rfl (by omega) (by omega))]; constructor <;> omega)
                                refine lv_istore (lv' := [(8, .int y_27), (7, .int x7_143), (6, .int y_24), (0, .ref (Y 0)), (1, .int a), (2, .int i), (3, .int b), (4, .int j), (5, .int nn)]) hx hb dX11_copy_167 hl (by decide) rfl (fun ls hl => ?_)
                                refine lv_aload_n hx hb dX11_copy_169 rfl (lv_at hl 3 rfl) ?_
                                refine va_get (D := D) (ci := 9) (v := .ref (Y 4)) (C := RX11) (T := TX11) (N := 35) hx hb hts iX11 hown hK hP 0 rfl rfl 4 (by decide) k16 (fun _ h9 => h9) rfl dX11_copy_170 ?_
                                refine lv_bipush (v := 60) hx hb dX11_copy_173 (by decide) ?_
                                refine lv_iload_n hx hb dX11_copy_175 rfl (lv_at hl 6 rfl) ?_
                                refine lv_imul hx hb dX11_copy_176 ?_
                                refine lv_iload hx hb dX11_copy_177 (lv_at hl 7 rfl) ?_
                                refine lv_iadd hx hb dX11_copy_179 ?_
                                refine lv_iload hx hb dX11_copy_180 (lv_at hl 0 rfl) ?_
                                refine lv_iadd hx hb dX11_copy_182 ?_
                                refine lv_aload_n hx hb dX11_copy_183 rfl (lv_at hl 3 rfl) ?_
                                refine va_get (D := D) (ci := 9) (v := .ref (Y 4)) (C := RX11) (T := TX11) (N := 35) hx hb hts iX11 hown hK hP 0 rfl rfl 4 (by decide) k16 (fun _ h9 => h9) rfl dX11_copy_184 ?_
                                refine lv_bipush (v := 60) hx hb dX11_copy_187 (by decide) ?_
                                refine lv_iload_n hx hb dX11_copy_189 rfl (lv_at hl 4 rfl) ?_
                                refine lv_imul hx hb dX11_copy_190 ?_
                                refine lv_iload_n hx hb dX11_copy_191 rfl (lv_at hl 5 rfl) ?_
                                refine lv_iadd hx hb dX11_copy_192 ?_
                                refine lv_iload hx hb dX11_copy_193 (lv_at hl 0 rfl) ?_
                                refine lv_iadd hx hb dX11_copy_195 ?_
                                have q_29 : vp_in (((60 * a) + i) + y_27) 480 := vp_in_iff.mpr (by rw [show (((60 * a) + i) + y_27).toInt = (((60 * a.toInt) + i.toInt) + y_27.toInt) from (i_addv (i_addv (i_mulv (show (60 : Int32).toInt = 60 from by decide) rfl (by omega) (by omega)) rfl (by omega) (by omega)) rfl (by omega) (by omega))]; constructor <;> omega)
                                refine va_iald hx hb hK hP 3 0 rfl rfl q_29 dX11_copy_196 ?_
                                have q_30 : vp_in (((60 * b) + j) + y_27) 480 := vp_in_iff.mpr (by rw [show (((60 * b) + j) + y_27).toInt = (((60 * b.toInt) + j.toInt) + y_27.toInt) from (i_addv (i_addv (i_mulv (show (60 : Int32).toInt = 60 from by decide) rfl (by omega) (by omega)) rfl (by omega) (by omega)) rfl (by omega) (by omega))]; constructor <;> omega)
                                refine va_iast hx hb hK hP hD hS 3 0 rfl rfl q_30 dX11_copy_197 (fun H locs hP hD hS => ?_)
                                obtain ⟨ar_31, ear_31⟩ : ∃ z : Nat → Int32, z = upd r_item_143 (((60 * b) + j) + y_27).toNatClampNeg (r_item_143 (((60 * a) + i) + y_27).toNatClampNeg) := ⟨_, rfl⟩
                                have hP : va_P D vwCl (mdW Y cI 0 0 m_isThere m_kinds m_newKinds m_print m_low m_high m_lot m_taped m_latest m_length m_cursor m_token m_from m_till m_fault m_faultAt m_traced r_lane r_many (upd r_item_143 (((60 * b) + j) + y_27).toNatClampNeg (r_item_143 (((60 * a) + i) + y_27).toNatClampNeg)) r_market r_of r_newMarket r_newStart r_newOf r_newCoin r_state r_kept r_tape r_brings r_seen r_seenOut r_trace ++ R) H := hP
                                have hD : va_D A (mdW Y cI 0 0 m_isThere m_kinds m_newKinds m_print m_low m_high m_lot m_taped m_latest m_length m_cursor m_token m_from m_till m_fault m_faultAt m_traced r_lane r_many (upd r_item_143 (((60 * b) + j) + y_27).toNatClampNeg (r_item_143 (((60 * a) + i) + y_27).toNatClampNeg)) r_market r_of r_newMarket r_newStart r_newOf r_newCoin r_state r_kept r_tape r_brings r_seen r_seenOut r_trace ++ R) := hD
                                rw [← ear_31] at hP hD
                                have hP : va_P D vwCl (mdW Y cI 0 0 m_isThere m_kinds m_newKinds m_print m_low m_high m_lot m_taped m_latest m_length m_cursor m_token m_from m_till m_fault m_faultAt m_traced r_lane r_many ar_31 r_market r_of r_newMarket r_newStart r_newOf r_newCoin r_state r_kept r_tape r_brings r_seen r_seenOut r_trace ++ R) H := hP
                                have hD : va_D A (mdW Y cI 0 0 m_isThere m_kinds m_newKinds m_print m_low m_high m_lot m_taped m_latest m_length m_cursor m_token m_from m_till m_fault m_faultAt m_traced r_lane r_many ar_31 r_market r_of r_newMarket r_newStart r_newOf r_newCoin r_state r_kept r_tape r_brings r_seen r_seenOut r_trace ++ R) := hD
                                obtain ⟨x_32, ex_32⟩ : ∃ z : Int32, z = x7_143 + 1 := ⟨_, rfl⟩
                                refine lv_iinc (v := x_32) (lv' := [(7, .int x_32), (8, .int y_27), (6, .int y_24), (0, .ref (Y 0)), (1, .int a), (2, .int i), (3, .int b), (4, .int j), (5, .int nn)]) hx hb dX11_copy_198 hl (k := 1) rfl (by rw [ex_32]; rfl) (by decide) rfl (fun ls hl => ?_)
                                refine lv_goto (tgt := 143) hx hb dX11_copy_201 (by decide) ?_
                                have tx_32 : x_32.toInt = x7_143.toInt + 1 := i_inc ex_32 (by decide) (by omega) (by omega)
                                refine ih_143 x_32 ar_31 H locs ls (by omega) (by omega) (by omega) hP hD hS (lv_sub hl [0, 2, 3, 4, 5, 6, 7, 8] rfl) (fun u H locs ls eu  hP hD hS hl => ?_)
                                exact kont_143 u H locs ls (eu.trans (show lX11_copy_143 a i b j nn y_24 (n + 1) x7_143 r_item_143 = lX11_copy_143 a i b j nn y_24 n x_32 ar_31 from ((if_neg c_26).trans (lt_eq ey_27 (lt_eq ear_31 (lt_eq ex_32 rfl))))).symm)  hP hD hS hl
                              refine lv_if_eq (tgt := 160) hx hb dX11_copy_152 (by decide) (fun c_28 => ?_) (fun c_28 => ?_)
                              · have d_28 := i_eq rfl (show (0 : Int32).toInt = 0 from by decide) c_28
                                refine lv_iload hx hb dX11_copy_160 (lv_at hl 7 rfl) ?_
                                refine lv_iconst (v := 1) hx hb dX11_copy_162 (by decide) ?_
                                refine lv_isub hx hb dX11_copy_163 ?_
                                refine lv_iload hx hb dX11_copy_164 (lv_at hl 0 rfl) ?_
                                refine lv_isub hx hb dX11_copy_166 ?_
                                exact J_27 ((nn - 1) - x7_143) H locs ls (Eq.symm ((if_pos c_28).trans rfl)) hP hD hS (lv_sub hl [0, 1, 2, 3, 4, 5, 6, 7] rfl)
                              · have d_28 := i_eqn rfl (show (0 : Int32).toInt = 0 from by decide) c_28
                                refine lv_iload hx hb dX11_copy_155 (lv_at hl 0 rfl) ?_
                                refine lv_goto (tgt := 167) hx hb dX11_copy_157 (by decide) ?_
                                exact J_27 x7_143 H locs ls (Eq.symm ((if_neg c_28).trans rfl)) hP hD hS (lv_sub hl [0, 1, 2, 3, 4, 5, 6, 7] rfl)
                        refine L_143 61 0 r_item H locs ls (by decide) (by decide) (by decide) hP hD hS (lv_sub hl [0, 1, 2, 3, 4, 5, 6, 7] rfl) (fun u_33 H locs ls eu_33  hP hD hS hl => ?_)
                        have hP : va_P D vwCl (mdW Y cI 0 0 m_isThere m_kinds m_newKinds m_print m_low m_high m_lot m_taped m_latest m_length m_cursor m_token m_from m_till m_fault m_faultAt m_traced r_lane r_many u_33.2 r_market r_of r_newMarket r_newStart r_newOf r_newCoin r_state r_kept r_tape r_brings r_seen r_seenOut r_trace ++ R) H := hP
                        have hD : va_D A (mdW Y cI 0 0 m_isThere m_kinds m_newKinds m_print m_low m_high m_lot m_taped m_latest m_length m_cursor m_token m_from m_till m_fault m_faultAt m_traced r_lane r_many u_33.2 r_market r_of r_newMarket r_newStart r_newOf r_newCoin r_state r_kept r_tape r_brings r_seen r_seenOut r_trace ++ R) := hD
                        refine lv_iload hx hb dX11_copy_204 (lv_at hl 0 rfl) ?_
                        rw [hQm]
                        exact mx_iret (u0 := sX11_copy a i b j nn m_status r_lane r_many r_item) (rv := (fun u => some (.int u.1))) (w1 := (fun u => mdW Y cI u.2.1 u.2.2.1 m_isThere m_kinds m_newKinds m_print m_low m_high m_lot m_taped m_latest m_length m_cursor m_token m_from m_till m_fault m_faultAt m_traced r_lane r_many u.2.2.2 r_market r_of r_newMarket r_newStart r_newOf r_newCoin r_state r_kept r_tape r_brings r_seen r_seenOut r_trace ++ R)) (u := (nn, 0, 0, u_33.2)) hx hb hr hlocks hK hS (lt_eq eu_1 ((if_neg c_2).trans (lt_eq eu_3 ((if_neg c_4).trans ((if_neg c_6).trans ((if_pos c_9).trans ((if_pos c_12).trans ((if_neg c_13).trans ((if_neg c_15).trans ((if_neg c_17).trans ((if_neg c_20).trans ((if_pos c_23).trans (lt_eq ey_24 (lt_eq eu_33 rfl)))))))))))))) hP hD rfl dX11_copy_206
                      refine lv_icmp_lt (tgt := 137) hx hb dX11_copy_130 (by decide) (fun c_25 => ?_) (fun c_25 => ?_)
                      · have d_25 := i_lt rfl rfl c_25
                        refine lv_iconst (v := 0) hx hb dX11_copy_137 (by decide) ?_
                        exact J_24 0 H locs ls (Eq.symm ((if_pos c_25).trans rfl)) hP hD hS (lv_sub hl [0, 1, 2, 3, 4, 5] rfl)
                      · have d_25 := i_ltn rfl rfl c_25
                        refine lv_iconst (v := 1) hx hb dX11_copy_133 (by decide) ?_
                        refine lv_goto (tgt := 138) hx hb dX11_copy_134 (by decide) ?_
                        exact J_24 1 H locs ls (Eq.symm ((if_neg c_25).trans rfl)) hP hD hS (lv_sub hl [0, 1, 2, 3, 4, 5] rfl)
                    · have d_23 := i_len rfl (show (0 : Int32).toInt = 0 from by decide) c_23
                      refine lv_aload_n hx hb dX11_copy_121 rfl (lv_at hl 0 rfl) ?_
                      refine lv_iconst (v := 2) hx hb dX11_copy_122 (by decide) ?_
                      refine mx_callV (As := [.int 2]) (rest := []) ⟨hx, hb, hml, hown, hts⟩ (mtX11_finding l D cI cB cK cS Y R 0 0 m_isThere m_kinds m_newKinds m_print m_low m_high m_lot m_taped m_latest m_length m_cursor m_token m_from m_till m_fault m_faultAt m_traced r_lane r_many r_item r_market r_of r_newMarket r_newStart r_newOf r_newCoin r_state r_kept r_tape r_brings r_seen r_seenOut r_trace 2) (cwV 1 hts gX11_copy_X11_finding rfl rfl rfl (by decide +kernel) ⟨Nat.le_of_ble_eq_true rfl, Nat.le_of_ble_eq_true rfl⟩) pF0_ok trivial hK hP hD hS hA 0 rfl rfl rfl rfl hl.1 rfl (Nat.le_of_ble_eq_true rfl) dX11_copy_123 ⟨Nat.le_refl _, Nat.le_refl _⟩ (fun u_34 H locs eu_34 hP hD hS => ?_)
                      refine W.eq (g2 := F0 m 126 ls [.int u_34.1]) rfl ?_
                      have hP : va_P D vwCl (mdW Y cI 0 u_34.2 m_isThere m_kinds m_newKinds m_print m_low m_high m_lot m_taped m_latest m_length m_cursor m_token m_from m_till m_fault m_faultAt m_traced r_lane r_many r_item r_market r_of r_newMarket r_newStart r_newOf r_newCoin r_state r_kept r_tape r_brings r_seen r_seenOut r_trace ++ R) H := hP
                      have hD : va_D A (mdW Y cI 0 u_34.2 m_isThere m_kinds m_newKinds m_print m_low m_high m_lot m_taped m_latest m_length m_cursor m_token m_from m_till m_fault m_faultAt m_traced r_lane r_many r_item r_market r_of r_newMarket r_newStart r_newOf r_newCoin r_state r_kept r_tape r_brings r_seen r_seenOut r_trace ++ R) := hD
                      rw [hQm]
                      exact mx_iret (u0 := sX11_copy a i b j nn m_status r_lane r_many r_item) (rv := (fun u => some (.int u.1))) (w1 := (fun u => mdW Y cI u.2.1 u.2.2.1 m_isThere m_kinds m_newKinds m_print m_low m_high m_lot m_taped m_latest m_length m_cursor m_token m_from m_till m_fault m_faultAt m_traced r_lane r_many u.2.2.2 r_market r_of r_newMarket r_newStart r_newOf r_newCoin r_state r_kept r_tape r_brings r_seen r_seenOut r_trace ++ R)) (u := (u_34.1, 0, u_34.2, r_item)) hx hb hr hlocks hK hS (lt_eq eu_1 ((if_neg c_2).trans (lt_eq eu_3 ((if_neg c_4).trans ((if_neg c_6).trans ((if_pos c_9).trans ((if_pos c_12).trans ((if_neg c_13).trans ((if_neg c_15).trans ((if_neg c_17).trans ((if_neg c_20).trans ((if_neg c_23).trans (lt_eq eu_34 rfl))))))))))))) hP hD rfl dX11_copy_126
          · have d_12 := i_eqn rfl rfl c_12
            refine lv_aload_n hx hb dX11_copy_66 rfl (lv_at hl 0 rfl) ?_
            refine lv_iconst (v := 5) hx hb dX11_copy_67 (by decide) ?_
            refine mx_callV (As := [.int 5]) (rest := []) ⟨hx, hb, hml, hown, hts⟩ (mtX11_finding l D cI cB cK cS Y R 0 0 m_isThere m_kinds m_newKinds m_print m_low m_high m_lot m_taped m_latest m_length m_cursor m_token m_from m_till m_fault m_faultAt m_traced r_lane r_many r_item r_market r_of r_newMarket r_newStart r_newOf r_newCoin r_state r_kept r_tape r_brings r_seen r_seenOut r_trace 5) (cwV 1 hts gX11_copy_X11_finding rfl rfl rfl (by decide +kernel) ⟨Nat.le_of_ble_eq_true rfl, Nat.le_of_ble_eq_true rfl⟩) pF0_ok trivial hK hP hD hS hA 0 rfl rfl rfl rfl hl.1 rfl (Nat.le_of_ble_eq_true rfl) dX11_copy_68 ⟨Nat.le_refl _, Nat.le_refl _⟩ (fun u_35 H locs eu_35 hP hD hS => ?_)
            refine W.eq (g2 := F0 m 71 ls [.int u_35.1]) rfl ?_
            have hP : va_P D vwCl (mdW Y cI 0 u_35.2 m_isThere m_kinds m_newKinds m_print m_low m_high m_lot m_taped m_latest m_length m_cursor m_token m_from m_till m_fault m_faultAt m_traced r_lane r_many r_item r_market r_of r_newMarket r_newStart r_newOf r_newCoin r_state r_kept r_tape r_brings r_seen r_seenOut r_trace ++ R) H := hP
            have hD : va_D A (mdW Y cI 0 u_35.2 m_isThere m_kinds m_newKinds m_print m_low m_high m_lot m_taped m_latest m_length m_cursor m_token m_from m_till m_fault m_faultAt m_traced r_lane r_many r_item r_market r_of r_newMarket r_newStart r_newOf r_newCoin r_state r_kept r_tape r_brings r_seen r_seenOut r_trace ++ R) := hD
            rw [hQm]
            exact mx_iret (u0 := sX11_copy a i b j nn m_status r_lane r_many r_item) (rv := (fun u => some (.int u.1))) (w1 := (fun u => mdW Y cI u.2.1 u.2.2.1 m_isThere m_kinds m_newKinds m_print m_low m_high m_lot m_taped m_latest m_length m_cursor m_token m_from m_till m_fault m_faultAt m_traced r_lane r_many u.2.2.2 r_market r_of r_newMarket r_newStart r_newOf r_newCoin r_state r_kept r_tape r_brings r_seen r_seenOut r_trace ++ R)) (u := (u_35.1, 0, u_35.2, r_item)) hx hb hr hlocks hK hS (lt_eq eu_1 ((if_neg c_2).trans (lt_eq eu_3 ((if_neg c_4).trans ((if_neg c_6).trans ((if_pos c_9).trans ((if_neg c_12).trans (lt_eq eu_35 rfl)))))))) hP hD rfl dX11_copy_71
        · have d_9 := i_len (show (0 : Int32).toInt = 0 from by decide) rfl c_9
          refine lv_aload_n hx hb dX11_copy_45 rfl (lv_at hl 0 rfl) ?_
          refine lv_iconst (v := 1) hx hb dX11_copy_46 (by decide) ?_
          refine mx_callV (As := [.int 1]) (rest := []) ⟨hx, hb, hml, hown, hts⟩ (mtX11_finding l D cI cB cK cS Y R 0 0 m_isThere m_kinds m_newKinds m_print m_low m_high m_lot m_taped m_latest m_length m_cursor m_token m_from m_till m_fault m_faultAt m_traced r_lane r_many r_item r_market r_of r_newMarket r_newStart r_newOf r_newCoin r_state r_kept r_tape r_brings r_seen r_seenOut r_trace 1) (cwV 1 hts gX11_copy_X11_finding rfl rfl rfl (by decide +kernel) ⟨Nat.le_of_ble_eq_true rfl, Nat.le_of_ble_eq_true rfl⟩) pF0_ok trivial hK hP hD hS hA 0 rfl rfl rfl rfl hl.1 rfl (Nat.le_of_ble_eq_true rfl) dX11_copy_47 ⟨Nat.le_refl _, Nat.le_refl _⟩ (fun u_36 H locs eu_36 hP hD hS => ?_)
          refine W.eq (g2 := F0 m 50 ls [.int u_36.1]) rfl ?_
          have hP : va_P D vwCl (mdW Y cI 0 u_36.2 m_isThere m_kinds m_newKinds m_print m_low m_high m_lot m_taped m_latest m_length m_cursor m_token m_from m_till m_fault m_faultAt m_traced r_lane r_many r_item r_market r_of r_newMarket r_newStart r_newOf r_newCoin r_state r_kept r_tape r_brings r_seen r_seenOut r_trace ++ R) H := hP
          have hD : va_D A (mdW Y cI 0 u_36.2 m_isThere m_kinds m_newKinds m_print m_low m_high m_lot m_taped m_latest m_length m_cursor m_token m_from m_till m_fault m_faultAt m_traced r_lane r_many r_item r_market r_of r_newMarket r_newStart r_newOf r_newCoin r_state r_kept r_tape r_brings r_seen r_seenOut r_trace ++ R) := hD
          rw [hQm]
          exact mx_iret (u0 := sX11_copy a i b j nn m_status r_lane r_many r_item) (rv := (fun u => some (.int u.1))) (w1 := (fun u => mdW Y cI u.2.1 u.2.2.1 m_isThere m_kinds m_newKinds m_print m_low m_high m_lot m_taped m_latest m_length m_cursor m_token m_from m_till m_fault m_faultAt m_traced r_lane r_many u.2.2.2 r_market r_of r_newMarket r_newStart r_newOf r_newCoin r_state r_kept r_tape r_brings r_seen r_seenOut r_trace ++ R)) (u := (u_36.1, 0, u_36.2, r_item)) hx hb hr hlocks hK hS (lt_eq eu_1 ((if_neg c_2).trans (lt_eq eu_3 ((if_neg c_4).trans ((if_neg c_6).trans ((if_neg c_9).trans (lt_eq eu_36 rfl))))))) hP hD rfl dX11_copy_50
    · have d_4 := i_eq rfl (show (0 : Int32).toInt = 0 from by decide) c_4
      refine lv_ldc (v := (-1000001)) hx hb hown k78 dX11_copy_19 ?_
      rw [hQm]
      exact mx_iret (u0 := sX11_copy a i b j nn m_status r_lane r_many r_item) (rv := (fun u => some (.int u.1))) (w1 := (fun u => mdW Y cI u.2.1 u.2.2.1 m_isThere m_kinds m_newKinds m_print m_low m_high m_lot m_taped m_latest m_length m_cursor m_token m_from m_till m_fault m_faultAt m_traced r_lane r_many u.2.2.2 r_market r_of r_newMarket r_newStart r_newOf r_newCoin r_state r_kept r_tape r_brings r_seen r_seenOut r_trace ++ R)) (u := ((-1000001), 0, m_status, r_item)) hx hb hr hlocks hK hS (lt_eq eu_1 ((if_neg c_2).trans (lt_eq eu_3 ((if_pos c_4).trans rfl)))) hP hD rfl dX11_copy_21

def lX11_feed_40 (v : Int64) : Nat → Int32 → Int32 → (Nat → Int32) → Int32 × Int32 × (Nat → Int32)
  | 0, x4_40, m_taped_40, r_tape_40 => (x4_40, m_taped_40, r_tape_40)
  | n + 1, x4_40, m_taped_40, r_tape_40 => if x4_40 < 0 then ((x4_40, m_taped_40, r_tape_40)) else (lt (((v >>> ((8 * x4_40).toInt64 &&& 63)) &&& 255).toInt32) (fun x_6 : Int32 => lt (upd r_tape_40 m_taped_40.toNatClampNeg x_6) (fun ar_8 : Nat → Int32 => lt (x4_40 + (-1)) (fun x_9 : Int32 => lX11_feed_40 v n x_9 (m_taped_40 + 1) ar_8))))

def sX11_feed (v : Int64) (nn : Int32) (m_taped : Int32) (r_tape : Nat → Int32) : Int32 × (Int32) × (Int32) × (Nat → Int32) := lt (sX11_in nn.toInt64 1 8) (fun u_1 : Int32 => if u_1 = 0 then (((-1000001), 0, m_taped, r_tape)) else (if (m_taped + nn) ≤ 400 then (lt (nn - 1) (fun x_4 : Int32 => lt (lX11_feed_40 v 9 x_4 m_taped r_tape) (fun u_10 : Int32 × Int32 × (Nat → Int32) => (u_10.2.1, 0, u_10.2.1, u_10.2.2)))) else (((-1000003), 0, m_taped, r_tape))))
set_option maxHeartbeats 4000000 in
set_option maxRecDepth 100000 in
theorem mtX11_feed (l : Launch) (D : va_G) (cI cB cK cS : ClassId) (Y : Nat → Nat) (R : va_W) (m_thrown : Int32) (m_status : Int32) (m_isThere : Int32) (m_kinds : Int32) (m_newKinds : Int32) (m_print : Int32) (m_low : Int32) (m_high : Int32) (m_lot : Int32) (m_taped : Int32) (m_latest : Int32) (m_length : Int32) (m_cursor : Int32) (m_token : Int32) (m_from : Int32) (m_till : Int32) (m_fault : Int32) (m_faultAt : Int32) (m_traced : Int32) (r_lane : Nat → Int32) (r_many : Nat → Int32) (r_item : Nat → Int32) (r_market : Nat → Int32) (r_of : Nat → Int32) (r_newMarket : Nat → Int32) (r_newStart : Nat → Int32) (r_newOf : Nat → Int32) (r_newCoin : Nat → Int32) (r_state : Nat → Int32) (r_kept : Nat → Int32) (r_tape : Nat → Int32) (r_brings : Nat → Int32) (r_seen : Nat → Int32) (r_seenOut : Nat → Int32) (r_trace : Nat → Int32) (v : Int64) (nn : Int32) (htp0 : 0 ≤ m_taped.toInt) (htp1 : m_taped.toInt ≤ 400) : MX l yX11_feed wsX11_feed (rmX 2) D (tyX cI cB cK cS) pF0 (mdW Y cI m_thrown m_status m_isThere m_kinds m_newKinds m_print m_low m_high m_lot m_taped m_latest m_length m_cursor m_token m_from m_till m_fault m_faultAt m_traced r_lane r_many r_item r_market r_of r_newMarket r_newStart r_newOf r_newCoin r_state r_kept r_tape r_brings r_seen r_seenOut r_trace ++ R) [.ref (Y 0), .long v, .int nn] (sX11_feed v nn m_taped r_tape) (fun u => some (.int u.1)) (fun u => mdW Y cI u.2.1 m_status m_isThere m_kinds m_newKinds m_print m_low m_high m_lot u.2.2.1 m_latest m_length m_cursor m_token m_from m_till m_fault m_faultAt m_traced r_lane r_many r_item r_market r_of r_newMarket r_newStart r_newOf r_newCoin r_state r_kept u.2.2.2 r_brings r_seen r_seenOut r_trace ++ R) := by
  refine mx_intro (cc := cX11_feed) (maxL := 5) (ret := (some .int)) (by decide) rfl (Nat.le_of_ble_eq_true rfl) ?_
  intro p e s m below meth c A ls H locs Qm hQm hx hb hr hml hts hown hlocks hA hS hP hK hD hF hl
  have hown : s.vm.findClass RX11 = some m.cls := hown
  have hl : lv_has ls 5 [(0, .ref (Y 0)), (1, .long v), (3, .int nn)] := hl
  have k58 := hts (.fieldLink RX11 58 "PigRoundsModel" "thrown" "I") (by decide +kernel)
  have k83 := hts (.constantLong RX11 83 (8)) (by decide +kernel)
  have k85 := hts (.fieldLink RX11 85 "PigRoundsModel" "taped" "I") (by decide +kernel)
  have k43 := hts (.fieldLink RX11 43 "PigRoundsModel" "tape" "[I") (by decide +kernel)
  have k89 := hts (.constantLong RX11 89 (255)) (by decide +kernel)
  have k88 := hts (.constant RX11 88 (-1000003)) (by decide +kernel)
  have k78 := hts (.constant RX11 78 (-1000001)) (by decide +kernel)
  have iX11 : ∀ w ∈ u_ws RX11 TX11 35, w ∈ wsX11_feed := by decide +kernel
  refine lv_aload_n hx hb dX11_feed_0 rfl (lv_at hl 0 rfl) ?_
  refine lv_iconst (v := 0) hx hb dX11_feed_1 (by decide) ?_
  refine va_put (D := D) (ci := 9) (v := .int 0) (ty := .int) (C := RX11) (T := TX11) (N := 35) hx hb hts iX11 tyX11 tyX11_ok nmX11 hown hK hP hD hS 0 rfl rfl 0 (by decide) k58 (fun _ h9 => h9) rfl (by decide +kernel) rfl rfl (Nat.le_of_ble_eq_true rfl) dX11_feed_2 (fun H locs hP hD hS => ?_)
  have hP : va_P D vwCl (mdW Y cI 0 m_status m_isThere m_kinds m_newKinds m_print m_low m_high m_lot m_taped m_latest m_length m_cursor m_token m_from m_till m_fault m_faultAt m_traced r_lane r_many r_item r_market r_of r_newMarket r_newStart r_newOf r_newCoin r_state r_kept r_tape r_brings r_seen r_seenOut r_trace ++ R) H := hP
  have hD : va_D A (mdW Y cI 0 m_status m_isThere m_kinds m_newKinds m_print m_low m_high m_lot m_taped m_latest m_length m_cursor m_token m_from m_till m_fault m_faultAt m_traced r_lane r_many r_item r_market r_of r_newMarket r_newStart r_newOf r_newCoin r_state r_kept r_tape r_brings r_seen r_seenOut r_trace ++ R) := hD
  refine lv_iload_n hx hb dX11_feed_5 rfl (lv_at hl 2 rfl) ?_
  refine lv_i2l (v := nn.toInt64) hx hb dX11_feed_6 rfl ?_
  refine lv_lconst (v := 1) hx hb dX11_feed_7 (by decide) ?_
  refine lv_ldc2 (v := 8) hx hb hown k83 dX11_feed_8 ?_
  refine mx_callS (As := [.long nn.toInt64, .long 1, .long 8]) (rest := []) ⟨hx, hb, hml, hown, hts⟩ (mtX11_in l D cI cB cK cS (mdW Y cI 0 m_status m_isThere m_kinds m_newKinds m_print m_low m_high m_lot m_taped m_latest m_length m_cursor m_token m_from m_till m_fault m_faultAt m_traced r_lane r_many r_item r_market r_of r_newMarket r_newStart r_newOf r_newCoin r_state r_kept r_tape r_brings r_seen r_seenOut r_trace ++ R) nn.toInt64 1 8) (va_cwS 3 hts gX11_feed_X11_in rfl rfl rfl (by decide +kernel) ⟨Nat.le_of_ble_eq_true rfl, Nat.le_of_ble_eq_true rfl⟩) pF0_ok trivial hK hP hD hS hA rfl hl.1 rfl (Nat.le_of_ble_eq_true rfl) dX11_feed_11 ⟨Nat.le_refl _, Nat.le_refl _⟩ (fun u_1 H locs eu_1 hP hD hS => ?_)
  refine W.eq (g2 := F0 m 14 ls [.int u_1]) rfl ?_
  have hP : va_P D vwCl (mdW Y cI 0 m_status m_isThere m_kinds m_newKinds m_print m_low m_high m_lot m_taped m_latest m_length m_cursor m_token m_from m_till m_fault m_faultAt m_traced r_lane r_many r_item r_market r_of r_newMarket r_newStart r_newOf r_newCoin r_state r_kept r_tape r_brings r_seen r_seenOut r_trace ++ R) H := hP
  have hD : va_D A (mdW Y cI 0 m_status m_isThere m_kinds m_newKinds m_print m_low m_high m_lot m_taped m_latest m_length m_cursor m_token m_from m_till m_fault m_faultAt m_traced r_lane r_many r_item r_market r_of r_newMarket r_newStart r_newOf r_newCoin r_state r_kept r_tape r_brings r_seen r_seenOut r_trace ++ R) := hD
  refine lv_if_ne (tgt := 20) hx hb dX11_feed_14 (by decide) (fun c_2 => ?_) (fun c_2 => ?_)
  · have d_2 := i_eqn rfl (show (0 : Int32).toInt = 0 from by decide) c_2
    have dt_2 := sX11_in_t ((Int32.toInt_toInt64 _).trans rfl) (show (1 : Int64).toInt = 1 from by decide) (show (8 : Int64).toInt = 8 from by decide) eu_1 c_2
    refine lv_aload_n hx hb dX11_feed_20 rfl (lv_at hl 0 rfl) ?_
    refine va_get (D := D) (ci := 9) (v := .int m_taped) (C := RX11) (T := TX11) (N := 35) hx hb hts iX11 hown hK hP 0 rfl rfl 21 (by decide) k85 (fun _ h9 => h9) rfl dX11_feed_21 ?_
    refine lv_iload_n hx hb dX11_feed_24 rfl (lv_at hl 2 rfl) ?_
    refine lv_iadd hx hb dX11_feed_25 ?_
    refine lv_sipush (v := 400) hx hb dX11_feed_26 (by decide) ?_
    refine lv_icmp_le (tgt := 35) hx hb dX11_feed_29 (by decide) (fun c_3 => ?_) (fun c_3 => ?_)
    · have d_3 := i_le (i_addv rfl rfl (by omega) (by omega)) (show (400 : Int32).toInt = 400 from by decide) c_3
      refine lv_iload_n hx hb dX11_feed_35 rfl (lv_at hl 2 rfl) ?_
      refine lv_iconst (v := 1) hx hb dX11_feed_36 (by decide) ?_
      refine lv_isub hx hb dX11_feed_37 ?_
      refine lv_topi (fun x_4 ex_4 => ?_)
      refine lv_istore (lv' := [(4, .int x_4), (0, .ref (Y 0)), (1, .long v), (3, .int nn)]) hx hb dX11_feed_38 hl (by decide) rfl (fun ls hl => ?_)
      have L_40 : ∀ (n : Nat) (x4_40 : Int32) (m_taped_40 : Int32) (r_tape_40 : Nat → Int32) (H : Heap) (locs : List Loc) (ls : Array Slot), -1 ≤ x4_40.toInt → 0 ≤ m_taped_40.toInt → m_taped_40.toInt + x4_40.toInt + 1 ≤ 400 → x4_40.toInt + 1 < ((n : Nat) : Int) → va_P D vwCl (mdW Y cI 0 m_status m_isThere m_kinds m_newKinds m_print m_low m_high m_lot m_taped_40 m_latest m_length m_cursor m_token m_from m_till m_fault m_faultAt m_traced r_lane r_many r_item r_market r_of r_newMarket r_newStart r_newOf r_newCoin r_state r_kept r_tape_40 r_brings r_seen r_seenOut r_trace ++ R) H → va_D A (mdW Y cI 0 m_status m_isThere m_kinds m_newKinds m_print m_low m_high m_lot m_taped_40 m_latest m_length m_cursor m_token m_from m_till m_fault m_faultAt m_traced r_lane r_many r_item r_market r_of r_newMarket r_newStart r_newOf r_newCoin r_state r_kept r_tape_40 r_brings r_seen r_seenOut r_trace ++ R) → va_S A s.heap H locs → lv_has ls 5 [(4, .int x4_40), (0, .ref (Y 0)), (1, .long v)] → (∀ (u : Int32 × Int32 × (Nat → Int32)) (H : Heap) (locs : List Loc) (ls : Array Slot), u = lX11_feed_40 v n x4_40 m_taped_40 r_tape_40 → va_P D vwCl (mdW Y cI 0 m_status m_isThere m_kinds m_newKinds m_print m_low m_high m_lot u.2.1 m_latest m_length m_cursor m_token m_from m_till m_fault m_faultAt m_traced r_lane r_many r_item r_market r_of r_newMarket r_newStart r_newOf r_newCoin r_state r_kept u.2.2 r_brings r_seen r_seenOut r_trace ++ R) H → va_D A (mdW Y cI 0 m_status m_isThere m_kinds m_newKinds m_print m_low m_high m_lot u.2.1 m_latest m_length m_cursor m_token m_from m_till m_fault m_faultAt m_traced r_lane r_many r_item r_market r_of r_newMarket r_newStart r_newOf r_newCoin r_state r_kept u.2.2 r_brings r_seen r_seenOut r_trace ++ R) → va_S A s.heap H locs → lv_has ls 5 [(0, .ref (Y 0))] → W p l e (rmX 2) s m ([.ref (Y 0), .long v, .int nn] : List Value).toArray below meth c H locs 0 0 Qm (F0 m 82 ls [])) → W p l e (rmX 2) s m ([.ref (Y 0), .long v, .int nn] : List Value).toArray below meth c H locs 0 0 Qm (F0 m 40 ls []) := by
        intro n
        induction n with
        | zero =>
          intro x4_40 m_taped_40 r_tape_40 H locs ls iv_40_0 iv_40_1 iv_40_2 iv_40_3 hP hD hS hl kont_40
          exfalso; omega
        | succ n ih_40 =>
          intro x4_40 m_taped_40 r_tape_40 H locs ls iv_40_0 iv_40_1 iv_40_2 iv_40_3 hP hD hS hl kont_40
          refine lv_iload hx hb dX11_feed_40 (lv_at hl 0 rfl) ?_
          refine lv_if_lt (tgt := 82) hx hb dX11_feed_42 (by decide) (fun c_5 => ?_) (fun c_5 => ?_)
          · have d_5 := i_lt rfl (show (0 : Int32).toInt = 0 from by decide) c_5
            exact kont_40 (x4_40, m_taped_40, r_tape_40) H locs ls (show lX11_feed_40 v (n + 1) x4_40 m_taped_40 r_tape_40 = (x4_40, m_taped_40, r_tape_40) from ((if_pos c_5).trans rfl)).symm  hP hD hS (lv_sub hl [1] rfl)
          · have d_5 := i_ltn rfl (show (0 : Int32).toInt = 0 from by decide) c_5
            refine lv_aload_n hx hb dX11_feed_45 rfl (lv_at hl 1 rfl) ?_
            refine va_get (D := D) (ci := 9) (v := .ref (Y 20)) (C := RX11) (T := TX11) (N := 35) hx hb hts iX11 hown hK hP 0 rfl rfl 20 (by decide) k43 (fun _ h9 => h9) rfl dX11_feed_46 ?_
            refine lv_aload_n hx hb dX11_feed_49 rfl (lv_at hl 1 rfl) ?_
            refine va_get (D := D) (ci := 9) (v := .int m_taped_40) (C := RX11) (T := TX11) (N := 35) hx hb hts iX11 hown hK hP 0 rfl rfl 21 (by decide) k85 (fun _ h9 => h9) rfl dX11_feed_50 ?_
            refine lv_lload_n hx hb dX11_feed_53 rfl (lv_at hl 2 rfl) ?_
            refine lv_bipush (v := 8) hx hb dX11_feed_54 (by decide) ?_
            refine lv_iload hx hb dX11_feed_56 (lv_at hl 0 rfl) ?_
            refine lv_imul hx hb dX11_feed_58 ?_
            refine lv_lshr (v := v >>> ((8 * x4_40).toInt64 &&& 63)) hx hb dX11_feed_59 rfl ?_
            refine lv_ldc2 (v := 255) hx hb hown k89 dX11_feed_60 ?_
            refine lv_land hx hb dX11_feed_63 ?_
            refine lv_l2i (v := ((v >>> ((8 * x4_40).toInt64 &&& 63)) &&& 255).toInt32) hx hb dX11_feed_64 rfl ?_
            refine lv_topi (fun x_6 ex_6 => ?_)
            have q_7 : vp_in m_taped_40 400 := vp_in_iff.mpr ⟨by omega, by omega⟩
            refine va_iast hx hb hK hP hD hS 12 0 rfl rfl q_7 dX11_feed_65 (fun H locs hP hD hS => ?_)
            obtain ⟨ar_8, ear_8⟩ : ∃ z : Nat → Int32, z = upd r_tape_40 m_taped_40.toNatClampNeg x_6 := ⟨_, rfl⟩
            have hP : va_P D vwCl (mdW Y cI 0 m_status m_isThere m_kinds m_newKinds m_print m_low m_high m_lot m_taped_40 m_latest m_length m_cursor m_token m_from m_till m_fault m_faultAt m_traced r_lane r_many r_item r_market r_of r_newMarket r_newStart r_newOf r_newCoin r_state r_kept (upd r_tape_40 m_taped_40.toNatClampNeg x_6) r_brings r_seen r_seenOut r_trace ++ R) H := hP
            have hD : va_D A (mdW Y cI 0 m_status m_isThere m_kinds m_newKinds m_print m_low m_high m_lot m_taped_40 m_latest m_length m_cursor m_token m_from m_till m_fault m_faultAt m_traced r_lane r_many r_item r_market r_of r_newMarket r_newStart r_newOf r_newCoin r_state r_kept (upd r_tape_40 m_taped_40.toNatClampNeg x_6) r_brings r_seen r_seenOut r_trace ++ R) := hD
            rw [← ear_8] at hP hD
            have hP : va_P D vwCl (mdW Y cI 0 m_status m_isThere m_kinds m_newKinds m_print m_low m_high m_lot m_taped_40 m_latest m_length m_cursor m_token m_from m_till m_fault m_faultAt m_traced r_lane r_many r_item r_market r_of r_newMarket r_newStart r_newOf r_newCoin r_state r_kept ar_8 r_brings r_seen r_seenOut r_trace ++ R) H := hP
            have hD : va_D A (mdW Y cI 0 m_status m_isThere m_kinds m_newKinds m_print m_low m_high m_lot m_taped_40 m_latest m_length m_cursor m_token m_from m_till m_fault m_faultAt m_traced r_lane r_many r_item r_market r_of r_newMarket r_newStart r_newOf r_newCoin r_state r_kept ar_8 r_brings r_seen r_seenOut r_trace ++ R) := hD
            refine lv_aload_n hx hb dX11_feed_66 rfl (lv_at hl 1 rfl) ?_
            refine lv_dup hx hb dX11_feed_67 rfl ?_
            refine va_get (D := D) (ci := 9) (v := .int m_taped_40) (C := RX11) (T := TX11) (N := 35) hx hb hts iX11 hown hK hP 0 rfl rfl 21 (by decide) k85 (fun _ h9 => h9) rfl dX11_feed_68 ?_
            refine lv_iconst (v := 1) hx hb dX11_feed_71 (by decide) ?_
            refine lv_iadd hx hb dX11_feed_72 ?_
            refine va_put (D := D) (ci := 9) (v := .int (m_taped_40 + 1)) (ty := .int) (C := RX11) (T := TX11) (N := 35) hx hb hts iX11 tyX11 tyX11_ok nmX11 hown hK hP hD hS 0 rfl rfl 21 (by decide) k85 (fun _ h9 => h9) rfl (by decide +kernel) rfl rfl (Nat.le_of_ble_eq_true rfl) dX11_feed_73 (fun H locs hP hD hS => ?_)
            have hP : va_P D vwCl (mdW Y cI 0 m_status m_isThere m_kinds m_newKinds m_print m_low m_high m_lot (m_taped_40 + 1) m_latest m_length m_cursor m_token m_from m_till m_fault m_faultAt m_traced r_lane r_many r_item r_market r_of r_newMarket r_newStart r_newOf r_newCoin r_state r_kept ar_8 r_brings r_seen r_seenOut r_trace ++ R) H := hP
            have hD : va_D A (mdW Y cI 0 m_status m_isThere m_kinds m_newKinds m_print m_low m_high m_lot (m_taped_40 + 1) m_latest m_length m_cursor m_token m_from m_till m_fault m_faultAt m_traced r_lane r_many r_item r_market r_of r_newMarket r_newStart r_newOf r_newCoin r_state r_kept ar_8 r_brings r_seen r_seenOut r_trace ++ R) := hD
            obtain ⟨x_9, ex_9⟩ : ∃ z : Int32, z = x4_40 + (-1) := ⟨_, rfl⟩
            refine lv_iinc (v := x_9) (lv' := [(4, .int x_9), (0, .ref (Y 0)), (1, .long v)]) hx hb dX11_feed_76 hl (k := 0) rfl (by rw [ex_9]; rfl) (by decide) rfl (fun ls hl => ?_)
            refine lv_goto (tgt := 40) hx hb dX11_feed_79 (by decide) ?_
            have tf_t : (m_taped_40 + 1).toInt = m_taped_40.toInt + 1 := i_addv rfl (show (1 : Int32).toInt = 1 from by decide) (by omega) (by omega)
            have tx_9 : x_9.toInt = x4_40.toInt + -1 := i_inc ex_9 (by decide) (by omega) (by omega)
            refine ih_40 x_9 (m_taped_40 + 1) ar_8 H locs ls (by omega) (by omega) (by omega) (by omega) hP hD hS (lv_sub hl [0, 1, 2] rfl) (fun u H locs ls eu  hP hD hS hl => ?_)
            exact kont_40 u H locs ls (eu.trans (show lX11_feed_40 v (n + 1) x4_40 m_taped_40 r_tape_40 = lX11_feed_40 v n x_9 (m_taped_40 + 1) ar_8 from ((if_neg c_5).trans (lt_eq ex_6 (lt_eq ear_8 (lt_eq ex_9 rfl))))).symm)  hP hD hS hl
      refine L_40 9 x_4 m_taped r_tape H locs ls (by have t := (show x_4.toInt = nn.toInt - 1 from by rw [ex_4]; exact i_subv rfl (show (1 : Int32).toInt = 1 from by decide) (by omega) (by omega)); omega) (by have t := (show x_4.toInt = nn.toInt - 1 from by rw [ex_4]; exact i_subv rfl (show (1 : Int32).toInt = 1 from by decide) (by omega) (by omega)); omega) (by have t := (show x_4.toInt = nn.toInt - 1 from by rw [ex_4]; exact i_subv rfl (show (1 : Int32).toInt = 1 from by decide) (by omega) (by omega)); omega) (by have t := (show x_4.toInt = nn.toInt - 1 from by rw [ex_4]; exact i_subv rfl (show (1 : Int32).toInt = 1 from by decide) (by omega) (by omega)); omega) hP hD hS (lv_sub hl [0, 1, 2] rfl) (fun u_10 H locs ls eu_10  hP hD hS hl => ?_)
      have hP : va_P D vwCl (mdW Y cI 0 m_status m_isThere m_kinds m_newKinds m_print m_low m_high m_lot u_10.2.1 m_latest m_length m_cursor m_token m_from m_till m_fault m_faultAt m_traced r_lane r_many r_item r_market r_of r_newMarket r_newStart r_newOf r_newCoin r_state r_kept u_10.2.2 r_brings r_seen r_seenOut r_trace ++ R) H := hP
      have hD : va_D A (mdW Y cI 0 m_status m_isThere m_kinds m_newKinds m_print m_low m_high m_lot u_10.2.1 m_latest m_length m_cursor m_token m_from m_till m_fault m_faultAt m_traced r_lane r_many r_item r_market r_of r_newMarket r_newStart r_newOf r_newCoin r_state r_kept u_10.2.2 r_brings r_seen r_seenOut r_trace ++ R) := hD
      refine lv_aload_n hx hb dX11_feed_82 rfl (lv_at hl 0 rfl) ?_
      refine va_get (D := D) (ci := 9) (v := .int u_10.2.1) (C := RX11) (T := TX11) (N := 35) hx hb hts iX11 hown hK hP 0 rfl rfl 21 (by decide) k85 (fun _ h9 => h9) rfl dX11_feed_83 ?_
      rw [hQm]
      exact mx_iret (u0 := sX11_feed v nn m_taped r_tape) (rv := (fun u => some (.int u.1))) (w1 := (fun u => mdW Y cI u.2.1 m_status m_isThere m_kinds m_newKinds m_print m_low m_high m_lot u.2.2.1 m_latest m_length m_cursor m_token m_from m_till m_fault m_faultAt m_traced r_lane r_many r_item r_market r_of r_newMarket r_newStart r_newOf r_newCoin r_state r_kept u.2.2.2 r_brings r_seen r_seenOut r_trace ++ R)) (u := (u_10.2.1, 0, u_10.2.1, u_10.2.2)) hx hb hr hlocks hK hS (lt_eq eu_1 ((if_neg c_2).trans ((if_pos c_3).trans (lt_eq ex_4 (lt_eq eu_10 rfl))))) hP hD rfl dX11_feed_86
    · have d_3 := i_len (i_addv rfl rfl (by omega) (by omega)) (show (400 : Int32).toInt = 400 from by decide) c_3
      refine lv_ldc (v := (-1000003)) hx hb hown k88 dX11_feed_32 ?_
      rw [hQm]
      exact mx_iret (u0 := sX11_feed v nn m_taped r_tape) (rv := (fun u => some (.int u.1))) (w1 := (fun u => mdW Y cI u.2.1 m_status m_isThere m_kinds m_newKinds m_print m_low m_high m_lot u.2.2.1 m_latest m_length m_cursor m_token m_from m_till m_fault m_faultAt m_traced r_lane r_many r_item r_market r_of r_newMarket r_newStart r_newOf r_newCoin r_state r_kept u.2.2.2 r_brings r_seen r_seenOut r_trace ++ R)) (u := ((-1000003), 0, m_taped, r_tape)) hx hb hr hlocks hK hS (lt_eq eu_1 ((if_neg c_2).trans ((if_neg c_3).trans rfl))) hP hD rfl dX11_feed_34
  · have d_2 := i_eq rfl (show (0 : Int32).toInt = 0 from by decide) c_2
    refine lv_ldc (v := (-1000001)) hx hb hown k78 dX11_feed_17 ?_
    rw [hQm]
    exact mx_iret (u0 := sX11_feed v nn m_taped r_tape) (rv := (fun u => some (.int u.1))) (w1 := (fun u => mdW Y cI u.2.1 m_status m_isThere m_kinds m_newKinds m_print m_low m_high m_lot u.2.2.1 m_latest m_length m_cursor m_token m_from m_till m_fault m_faultAt m_traced r_lane r_many r_item r_market r_of r_newMarket r_newStart r_newOf r_newCoin r_state r_kept u.2.2.2 r_brings r_seen r_seenOut r_trace ++ R)) (u := ((-1000001), 0, m_taped, r_tape)) hx hb hr hlocks hK hS (lt_eq eu_1 ((if_pos c_2).trans rfl)) hP hD rfl dX11_feed_19

def sX11_fault (m_latest : Int32) : Int32 × (Int32) := (m_latest, 0)
set_option maxHeartbeats 4000000 in
set_option maxRecDepth 100000 in
theorem mtX11_fault (l : Launch) (D : va_G) (cI cB cK cS : ClassId) (Y : Nat → Nat) (R : va_W) (m_thrown : Int32) (m_status : Int32) (m_isThere : Int32) (m_kinds : Int32) (m_newKinds : Int32) (m_print : Int32) (m_low : Int32) (m_high : Int32) (m_lot : Int32) (m_taped : Int32) (m_latest : Int32) (m_length : Int32) (m_cursor : Int32) (m_token : Int32) (m_from : Int32) (m_till : Int32) (m_fault : Int32) (m_faultAt : Int32) (m_traced : Int32) (r_lane : Nat → Int32) (r_many : Nat → Int32) (r_item : Nat → Int32) (r_market : Nat → Int32) (r_of : Nat → Int32) (r_newMarket : Nat → Int32) (r_newStart : Nat → Int32) (r_newOf : Nat → Int32) (r_newCoin : Nat → Int32) (r_state : Nat → Int32) (r_kept : Nat → Int32) (r_tape : Nat → Int32) (r_brings : Nat → Int32) (r_seen : Nat → Int32) (r_seenOut : Nat → Int32) (r_trace : Nat → Int32) : MX l yX11_fault wsX11_fault (rmX 1) D (tyX cI cB cK cS) pF0 (mdW Y cI m_thrown m_status m_isThere m_kinds m_newKinds m_print m_low m_high m_lot m_taped m_latest m_length m_cursor m_token m_from m_till m_fault m_faultAt m_traced r_lane r_many r_item r_market r_of r_newMarket r_newStart r_newOf r_newCoin r_state r_kept r_tape r_brings r_seen r_seenOut r_trace ++ R) [.ref (Y 0)] (sX11_fault m_latest) (fun u => some (.int u.1)) (fun u => mdW Y cI u.2 m_status m_isThere m_kinds m_newKinds m_print m_low m_high m_lot m_taped m_latest m_length m_cursor m_token m_from m_till m_fault m_faultAt m_traced r_lane r_many r_item r_market r_of r_newMarket r_newStart r_newOf r_newCoin r_state r_kept r_tape r_brings r_seen r_seenOut r_trace ++ R) := by
  refine mx_intro (cc := cX11_fault) (maxL := 1) (ret := (some .int)) (by decide) rfl (Nat.le_of_ble_eq_true rfl) ?_
  intro p e s m below meth c A ls H locs Qm hQm hx hb hr hml hts hown hlocks hA hS hP hK hD hF hl
  have hown : s.vm.findClass RX11 = some m.cls := hown
  have hl : lv_has ls 1 [(0, .ref (Y 0))] := hl
  have k58 := hts (.fieldLink RX11 58 "PigRoundsModel" "thrown" "I") (by decide +kernel)
  have k172 := hts (.fieldLink RX11 172 "PigRoundsModel" "latest" "I") (by decide +kernel)
  have iX11 : ∀ w ∈ u_ws RX11 TX11 35, w ∈ wsX11_fault := by decide +kernel
  refine lv_aload_n hx hb dX11_fault_0 rfl (lv_at hl 0 rfl) ?_
  refine lv_iconst (v := 0) hx hb dX11_fault_1 (by decide) ?_
  refine va_put (D := D) (ci := 9) (v := .int 0) (ty := .int) (C := RX11) (T := TX11) (N := 35) hx hb hts iX11 tyX11 tyX11_ok nmX11 hown hK hP hD hS 0 rfl rfl 0 (by decide) k58 (fun _ h9 => h9) rfl (by decide +kernel) rfl rfl (Nat.le_of_ble_eq_true rfl) dX11_fault_2 (fun H locs hP hD hS => ?_)
  have hP : va_P D vwCl (mdW Y cI 0 m_status m_isThere m_kinds m_newKinds m_print m_low m_high m_lot m_taped m_latest m_length m_cursor m_token m_from m_till m_fault m_faultAt m_traced r_lane r_many r_item r_market r_of r_newMarket r_newStart r_newOf r_newCoin r_state r_kept r_tape r_brings r_seen r_seenOut r_trace ++ R) H := hP
  have hD : va_D A (mdW Y cI 0 m_status m_isThere m_kinds m_newKinds m_print m_low m_high m_lot m_taped m_latest m_length m_cursor m_token m_from m_till m_fault m_faultAt m_traced r_lane r_many r_item r_market r_of r_newMarket r_newStart r_newOf r_newCoin r_state r_kept r_tape r_brings r_seen r_seenOut r_trace ++ R) := hD
  refine lv_aload_n hx hb dX11_fault_5 rfl (lv_at hl 0 rfl) ?_
  refine va_get (D := D) (ci := 9) (v := .int m_latest) (C := RX11) (T := TX11) (N := 35) hx hb hts iX11 hown hK hP 0 rfl rfl 22 (by decide) k172 (fun _ h9 => h9) rfl dX11_fault_6 ?_
  rw [hQm]
  exact mx_iret (u0 := sX11_fault m_latest) (rv := (fun u => some (.int u.1))) (w1 := (fun u => mdW Y cI u.2 m_status m_isThere m_kinds m_newKinds m_print m_low m_high m_lot m_taped m_latest m_length m_cursor m_token m_from m_till m_fault m_faultAt m_traced r_lane r_many r_item r_market r_of r_newMarket r_newStart r_newOf r_newCoin r_state r_kept r_tape r_brings r_seen r_seenOut r_trace ++ R)) (u := (m_latest, 0)) hx hb hr hlocks hK hS rfl hP hD rfl dX11_fault_9

def sX11_isOf (k : Int32) (a : Int32) : Int32 := if a = 0 then ((1)) else (if k = a then ((1)) else (if a = 1 then (lt (sX11_in k.toInt64 2 4) (fun u_10 : Int32 => if u_10 = 0 then (if a = 3 then (if k = 4 then ((1)) else (if a = 5 then (if k = 6 then ((1)) else ((0))) else ((0)))) else (if a = 5 then (if k = 6 then ((1)) else ((0))) else ((0)))) else ((1)))) else (if a = 3 then (if k = 4 then ((1)) else (if a = 5 then (if k = 6 then ((1)) else ((0))) else ((0)))) else (if a = 5 then (if k = 6 then ((1)) else ((0))) else ((0))))))
set_option maxHeartbeats 4000000 in
set_option maxRecDepth 100000 in
theorem mtX11_isOf (l : Launch) (D : va_G) (cI cB cK cS : ClassId) (ws : va_W)  (k : Int32) (a : Int32) : MX l yX11_isOf wsX11_isOf (rmX 2) D (tyX cI cB cK cS) pF0 (ws) [.int k, .int a] (sX11_isOf k a) (fun u => some (.int u)) (fun _ => ws) := by
  refine mx_intro (cc := cX11_isOf) (maxL := 2) (ret := (some .boolean)) (by decide) rfl (Nat.le_of_ble_eq_true rfl) ?_
  intro p e s m below meth c A ls H locs Qm hQm hx hb hr hml hts hown hlocks hA hS hP hK hD hF hl
  have hown : s.vm.findClass RX11 = some m.cls := hown
  have hl : lv_has ls 2 [(0, .int k), (1, .int a)] := hl
  have k76 := hts (.constantLong RX11 76 (2)) (by decide +kernel)
  have k271 := hts (.constantLong RX11 271 (4)) (by decide +kernel)
  refine lv_iload_n hx hb dX11_isOf_0 rfl (lv_at hl 1 rfl) ?_
  refine lv_if_eq (tgt := 49) hx hb dX11_isOf_1 (by decide) (fun c_1 => ?_) (fun c_1 => ?_)
  · refine lv_iconst (v := 1) hx hb dX11_isOf_49 (by decide) ?_
    refine lv_goto (tgt := 54) hx hb dX11_isOf_50 (by decide) ?_
    rw [hQm]
    exact mx_zret (u0 := sX11_isOf k a) (rv := (fun u => some (.int u))) (w1 := (fun _ => ws)) (u := (1)) hx hb hr hlocks hK hS ((if_pos c_1).trans rfl) hP hD rfl rfl dX11_isOf_54
  · refine lv_iload_n hx hb dX11_isOf_4 rfl (lv_at hl 0 rfl) ?_
    refine lv_iload_n hx hb dX11_isOf_5 rfl (lv_at hl 1 rfl) ?_
    refine lv_icmp_eq (tgt := 49) hx hb dX11_isOf_6 (by decide) (fun c_2 => ?_) (fun c_2 => ?_)
    · refine lv_iconst (v := 1) hx hb dX11_isOf_49 (by decide) ?_
      refine lv_goto (tgt := 54) hx hb dX11_isOf_50 (by decide) ?_
      rw [hQm]
      exact mx_zret (u0 := sX11_isOf k a) (rv := (fun u => some (.int u))) (w1 := (fun _ => ws)) (u := (1)) hx hb hr hlocks hK hS ((if_neg c_1).trans ((if_pos c_2).trans rfl)) hP hD rfl rfl dX11_isOf_54
    · refine lv_iload_n hx hb dX11_isOf_9 rfl (lv_at hl 1 rfl) ?_
      refine lv_iconst (v := 1) hx hb dX11_isOf_10 (by decide) ?_
      refine lv_icmp_ne (tgt := 28) hx hb dX11_isOf_11 (by decide) (fun c_3 => ?_) (fun c_3 => ?_)
      · refine lv_iload_n hx hb dX11_isOf_28 rfl (lv_at hl 1 rfl) ?_
        refine lv_iconst (v := 3) hx hb dX11_isOf_29 (by decide) ?_
        refine lv_icmp_ne (tgt := 38) hx hb dX11_isOf_30 (by decide) (fun c_4 => ?_) (fun c_4 => ?_)
        · refine lv_iload_n hx hb dX11_isOf_38 rfl (lv_at hl 1 rfl) ?_
          refine lv_iconst (v := 5) hx hb dX11_isOf_39 (by decide) ?_
          refine lv_icmp_ne (tgt := 53) hx hb dX11_isOf_40 (by decide) (fun c_5 => ?_) (fun c_5 => ?_)
          · refine lv_iconst (v := 0) hx hb dX11_isOf_53 (by decide) ?_
            rw [hQm]
            exact mx_zret (u0 := sX11_isOf k a) (rv := (fun u => some (.int u))) (w1 := (fun _ => ws)) (u := (0)) hx hb hr hlocks hK hS ((if_neg c_1).trans ((if_neg c_2).trans ((if_neg c_3).trans ((if_neg c_4).trans ((if_neg c_5).trans rfl))))) hP hD rfl rfl dX11_isOf_54
          · refine lv_iload_n hx hb dX11_isOf_43 rfl (lv_at hl 0 rfl) ?_
            refine lv_bipush (v := 6) hx hb dX11_isOf_44 (by decide) ?_
            refine lv_icmp_ne (tgt := 53) hx hb dX11_isOf_46 (by decide) (fun c_6 => ?_) (fun c_6 => ?_)
            · refine lv_iconst (v := 0) hx hb dX11_isOf_53 (by decide) ?_
              rw [hQm]
              exact mx_zret (u0 := sX11_isOf k a) (rv := (fun u => some (.int u))) (w1 := (fun _ => ws)) (u := (0)) hx hb hr hlocks hK hS ((if_neg c_1).trans ((if_neg c_2).trans ((if_neg c_3).trans ((if_neg c_4).trans ((if_pos c_5).trans ((if_neg c_6).trans rfl)))))) hP hD rfl rfl dX11_isOf_54
            · refine lv_iconst (v := 1) hx hb dX11_isOf_49 (by decide) ?_
              refine lv_goto (tgt := 54) hx hb dX11_isOf_50 (by decide) ?_
              rw [hQm]
              exact mx_zret (u0 := sX11_isOf k a) (rv := (fun u => some (.int u))) (w1 := (fun _ => ws)) (u := (1)) hx hb hr hlocks hK hS ((if_neg c_1).trans ((if_neg c_2).trans ((if_neg c_3).trans ((if_neg c_4).trans ((if_pos c_5).trans ((if_pos c_6).trans rfl)))))) hP hD rfl rfl dX11_isOf_54
        · refine lv_iload_n hx hb dX11_isOf_33 rfl (lv_at hl 0 rfl) ?_
          refine lv_iconst (v := 4) hx hb dX11_isOf_34 (by decide) ?_
          refine lv_icmp_eq (tgt := 49) hx hb dX11_isOf_35 (by decide) (fun c_7 => ?_) (fun c_7 => ?_)
          · refine lv_iconst (v := 1) hx hb dX11_isOf_49 (by decide) ?_
            refine lv_goto (tgt := 54) hx hb dX11_isOf_50 (by decide) ?_
            rw [hQm]
            exact mx_zret (u0 := sX11_isOf k a) (rv := (fun u => some (.int u))) (w1 := (fun _ => ws)) (u := (1)) hx hb hr hlocks hK hS ((if_neg c_1).trans ((if_neg c_2).trans ((if_neg c_3).trans ((if_pos c_4).trans ((if_pos c_7).trans rfl))))) hP hD rfl rfl dX11_isOf_54
          · refine lv_iload_n hx hb dX11_isOf_38 rfl (lv_at hl 1 rfl) ?_
            refine lv_iconst (v := 5) hx hb dX11_isOf_39 (by decide) ?_
            refine lv_icmp_ne (tgt := 53) hx hb dX11_isOf_40 (by decide) (fun c_8 => ?_) (fun c_8 => ?_)
            · refine lv_iconst (v := 0) hx hb dX11_isOf_53 (by decide) ?_
              rw [hQm]
              exact mx_zret (u0 := sX11_isOf k a) (rv := (fun u => some (.int u))) (w1 := (fun _ => ws)) (u := (0)) hx hb hr hlocks hK hS ((if_neg c_1).trans ((if_neg c_2).trans ((if_neg c_3).trans ((if_pos c_4).trans ((if_neg c_7).trans ((if_neg c_8).trans rfl)))))) hP hD rfl rfl dX11_isOf_54
            · refine lv_iload_n hx hb dX11_isOf_43 rfl (lv_at hl 0 rfl) ?_
              refine lv_bipush (v := 6) hx hb dX11_isOf_44 (by decide) ?_
              refine lv_icmp_ne (tgt := 53) hx hb dX11_isOf_46 (by decide) (fun c_9 => ?_) (fun c_9 => ?_)
              · refine lv_iconst (v := 0) hx hb dX11_isOf_53 (by decide) ?_
                rw [hQm]
                exact mx_zret (u0 := sX11_isOf k a) (rv := (fun u => some (.int u))) (w1 := (fun _ => ws)) (u := (0)) hx hb hr hlocks hK hS ((if_neg c_1).trans ((if_neg c_2).trans ((if_neg c_3).trans ((if_pos c_4).trans ((if_neg c_7).trans ((if_pos c_8).trans ((if_neg c_9).trans rfl))))))) hP hD rfl rfl dX11_isOf_54
              · refine lv_iconst (v := 1) hx hb dX11_isOf_49 (by decide) ?_
                refine lv_goto (tgt := 54) hx hb dX11_isOf_50 (by decide) ?_
                rw [hQm]
                exact mx_zret (u0 := sX11_isOf k a) (rv := (fun u => some (.int u))) (w1 := (fun _ => ws)) (u := (1)) hx hb hr hlocks hK hS ((if_neg c_1).trans ((if_neg c_2).trans ((if_neg c_3).trans ((if_pos c_4).trans ((if_neg c_7).trans ((if_pos c_8).trans ((if_pos c_9).trans rfl))))))) hP hD rfl rfl dX11_isOf_54
      · refine lv_iload_n hx hb dX11_isOf_14 rfl (lv_at hl 0 rfl) ?_
        refine lv_i2l (v := k.toInt64) hx hb dX11_isOf_15 rfl ?_
        refine lv_ldc2 (v := 2) hx hb hown k76 dX11_isOf_16 ?_
        refine lv_ldc2 (v := 4) hx hb hown k271 dX11_isOf_19 ?_
        refine mx_callS (As := [.long k.toInt64, .long 2, .long 4]) (rest := []) ⟨hx, hb, hml, hown, hts⟩ (mtX11_in l D cI cB cK cS (ws) k.toInt64 2 4) (va_cwS 3 hts gX11_isOf_X11_in rfl rfl rfl (by decide +kernel) ⟨Nat.le_of_ble_eq_true rfl, Nat.le_of_ble_eq_true rfl⟩) pF0_ok trivial hK hP hD hS hA rfl hl.1 rfl (Nat.le_of_ble_eq_true rfl) dX11_isOf_22 ⟨Nat.le_refl _, Nat.le_refl _⟩ (fun u_10 H locs eu_10 hP hD hS => ?_)
        refine W.eq (g2 := F0 m 25 ls [.int u_10]) rfl ?_
        have hP : va_P D vwCl (ws) H := hP
        have hD : va_D A (ws) := hD
        refine lv_if_ne (tgt := 49) hx hb dX11_isOf_25 (by decide) (fun c_11 => ?_) (fun c_11 => ?_)
        · have dt_11 := sX11_in_t ((Int32.toInt_toInt64 _).trans rfl) (show (2 : Int64).toInt = 2 from by decide) (show (4 : Int64).toInt = 4 from by decide) eu_10 c_11
          refine lv_iconst (v := 1) hx hb dX11_isOf_49 (by decide) ?_
          refine lv_goto (tgt := 54) hx hb dX11_isOf_50 (by decide) ?_
          rw [hQm]
          exact mx_zret (u0 := sX11_isOf k a) (rv := (fun u => some (.int u))) (w1 := (fun _ => ws)) (u := (1)) hx hb hr hlocks hK hS ((if_neg c_1).trans ((if_neg c_2).trans ((if_pos c_3).trans (lt_eq eu_10 ((if_neg c_11).trans rfl))))) hP hD rfl rfl dX11_isOf_54
        · refine lv_iload_n hx hb dX11_isOf_28 rfl (lv_at hl 1 rfl) ?_
          refine lv_iconst (v := 3) hx hb dX11_isOf_29 (by decide) ?_
          refine lv_icmp_ne (tgt := 38) hx hb dX11_isOf_30 (by decide) (fun c_12 => ?_) (fun c_12 => ?_)
          · refine lv_iload_n hx hb dX11_isOf_38 rfl (lv_at hl 1 rfl) ?_
            refine lv_iconst (v := 5) hx hb dX11_isOf_39 (by decide) ?_
            refine lv_icmp_ne (tgt := 53) hx hb dX11_isOf_40 (by decide) (fun c_13 => ?_) (fun c_13 => ?_)
            · refine lv_iconst (v := 0) hx hb dX11_isOf_53 (by decide) ?_
              rw [hQm]
              exact mx_zret (u0 := sX11_isOf k a) (rv := (fun u => some (.int u))) (w1 := (fun _ => ws)) (u := (0)) hx hb hr hlocks hK hS ((if_neg c_1).trans ((if_neg c_2).trans ((if_pos c_3).trans (lt_eq eu_10 ((if_pos c_11).trans ((if_neg c_12).trans ((if_neg c_13).trans rfl))))))) hP hD rfl rfl dX11_isOf_54
            · refine lv_iload_n hx hb dX11_isOf_43 rfl (lv_at hl 0 rfl) ?_
              refine lv_bipush (v := 6) hx hb dX11_isOf_44 (by decide) ?_
              refine lv_icmp_ne (tgt := 53) hx hb dX11_isOf_46 (by decide) (fun c_14 => ?_) (fun c_14 => ?_)
              · refine lv_iconst (v := 0) hx hb dX11_isOf_53 (by decide) ?_
                rw [hQm]
                exact mx_zret (u0 := sX11_isOf k a) (rv := (fun u => some (.int u))) (w1 := (fun _ => ws)) (u := (0)) hx hb hr hlocks hK hS ((if_neg c_1).trans ((if_neg c_2).trans ((if_pos c_3).trans (lt_eq eu_10 ((if_pos c_11).trans ((if_neg c_12).trans ((if_pos c_13).trans ((if_neg c_14).trans rfl)))))))) hP hD rfl rfl dX11_isOf_54
              · refine lv_iconst (v := 1) hx hb dX11_isOf_49 (by decide) ?_
                refine lv_goto (tgt := 54) hx hb dX11_isOf_50 (by decide) ?_
                rw [hQm]
                exact mx_zret (u0 := sX11_isOf k a) (rv := (fun u => some (.int u))) (w1 := (fun _ => ws)) (u := (1)) hx hb hr hlocks hK hS ((if_neg c_1).trans ((if_neg c_2).trans ((if_pos c_3).trans (lt_eq eu_10 ((if_pos c_11).trans ((if_neg c_12).trans ((if_pos c_13).trans ((if_pos c_14).trans rfl)))))))) hP hD rfl rfl dX11_isOf_54
          · refine lv_iload_n hx hb dX11_isOf_33 rfl (lv_at hl 0 rfl) ?_
            refine lv_iconst (v := 4) hx hb dX11_isOf_34 (by decide) ?_
            refine lv_icmp_eq (tgt := 49) hx hb dX11_isOf_35 (by decide) (fun c_15 => ?_) (fun c_15 => ?_)
            · refine lv_iconst (v := 1) hx hb dX11_isOf_49 (by decide) ?_
              refine lv_goto (tgt := 54) hx hb dX11_isOf_50 (by decide) ?_
              rw [hQm]
              exact mx_zret (u0 := sX11_isOf k a) (rv := (fun u => some (.int u))) (w1 := (fun _ => ws)) (u := (1)) hx hb hr hlocks hK hS ((if_neg c_1).trans ((if_neg c_2).trans ((if_pos c_3).trans (lt_eq eu_10 ((if_pos c_11).trans ((if_pos c_12).trans ((if_pos c_15).trans rfl))))))) hP hD rfl rfl dX11_isOf_54
            · refine lv_iload_n hx hb dX11_isOf_38 rfl (lv_at hl 1 rfl) ?_
              refine lv_iconst (v := 5) hx hb dX11_isOf_39 (by decide) ?_
              refine lv_icmp_ne (tgt := 53) hx hb dX11_isOf_40 (by decide) (fun c_16 => ?_) (fun c_16 => ?_)
              · refine lv_iconst (v := 0) hx hb dX11_isOf_53 (by decide) ?_
                rw [hQm]
                exact mx_zret (u0 := sX11_isOf k a) (rv := (fun u => some (.int u))) (w1 := (fun _ => ws)) (u := (0)) hx hb hr hlocks hK hS ((if_neg c_1).trans ((if_neg c_2).trans ((if_pos c_3).trans (lt_eq eu_10 ((if_pos c_11).trans ((if_pos c_12).trans ((if_neg c_15).trans ((if_neg c_16).trans rfl)))))))) hP hD rfl rfl dX11_isOf_54
              · refine lv_iload_n hx hb dX11_isOf_43 rfl (lv_at hl 0 rfl) ?_
                refine lv_bipush (v := 6) hx hb dX11_isOf_44 (by decide) ?_
                refine lv_icmp_ne (tgt := 53) hx hb dX11_isOf_46 (by decide) (fun c_17 => ?_) (fun c_17 => ?_)
                · refine lv_iconst (v := 0) hx hb dX11_isOf_53 (by decide) ?_
                  rw [hQm]
                  exact mx_zret (u0 := sX11_isOf k a) (rv := (fun u => some (.int u))) (w1 := (fun _ => ws)) (u := (0)) hx hb hr hlocks hK hS ((if_neg c_1).trans ((if_neg c_2).trans ((if_pos c_3).trans (lt_eq eu_10 ((if_pos c_11).trans ((if_pos c_12).trans ((if_neg c_15).trans ((if_pos c_16).trans ((if_neg c_17).trans rfl))))))))) hP hD rfl rfl dX11_isOf_54
                · refine lv_iconst (v := 1) hx hb dX11_isOf_49 (by decide) ?_
                  refine lv_goto (tgt := 54) hx hb dX11_isOf_50 (by decide) ?_
                  rw [hQm]
                  exact mx_zret (u0 := sX11_isOf k a) (rv := (fun u => some (.int u))) (w1 := (fun _ => ws)) (u := (1)) hx hb hr hlocks hK hS ((if_neg c_1).trans ((if_neg c_2).trans ((if_pos c_3).trans (lt_eq eu_10 ((if_pos c_11).trans ((if_pos c_12).trans ((if_neg c_15).trans ((if_pos c_16).trans ((if_pos c_17).trans rfl))))))))) hP hD rfl rfl dX11_isOf_54

def sX11_kind (k : Int32) (m_kinds : Int32) (r_of : Nat → Int32) : Int32 × (Int32) := lt (sX11_isKind k m_kinds) (fun u_1 : Int32 => if u_1 = 0 then (((-1000001), 0)) else (lt (sX11_told k 0 r_of) (fun u_3 : Int32 => (u_3, 0))))
set_option maxHeartbeats 4000000 in
set_option maxRecDepth 100000 in
theorem mtX11_kind (l : Launch) (D : va_G) (cI cB cK cS : ClassId) (Y : Nat → Nat) (R : va_W) (m_thrown : Int32) (m_status : Int32) (m_isThere : Int32) (m_kinds : Int32) (m_newKinds : Int32) (m_print : Int32) (m_low : Int32) (m_high : Int32) (m_lot : Int32) (m_taped : Int32) (m_latest : Int32) (m_length : Int32) (m_cursor : Int32) (m_token : Int32) (m_from : Int32) (m_till : Int32) (m_fault : Int32) (m_faultAt : Int32) (m_traced : Int32) (r_lane : Nat → Int32) (r_many : Nat → Int32) (r_item : Nat → Int32) (r_market : Nat → Int32) (r_of : Nat → Int32) (r_newMarket : Nat → Int32) (r_newStart : Nat → Int32) (r_newOf : Nat → Int32) (r_newCoin : Nat → Int32) (r_state : Nat → Int32) (r_kept : Nat → Int32) (r_tape : Nat → Int32) (r_brings : Nat → Int32) (r_seen : Nat → Int32) (r_seenOut : Nat → Int32) (r_trace : Nat → Int32) (k : Int32) (hkd0 : 0 ≤ m_kinds.toInt) (hkd : m_kinds.toInt ≤ 5) : MX l yX11_kind wsX11_kind (rmX 3) D (tyX cI cB cK cS) pF0 (mdW Y cI m_thrown m_status m_isThere m_kinds m_newKinds m_print m_low m_high m_lot m_taped m_latest m_length m_cursor m_token m_from m_till m_fault m_faultAt m_traced r_lane r_many r_item r_market r_of r_newMarket r_newStart r_newOf r_newCoin r_state r_kept r_tape r_brings r_seen r_seenOut r_trace ++ R) [.ref (Y 0), .int k] (sX11_kind k m_kinds r_of) (fun u => some (.int u.1)) (fun u => mdW Y cI u.2 m_status m_isThere m_kinds m_newKinds m_print m_low m_high m_lot m_taped m_latest m_length m_cursor m_token m_from m_till m_fault m_faultAt m_traced r_lane r_many r_item r_market r_of r_newMarket r_newStart r_newOf r_newCoin r_state r_kept r_tape r_brings r_seen r_seenOut r_trace ++ R) := by
  refine mx_intro (cc := cX11_kind) (maxL := 2) (ret := (some .int)) (by decide) rfl (Nat.le_of_ble_eq_true rfl) ?_
  intro p e s m below meth c A ls H locs Qm hQm hx hb hr hml hts hown hlocks hA hS hP hK hD hF hl
  have hown : s.vm.findClass RX11 = some m.cls := hown
  have hl : lv_has ls 2 [(0, .ref (Y 0)), (1, .int k)] := hl
  have k58 := hts (.fieldLink RX11 58 "PigRoundsModel" "thrown" "I") (by decide +kernel)
  have k78 := hts (.constant RX11 78 (-1000001)) (by decide +kernel)
  have iX11 : ∀ w ∈ u_ws RX11 TX11 35, w ∈ wsX11_kind := by decide +kernel
  refine lv_aload_n hx hb dX11_kind_0 rfl (lv_at hl 0 rfl) ?_
  refine lv_iconst (v := 0) hx hb dX11_kind_1 (by decide) ?_
  refine va_put (D := D) (ci := 9) (v := .int 0) (ty := .int) (C := RX11) (T := TX11) (N := 35) hx hb hts iX11 tyX11 tyX11_ok nmX11 hown hK hP hD hS 0 rfl rfl 0 (by decide) k58 (fun _ h9 => h9) rfl (by decide +kernel) rfl rfl (Nat.le_of_ble_eq_true rfl) dX11_kind_2 (fun H locs hP hD hS => ?_)
  have hP : va_P D vwCl (mdW Y cI 0 m_status m_isThere m_kinds m_newKinds m_print m_low m_high m_lot m_taped m_latest m_length m_cursor m_token m_from m_till m_fault m_faultAt m_traced r_lane r_many r_item r_market r_of r_newMarket r_newStart r_newOf r_newCoin r_state r_kept r_tape r_brings r_seen r_seenOut r_trace ++ R) H := hP
  have hD : va_D A (mdW Y cI 0 m_status m_isThere m_kinds m_newKinds m_print m_low m_high m_lot m_taped m_latest m_length m_cursor m_token m_from m_till m_fault m_faultAt m_traced r_lane r_many r_item r_market r_of r_newMarket r_newStart r_newOf r_newCoin r_state r_kept r_tape r_brings r_seen r_seenOut r_trace ++ R) := hD
  refine lv_aload_n hx hb dX11_kind_5 rfl (lv_at hl 0 rfl) ?_
  refine lv_iload_n hx hb dX11_kind_6 rfl (lv_at hl 1 rfl) ?_
  refine mx_callV (As := [.int k]) (rest := []) ⟨hx, hb, hml, hown, hts⟩ (mtX11_isKind l D cI cB cK cS Y R 0 m_status m_isThere m_kinds m_newKinds m_print m_low m_high m_lot m_taped m_latest m_length m_cursor m_token m_from m_till m_fault m_faultAt m_traced r_lane r_many r_item r_market r_of r_newMarket r_newStart r_newOf r_newCoin r_state r_kept r_tape r_brings r_seen r_seenOut r_trace k) (cwV 1 hts gX11_kind_X11_isKind rfl rfl rfl (by decide +kernel) ⟨Nat.le_of_ble_eq_true rfl, Nat.le_of_ble_eq_true rfl⟩) pF0_ok trivial hK hP hD hS hA 0 rfl rfl rfl rfl hl.1 rfl (Nat.le_of_ble_eq_true rfl) dX11_kind_7 ⟨Nat.le_refl _, Nat.le_refl _⟩ (fun u_1 H locs eu_1 hP hD hS => ?_)
  refine W.eq (g2 := F0 m 10 ls [.int u_1]) rfl ?_
  have hP : va_P D vwCl (mdW Y cI 0 m_status m_isThere m_kinds m_newKinds m_print m_low m_high m_lot m_taped m_latest m_length m_cursor m_token m_from m_till m_fault m_faultAt m_traced r_lane r_many r_item r_market r_of r_newMarket r_newStart r_newOf r_newCoin r_state r_kept r_tape r_brings r_seen r_seenOut r_trace ++ R) H := hP
  have hD : va_D A (mdW Y cI 0 m_status m_isThere m_kinds m_newKinds m_print m_low m_high m_lot m_taped m_latest m_length m_cursor m_token m_from m_till m_fault m_faultAt m_traced r_lane r_many r_item r_market r_of r_newMarket r_newStart r_newOf r_newCoin r_state r_kept r_tape r_brings r_seen r_seenOut r_trace ++ R) := hD
  refine lv_if_eq (tgt := 22) hx hb dX11_kind_10 (by decide) (fun c_2 => ?_) (fun c_2 => ?_)
  · have d_2 := i_eq rfl (show (0 : Int32).toInt = 0 from by decide) c_2
    refine lv_ldc (v := (-1000001)) hx hb hown k78 dX11_kind_22 ?_
    rw [hQm]
    exact mx_iret (u0 := sX11_kind k m_kinds r_of) (rv := (fun u => some (.int u.1))) (w1 := (fun u => mdW Y cI u.2 m_status m_isThere m_kinds m_newKinds m_print m_low m_high m_lot m_taped m_latest m_length m_cursor m_token m_from m_till m_fault m_faultAt m_traced r_lane r_many r_item r_market r_of r_newMarket r_newStart r_newOf r_newCoin r_state r_kept r_tape r_brings r_seen r_seenOut r_trace ++ R)) (u := ((-1000001), 0)) hx hb hr hlocks hK hS (lt_eq eu_1 ((if_pos c_2).trans rfl)) hP hD rfl dX11_kind_24
  · have d_2 := i_eqn rfl (show (0 : Int32).toInt = 0 from by decide) c_2
    have dt_2 := sX11_isKind_t hkd0 eu_1 c_2
    refine lv_aload_n hx hb dX11_kind_13 rfl (lv_at hl 0 rfl) ?_
    refine lv_iload_n hx hb dX11_kind_14 rfl (lv_at hl 1 rfl) ?_
    refine lv_iconst (v := 0) hx hb dX11_kind_15 (by decide) ?_
    refine mx_callV (As := [.int k, .int 0]) (rest := []) ⟨hx, hb, hml, hown, hts⟩ (mtX11_told l D cI cB cK cS Y R 0 m_status m_isThere m_kinds m_newKinds m_print m_low m_high m_lot m_taped m_latest m_length m_cursor m_token m_from m_till m_fault m_faultAt m_traced r_lane r_many r_item r_market r_of r_newMarket r_newStart r_newOf r_newCoin r_state r_kept r_tape r_brings r_seen r_seenOut r_trace k 0 (vp_in_iff.mpr (by rw [show (6 * k + 0).toInt = ((6 * k.toInt) + 0) from (i_addv (i_mulv (show (6 : Int32).toInt = 6 from by decide) rfl (by omega) (by omega)) (show (0 : Int32).toInt = 0 from by decide) (by omega) (by omega))]; constructor <;> omega))) (cwV 2 hts gX11_kind_X11_told rfl rfl rfl (by decide +kernel) ⟨Nat.le_of_ble_eq_true rfl, Nat.le_of_ble_eq_true rfl⟩) pF0_ok trivial hK hP hD hS hA 0 rfl rfl rfl rfl hl.1 rfl (Nat.le_of_ble_eq_true rfl) dX11_kind_16 ⟨Nat.le_refl _, Nat.le_refl _⟩ (fun u_3 H locs eu_3 hP hD hS => ?_)
    refine W.eq (g2 := F0 m 19 ls [.int u_3]) rfl ?_
    have hP : va_P D vwCl (mdW Y cI 0 m_status m_isThere m_kinds m_newKinds m_print m_low m_high m_lot m_taped m_latest m_length m_cursor m_token m_from m_till m_fault m_faultAt m_traced r_lane r_many r_item r_market r_of r_newMarket r_newStart r_newOf r_newCoin r_state r_kept r_tape r_brings r_seen r_seenOut r_trace ++ R) H := hP
    have hD : va_D A (mdW Y cI 0 m_status m_isThere m_kinds m_newKinds m_print m_low m_high m_lot m_taped m_latest m_length m_cursor m_token m_from m_till m_fault m_faultAt m_traced r_lane r_many r_item r_market r_of r_newMarket r_newStart r_newOf r_newCoin r_state r_kept r_tape r_brings r_seen r_seenOut r_trace ++ R) := hD
    refine lv_goto (tgt := 24) hx hb dX11_kind_19 (by decide) ?_
    rw [hQm]
    exact mx_iret (u0 := sX11_kind k m_kinds r_of) (rv := (fun u => some (.int u.1))) (w1 := (fun u => mdW Y cI u.2 m_status m_isThere m_kinds m_newKinds m_print m_low m_high m_lot m_taped m_latest m_length m_cursor m_token m_from m_till m_fault m_faultAt m_traced r_lane r_many r_item r_market r_of r_newMarket r_newStart r_newOf r_newCoin r_state r_kept r_tape r_brings r_seen r_seenOut r_trace ++ R)) (u := (u_3, 0)) hx hb hr hlocks hK hS (lt_eq eu_1 ((if_neg c_2).trans (lt_eq eu_3 rfl))) hP hD rfl dX11_kind_24

def sX11_as (k : Int32) (a : Int32) (m_status : Int32) (m_kinds : Int32) (r_of : Nat → Int32) : Int32 × (Int32) × (Int32) := lt (sX11_isKind k m_kinds) (fun u_1 : Int32 => if u_1 = 0 then (((-1000001), 0, m_status)) else (lt (sX11_in a.toInt64 0 6) (fun u_3 : Int32 => if u_3 = 0 then (((-1000001), 0, m_status)) else (lt (sX11_told k 0 r_of) (fun u_5 : Int32 => lt (sX11_isOf u_5 a) (fun u_6 : Int32 => if u_6 = 0 then (lt (sX11_finding 3) (fun u_8 : Int32 × (Int32) => (u_8.1, 0, u_8.2))) else (lt (sX11_told k 2 r_of) (fun u_9 : Int32 => (u_9, 0, 0)))))))))
set_option maxHeartbeats 4000000 in
set_option maxRecDepth 100000 in
theorem mtX11_as (l : Launch) (D : va_G) (cI cB cK cS : ClassId) (Y : Nat → Nat) (R : va_W) (m_thrown : Int32) (m_status : Int32) (m_isThere : Int32) (m_kinds : Int32) (m_newKinds : Int32) (m_print : Int32) (m_low : Int32) (m_high : Int32) (m_lot : Int32) (m_taped : Int32) (m_latest : Int32) (m_length : Int32) (m_cursor : Int32) (m_token : Int32) (m_from : Int32) (m_till : Int32) (m_fault : Int32) (m_faultAt : Int32) (m_traced : Int32) (r_lane : Nat → Int32) (r_many : Nat → Int32) (r_item : Nat → Int32) (r_market : Nat → Int32) (r_of : Nat → Int32) (r_newMarket : Nat → Int32) (r_newStart : Nat → Int32) (r_newOf : Nat → Int32) (r_newCoin : Nat → Int32) (r_state : Nat → Int32) (r_kept : Nat → Int32) (r_tape : Nat → Int32) (r_brings : Nat → Int32) (r_seen : Nat → Int32) (r_seenOut : Nat → Int32) (r_trace : Nat → Int32) (k : Int32) (a : Int32) (hkd0 : 0 ≤ m_kinds.toInt) (hkd : m_kinds.toInt ≤ 5) : MX l yX11_as wsX11_as (rmX 3) D (tyX cI cB cK cS) pF0 (mdW Y cI m_thrown m_status m_isThere m_kinds m_newKinds m_print m_low m_high m_lot m_taped m_latest m_length m_cursor m_token m_from m_till m_fault m_faultAt m_traced r_lane r_many r_item r_market r_of r_newMarket r_newStart r_newOf r_newCoin r_state r_kept r_tape r_brings r_seen r_seenOut r_trace ++ R) [.ref (Y 0), .int k, .int a] (sX11_as k a m_status m_kinds r_of) (fun u => some (.int u.1)) (fun u => mdW Y cI u.2.1 u.2.2 m_isThere m_kinds m_newKinds m_print m_low m_high m_lot m_taped m_latest m_length m_cursor m_token m_from m_till m_fault m_faultAt m_traced r_lane r_many r_item r_market r_of r_newMarket r_newStart r_newOf r_newCoin r_state r_kept r_tape r_brings r_seen r_seenOut r_trace ++ R) := by
  refine mx_intro (cc := cX11_as) (maxL := 3) (ret := (some .int)) (by decide) rfl (Nat.le_of_ble_eq_true rfl) ?_
  intro p e s m below meth c A ls H locs Qm hQm hx hb hr hml hts hown hlocks hA hS hP hK hD hF hl
  have hown : s.vm.findClass RX11 = some m.cls := hown
  have hl : lv_has ls 3 [(0, .ref (Y 0)), (1, .int k), (2, .int a)] := hl
  have k58 := hts (.fieldLink RX11 58 "PigRoundsModel" "thrown" "I") (by decide +kernel)
  have k78 := hts (.constant RX11 78 (-1000001)) (by decide +kernel)
  have k237 := hts (.constantLong RX11 237 (6)) (by decide +kernel)
  have k62 := hts (.fieldLink RX11 62 "PigRoundsModel" "status" "I") (by decide +kernel)
  have iX11 : ∀ w ∈ u_ws RX11 TX11 35, w ∈ wsX11_as := by decide +kernel
  refine lv_aload_n hx hb dX11_as_0 rfl (lv_at hl 0 rfl) ?_
  refine lv_iconst (v := 0) hx hb dX11_as_1 (by decide) ?_
  refine va_put (D := D) (ci := 9) (v := .int 0) (ty := .int) (C := RX11) (T := TX11) (N := 35) hx hb hts iX11 tyX11 tyX11_ok nmX11 hown hK hP hD hS 0 rfl rfl 0 (by decide) k58 (fun _ h9 => h9) rfl (by decide +kernel) rfl rfl (Nat.le_of_ble_eq_true rfl) dX11_as_2 (fun H locs hP hD hS => ?_)
  have hP : va_P D vwCl (mdW Y cI 0 m_status m_isThere m_kinds m_newKinds m_print m_low m_high m_lot m_taped m_latest m_length m_cursor m_token m_from m_till m_fault m_faultAt m_traced r_lane r_many r_item r_market r_of r_newMarket r_newStart r_newOf r_newCoin r_state r_kept r_tape r_brings r_seen r_seenOut r_trace ++ R) H := hP
  have hD : va_D A (mdW Y cI 0 m_status m_isThere m_kinds m_newKinds m_print m_low m_high m_lot m_taped m_latest m_length m_cursor m_token m_from m_till m_fault m_faultAt m_traced r_lane r_many r_item r_market r_of r_newMarket r_newStart r_newOf r_newCoin r_state r_kept r_tape r_brings r_seen r_seenOut r_trace ++ R) := hD
  refine lv_aload_n hx hb dX11_as_5 rfl (lv_at hl 0 rfl) ?_
  refine lv_iload_n hx hb dX11_as_6 rfl (lv_at hl 1 rfl) ?_
  refine mx_callV (As := [.int k]) (rest := []) ⟨hx, hb, hml, hown, hts⟩ (mtX11_isKind l D cI cB cK cS Y R 0 m_status m_isThere m_kinds m_newKinds m_print m_low m_high m_lot m_taped m_latest m_length m_cursor m_token m_from m_till m_fault m_faultAt m_traced r_lane r_many r_item r_market r_of r_newMarket r_newStart r_newOf r_newCoin r_state r_kept r_tape r_brings r_seen r_seenOut r_trace k) (cwV 1 hts gX11_as_X11_isKind rfl rfl rfl (by decide +kernel) ⟨Nat.le_of_ble_eq_true rfl, Nat.le_of_ble_eq_true rfl⟩) pF0_ok trivial hK hP hD hS hA 0 rfl rfl rfl rfl hl.1 rfl (Nat.le_of_ble_eq_true rfl) dX11_as_7 ⟨Nat.le_refl _, Nat.le_refl _⟩ (fun u_1 H locs eu_1 hP hD hS => ?_)
  refine W.eq (g2 := F0 m 10 ls [.int u_1]) rfl ?_
  have hP : va_P D vwCl (mdW Y cI 0 m_status m_isThere m_kinds m_newKinds m_print m_low m_high m_lot m_taped m_latest m_length m_cursor m_token m_from m_till m_fault m_faultAt m_traced r_lane r_many r_item r_market r_of r_newMarket r_newStart r_newOf r_newCoin r_state r_kept r_tape r_brings r_seen r_seenOut r_trace ++ R) H := hP
  have hD : va_D A (mdW Y cI 0 m_status m_isThere m_kinds m_newKinds m_print m_low m_high m_lot m_taped m_latest m_length m_cursor m_token m_from m_till m_fault m_faultAt m_traced r_lane r_many r_item r_market r_of r_newMarket r_newStart r_newOf r_newCoin r_state r_kept r_tape r_brings r_seen r_seenOut r_trace ++ R) := hD
  refine lv_if_eq (tgt := 25) hx hb dX11_as_10 (by decide) (fun c_2 => ?_) (fun c_2 => ?_)
  · have d_2 := i_eq rfl (show (0 : Int32).toInt = 0 from by decide) c_2
    refine lv_ldc (v := (-1000001)) hx hb hown k78 dX11_as_25 ?_
    rw [hQm]
    exact mx_iret (u0 := sX11_as k a m_status m_kinds r_of) (rv := (fun u => some (.int u.1))) (w1 := (fun u => mdW Y cI u.2.1 u.2.2 m_isThere m_kinds m_newKinds m_print m_low m_high m_lot m_taped m_latest m_length m_cursor m_token m_from m_till m_fault m_faultAt m_traced r_lane r_many r_item r_market r_of r_newMarket r_newStart r_newOf r_newCoin r_state r_kept r_tape r_brings r_seen r_seenOut r_trace ++ R)) (u := ((-1000001), 0, m_status)) hx hb hr hlocks hK hS (lt_eq eu_1 ((if_pos c_2).trans rfl)) hP hD rfl dX11_as_27
  · have d_2 := i_eqn rfl (show (0 : Int32).toInt = 0 from by decide) c_2
    have dt_2 := sX11_isKind_t hkd0 eu_1 c_2
    refine lv_iload_n hx hb dX11_as_13 rfl (lv_at hl 2 rfl) ?_
    refine lv_i2l (v := a.toInt64) hx hb dX11_as_14 rfl ?_
    refine lv_lconst (v := 0) hx hb dX11_as_15 (by decide) ?_
    refine lv_ldc2 (v := 6) hx hb hown k237 dX11_as_16 ?_
    refine mx_callS (As := [.long a.toInt64, .long 0, .long 6]) (rest := []) ⟨hx, hb, hml, hown, hts⟩ (mtX11_in l D cI cB cK cS (mdW Y cI 0 m_status m_isThere m_kinds m_newKinds m_print m_low m_high m_lot m_taped m_latest m_length m_cursor m_token m_from m_till m_fault m_faultAt m_traced r_lane r_many r_item r_market r_of r_newMarket r_newStart r_newOf r_newCoin r_state r_kept r_tape r_brings r_seen r_seenOut r_trace ++ R) a.toInt64 0 6) (va_cwS 3 hts gX11_as_X11_in rfl rfl rfl (by decide +kernel) ⟨Nat.le_of_ble_eq_true rfl, Nat.le_of_ble_eq_true rfl⟩) pF0_ok trivial hK hP hD hS hA rfl hl.1 rfl (Nat.le_of_ble_eq_true rfl) dX11_as_19 ⟨Nat.le_refl _, Nat.le_refl _⟩ (fun u_3 H locs eu_3 hP hD hS => ?_)
    refine W.eq (g2 := F0 m 22 ls [.int u_3]) rfl ?_
    have hP : va_P D vwCl (mdW Y cI 0 m_status m_isThere m_kinds m_newKinds m_print m_low m_high m_lot m_taped m_latest m_length m_cursor m_token m_from m_till m_fault m_faultAt m_traced r_lane r_many r_item r_market r_of r_newMarket r_newStart r_newOf r_newCoin r_state r_kept r_tape r_brings r_seen r_seenOut r_trace ++ R) H := hP
    have hD : va_D A (mdW Y cI 0 m_status m_isThere m_kinds m_newKinds m_print m_low m_high m_lot m_taped m_latest m_length m_cursor m_token m_from m_till m_fault m_faultAt m_traced r_lane r_many r_item r_market r_of r_newMarket r_newStart r_newOf r_newCoin r_state r_kept r_tape r_brings r_seen r_seenOut r_trace ++ R) := hD
    refine lv_if_ne (tgt := 28) hx hb dX11_as_22 (by decide) (fun c_4 => ?_) (fun c_4 => ?_)
    · have d_4 := i_eqn rfl (show (0 : Int32).toInt = 0 from by decide) c_4
      have dt_4 := sX11_in_t ((Int32.toInt_toInt64 _).trans rfl) (show (0 : Int64).toInt = 0 from by decide) (show (6 : Int64).toInt = 6 from by decide) eu_3 c_4
      refine lv_aload_n hx hb dX11_as_28 rfl (lv_at hl 0 rfl) ?_
      refine lv_iconst (v := 0) hx hb dX11_as_29 (by decide) ?_
      refine va_put (D := D) (ci := 9) (v := .int 0) (ty := .int) (C := RX11) (T := TX11) (N := 35) hx hb hts iX11 tyX11 tyX11_ok nmX11 hown hK hP hD hS 0 rfl rfl 1 (by decide) k62 (fun _ h9 => h9) rfl (by decide +kernel) rfl rfl (Nat.le_of_ble_eq_true rfl) dX11_as_30 (fun H locs hP hD hS => ?_)
      have hP : va_P D vwCl (mdW Y cI 0 0 m_isThere m_kinds m_newKinds m_print m_low m_high m_lot m_taped m_latest m_length m_cursor m_token m_from m_till m_fault m_faultAt m_traced r_lane r_many r_item r_market r_of r_newMarket r_newStart r_newOf r_newCoin r_state r_kept r_tape r_brings r_seen r_seenOut r_trace ++ R) H := hP
      have hD : va_D A (mdW Y cI 0 0 m_isThere m_kinds m_newKinds m_print m_low m_high m_lot m_taped m_latest m_length m_cursor m_token m_from m_till m_fault m_faultAt m_traced r_lane r_many r_item r_market r_of r_newMarket r_newStart r_newOf r_newCoin r_state r_kept r_tape r_brings r_seen r_seenOut r_trace ++ R) := hD
      refine lv_aload_n hx hb dX11_as_33 rfl (lv_at hl 0 rfl) ?_
      refine lv_iload_n hx hb dX11_as_34 rfl (lv_at hl 1 rfl) ?_
      refine lv_iconst (v := 0) hx hb dX11_as_35 (by decide) ?_
      refine mx_callV (As := [.int k, .int 0]) (rest := []) ⟨hx, hb, hml, hown, hts⟩ (mtX11_told l D cI cB cK cS Y R 0 0 m_isThere m_kinds m_newKinds m_print m_low m_high m_lot m_taped m_latest m_length m_cursor m_token m_from m_till m_fault m_faultAt m_traced r_lane r_many r_item r_market r_of r_newMarket r_newStart r_newOf r_newCoin r_state r_kept r_tape r_brings r_seen r_seenOut r_trace k 0 (vp_in_iff.mpr (by rw [show (6 * k + 0).toInt = ((6 * k.toInt) + 0) from (i_addv (i_mulv (show (6 : Int32).toInt = 6 from by decide) rfl (by omega) (by omega)) (show (0 : Int32).toInt = 0 from by decide) (by omega) (by omega))]; constructor <;> omega))) (cwV 2 hts gX11_as_X11_told rfl rfl rfl (by decide +kernel) ⟨Nat.le_of_ble_eq_true rfl, Nat.le_of_ble_eq_true rfl⟩) pF0_ok trivial hK hP hD hS hA 0 rfl rfl rfl rfl hl.1 rfl (Nat.le_of_ble_eq_true rfl) dX11_as_36 ⟨Nat.le_refl _, Nat.le_refl _⟩ (fun u_5 H locs eu_5 hP hD hS => ?_)
      refine W.eq (g2 := F0 m 39 ls [.int u_5]) rfl ?_
      have hP : va_P D vwCl (mdW Y cI 0 0 m_isThere m_kinds m_newKinds m_print m_low m_high m_lot m_taped m_latest m_length m_cursor m_token m_from m_till m_fault m_faultAt m_traced r_lane r_many r_item r_market r_of r_newMarket r_newStart r_newOf r_newCoin r_state r_kept r_tape r_brings r_seen r_seenOut r_trace ++ R) H := hP
      have hD : va_D A (mdW Y cI 0 0 m_isThere m_kinds m_newKinds m_print m_low m_high m_lot m_taped m_latest m_length m_cursor m_token m_from m_till m_fault m_faultAt m_traced r_lane r_many r_item r_market r_of r_newMarket r_newStart r_newOf r_newCoin r_state r_kept r_tape r_brings r_seen r_seenOut r_trace ++ R) := hD
      refine lv_iload_n hx hb dX11_as_39 rfl (lv_at hl 2 rfl) ?_
      refine mx_callS (As := [.int u_5, .int a]) (rest := []) ⟨hx, hb, hml, hown, hts⟩ (mtX11_isOf l D cI cB cK cS (mdW Y cI 0 0 m_isThere m_kinds m_newKinds m_print m_low m_high m_lot m_taped m_latest m_length m_cursor m_token m_from m_till m_fault m_faultAt m_traced r_lane r_many r_item r_market r_of r_newMarket r_newStart r_newOf r_newCoin r_state r_kept r_tape r_brings r_seen r_seenOut r_trace ++ R) u_5 a) (va_cwS 2 hts gX11_as_X11_isOf rfl rfl rfl (by decide +kernel) ⟨Nat.le_of_ble_eq_true rfl, Nat.le_of_ble_eq_true rfl⟩) pF0_ok trivial hK hP hD hS hA rfl hl.1 rfl (Nat.le_of_ble_eq_true rfl) dX11_as_40 ⟨Nat.le_refl _, Nat.le_refl _⟩ (fun u_6 H locs eu_6 hP hD hS => ?_)
      refine W.eq (g2 := F0 m 43 ls [.int u_6]) rfl ?_
      have hP : va_P D vwCl (mdW Y cI 0 0 m_isThere m_kinds m_newKinds m_print m_low m_high m_lot m_taped m_latest m_length m_cursor m_token m_from m_till m_fault m_faultAt m_traced r_lane r_many r_item r_market r_of r_newMarket r_newStart r_newOf r_newCoin r_state r_kept r_tape r_brings r_seen r_seenOut r_trace ++ R) H := hP
      have hD : va_D A (mdW Y cI 0 0 m_isThere m_kinds m_newKinds m_print m_low m_high m_lot m_taped m_latest m_length m_cursor m_token m_from m_till m_fault m_faultAt m_traced r_lane r_many r_item r_market r_of r_newMarket r_newStart r_newOf r_newCoin r_state r_kept r_tape r_brings r_seen r_seenOut r_trace ++ R) := hD
      refine lv_if_eq (tgt := 55) hx hb dX11_as_43 (by decide) (fun c_7 => ?_) (fun c_7 => ?_)
      · have d_7 := i_eq rfl (show (0 : Int32).toInt = 0 from by decide) c_7
        refine lv_aload_n hx hb dX11_as_55 rfl (lv_at hl 0 rfl) ?_
        refine lv_iconst (v := 3) hx hb dX11_as_56 (by decide) ?_
        refine mx_callV (As := [.int 3]) (rest := []) ⟨hx, hb, hml, hown, hts⟩ (mtX11_finding l D cI cB cK cS Y R 0 0 m_isThere m_kinds m_newKinds m_print m_low m_high m_lot m_taped m_latest m_length m_cursor m_token m_from m_till m_fault m_faultAt m_traced r_lane r_many r_item r_market r_of r_newMarket r_newStart r_newOf r_newCoin r_state r_kept r_tape r_brings r_seen r_seenOut r_trace 3) (cwV 1 hts gX11_as_X11_finding rfl rfl rfl (by decide +kernel) ⟨Nat.le_of_ble_eq_true rfl, Nat.le_of_ble_eq_true rfl⟩) pF0_ok trivial hK hP hD hS hA 0 rfl rfl rfl rfl hl.1 rfl (Nat.le_of_ble_eq_true rfl) dX11_as_57 ⟨Nat.le_refl _, Nat.le_refl _⟩ (fun u_8 H locs eu_8 hP hD hS => ?_)
        refine W.eq (g2 := F0 m 60 ls [.int u_8.1]) rfl ?_
        have hP : va_P D vwCl (mdW Y cI 0 u_8.2 m_isThere m_kinds m_newKinds m_print m_low m_high m_lot m_taped m_latest m_length m_cursor m_token m_from m_till m_fault m_faultAt m_traced r_lane r_many r_item r_market r_of r_newMarket r_newStart r_newOf r_newCoin r_state r_kept r_tape r_brings r_seen r_seenOut r_trace ++ R) H := hP
        have hD : va_D A (mdW Y cI 0 u_8.2 m_isThere m_kinds m_newKinds m_print m_low m_high m_lot m_taped m_latest m_length m_cursor m_token m_from m_till m_fault m_faultAt m_traced r_lane r_many r_item r_market r_of r_newMarket r_newStart r_newOf r_newCoin r_state r_kept r_tape r_brings r_seen r_seenOut r_trace ++ R) := hD
        rw [hQm]
        exact mx_iret (u0 := sX11_as k a m_status m_kinds r_of) (rv := (fun u => some (.int u.1))) (w1 := (fun u => mdW Y cI u.2.1 u.2.2 m_isThere m_kinds m_newKinds m_print m_low m_high m_lot m_taped m_latest m_length m_cursor m_token m_from m_till m_fault m_faultAt m_traced r_lane r_many r_item r_market r_of r_newMarket r_newStart r_newOf r_newCoin r_state r_kept r_tape r_brings r_seen r_seenOut r_trace ++ R)) (u := (u_8.1, 0, u_8.2)) hx hb hr hlocks hK hS (lt_eq eu_1 ((if_neg c_2).trans (lt_eq eu_3 ((if_neg c_4).trans (lt_eq eu_5 (lt_eq eu_6 ((if_pos c_7).trans (lt_eq eu_8 rfl)))))))) hP hD rfl dX11_as_60
      · have d_7 := i_eqn rfl (show (0 : Int32).toInt = 0 from by decide) c_7
        refine lv_aload_n hx hb dX11_as_46 rfl (lv_at hl 0 rfl) ?_
        refine lv_iload_n hx hb dX11_as_47 rfl (lv_at hl 1 rfl) ?_
        refine lv_iconst (v := 2) hx hb dX11_as_48 (by decide) ?_
        refine mx_callV (As := [.int k, .int 2]) (rest := []) ⟨hx, hb, hml, hown, hts⟩ (mtX11_told l D cI cB cK cS Y R 0 0 m_isThere m_kinds m_newKinds m_print m_low m_high m_lot m_taped m_latest m_length m_cursor m_token m_from m_till m_fault m_faultAt m_traced r_lane r_many r_item r_market r_of r_newMarket r_newStart r_newOf r_newCoin r_state r_kept r_tape r_brings r_seen r_seenOut r_trace k 2 (vp_in_iff.mpr (by rw [show (6 * k + 2).toInt = ((6 * k.toInt) + 2) from (i_addv (i_mulv (show (6 : Int32).toInt = 6 from by decide) rfl (by omega) (by omega)) (show (2 : Int32).toInt = 2 from by decide) (by omega) (by omega))]; constructor <;> omega))) (cwV 2 hts gX11_as_X11_told rfl rfl rfl (by decide +kernel) ⟨Nat.le_of_ble_eq_true rfl, Nat.le_of_ble_eq_true rfl⟩) pF0_ok trivial hK hP hD hS hA 0 rfl rfl rfl rfl hl.1 rfl (Nat.le_of_ble_eq_true rfl) dX11_as_49 ⟨Nat.le_refl _, Nat.le_refl _⟩ (fun u_9 H locs eu_9 hP hD hS => ?_)
        refine W.eq (g2 := F0 m 52 ls [.int u_9]) rfl ?_
        have hP : va_P D vwCl (mdW Y cI 0 0 m_isThere m_kinds m_newKinds m_print m_low m_high m_lot m_taped m_latest m_length m_cursor m_token m_from m_till m_fault m_faultAt m_traced r_lane r_many r_item r_market r_of r_newMarket r_newStart r_newOf r_newCoin r_state r_kept r_tape r_brings r_seen r_seenOut r_trace ++ R) H := hP
        have hD : va_D A (mdW Y cI 0 0 m_isThere m_kinds m_newKinds m_print m_low m_high m_lot m_taped m_latest m_length m_cursor m_token m_from m_till m_fault m_faultAt m_traced r_lane r_many r_item r_market r_of r_newMarket r_newStart r_newOf r_newCoin r_state r_kept r_tape r_brings r_seen r_seenOut r_trace ++ R) := hD
        refine lv_goto (tgt := 60) hx hb dX11_as_52 (by decide) ?_
        rw [hQm]
        exact mx_iret (u0 := sX11_as k a m_status m_kinds r_of) (rv := (fun u => some (.int u.1))) (w1 := (fun u => mdW Y cI u.2.1 u.2.2 m_isThere m_kinds m_newKinds m_print m_low m_high m_lot m_taped m_latest m_length m_cursor m_token m_from m_till m_fault m_faultAt m_traced r_lane r_many r_item r_market r_of r_newMarket r_newStart r_newOf r_newCoin r_state r_kept r_tape r_brings r_seen r_seenOut r_trace ++ R)) (u := (u_9, 0, 0)) hx hb hr hlocks hK hS (lt_eq eu_1 ((if_neg c_2).trans (lt_eq eu_3 ((if_neg c_4).trans (lt_eq eu_5 (lt_eq eu_6 ((if_neg c_7).trans (lt_eq eu_9 rfl)))))))) hP hD rfl dX11_as_60
    · have d_4 := i_eq rfl (show (0 : Int32).toInt = 0 from by decide) c_4
      refine lv_ldc (v := (-1000001)) hx hb hown k78 dX11_as_25 ?_
      rw [hQm]
      exact mx_iret (u0 := sX11_as k a m_status m_kinds r_of) (rv := (fun u => some (.int u.1))) (w1 := (fun u => mdW Y cI u.2.1 u.2.2 m_isThere m_kinds m_newKinds m_print m_low m_high m_lot m_taped m_latest m_length m_cursor m_token m_from m_till m_fault m_faultAt m_traced r_lane r_many r_item r_market r_of r_newMarket r_newStart r_newOf r_newCoin r_state r_kept r_tape r_brings r_seen r_seenOut r_trace ++ R)) (u := ((-1000001), 0, m_status)) hx hb hr hlocks hK hS (lt_eq eu_1 ((if_neg c_2).trans (lt_eq eu_3 ((if_pos c_4).trans rfl)))) hP hD rfl dX11_as_27

def sX11_began (k : Int32) (m_traced : Int32) (r_trace : Nat → Int32) : (Int32) × (Nat → Int32) := if 16 ≤ m_traced then ((m_traced, r_trace)) else (lt (upd r_trace m_traced.toNatClampNeg k) (fun ar_3 : Nat → Int32 => (m_traced + 1, ar_3)))
set_option maxHeartbeats 4000000 in
set_option maxRecDepth 100000 in
theorem mtX11_began (l : Launch) (D : va_G) (cI cB cK cS : ClassId) (Y : Nat → Nat) (R : va_W) (m_thrown : Int32) (m_status : Int32) (m_isThere : Int32) (m_kinds : Int32) (m_newKinds : Int32) (m_print : Int32) (m_low : Int32) (m_high : Int32) (m_lot : Int32) (m_taped : Int32) (m_latest : Int32) (m_length : Int32) (m_cursor : Int32) (m_token : Int32) (m_from : Int32) (m_till : Int32) (m_fault : Int32) (m_faultAt : Int32) (m_traced : Int32) (r_lane : Nat → Int32) (r_many : Nat → Int32) (r_item : Nat → Int32) (r_market : Nat → Int32) (r_of : Nat → Int32) (r_newMarket : Nat → Int32) (r_newStart : Nat → Int32) (r_newOf : Nat → Int32) (r_newCoin : Nat → Int32) (r_state : Nat → Int32) (r_kept : Nat → Int32) (r_tape : Nat → Int32) (r_brings : Nat → Int32) (r_seen : Nat → Int32) (r_seenOut : Nat → Int32) (r_trace : Nat → Int32) (k : Int32) (htr : tr_ok m_traced) : MX l yX11_began wsX11_began (rmX 1) D (tyX cI cB cK cS) pF0 (mdW Y cI m_thrown m_status m_isThere m_kinds m_newKinds m_print m_low m_high m_lot m_taped m_latest m_length m_cursor m_token m_from m_till m_fault m_faultAt m_traced r_lane r_many r_item r_market r_of r_newMarket r_newStart r_newOf r_newCoin r_state r_kept r_tape r_brings r_seen r_seenOut r_trace ++ R) [.ref (Y 0), .int k] (sX11_began k m_traced r_trace) (fun _ => none) (fun u => mdW Y cI m_thrown m_status m_isThere m_kinds m_newKinds m_print m_low m_high m_lot m_taped m_latest m_length m_cursor m_token m_from m_till m_fault m_faultAt u.1 r_lane r_many r_item r_market r_of r_newMarket r_newStart r_newOf r_newCoin r_state r_kept r_tape r_brings r_seen r_seenOut u.2 ++ R) := by
  refine mx_intro (cc := cX11_began) (maxL := 2) (ret := none) (by decide) rfl (Nat.le_of_ble_eq_true rfl) ?_
  intro p e s m below meth c A ls H locs Qm hQm hx hb hr hml hts hown hlocks hA hS hP hK hD hF hl
  have hown : s.vm.findClass RX11 = some m.cls := hown
  have hl : lv_has ls 2 [(0, .ref (Y 0)), (1, .int k)] := hl
  have k277 := hts (.fieldLink RX11 277 "PigRoundsModel" "traced" "I") (by decide +kernel)
  have k55 := hts (.fieldLink RX11 55 "PigRoundsModel" "trace" "[I") (by decide +kernel)
  have iX11 : ∀ w ∈ u_ws RX11 TX11 35, w ∈ wsX11_began := by decide +kernel
  obtain ⟨htr0, htr1⟩ := id htr
  refine lv_aload_n hx hb dX11_began_0 rfl (lv_at hl 0 rfl) ?_
  refine va_get (D := D) (ci := 9) (v := .int m_traced) (C := RX11) (T := TX11) (N := 35) hx hb hts iX11 hown hK hP 0 rfl rfl 34 (by decide) k277 (fun _ h9 => h9) rfl dX11_began_1 ?_
  refine lv_bipush (v := 16) hx hb dX11_began_4 (by decide) ?_
  refine lv_icmp_ge (tgt := 29) hx hb dX11_began_6 (by decide) (fun c_1 => ?_) (fun c_1 => ?_)
  · have d_1 := i_le (show (16 : Int32).toInt = 16 from by decide) rfl c_1
    rw [hQm]
    exact mx_vret (u0 := sX11_began k m_traced r_trace) (rv := (fun _ => none)) (w1 := (fun u => mdW Y cI m_thrown m_status m_isThere m_kinds m_newKinds m_print m_low m_high m_lot m_taped m_latest m_length m_cursor m_token m_from m_till m_fault m_faultAt u.1 r_lane r_many r_item r_market r_of r_newMarket r_newStart r_newOf r_newCoin r_state r_kept r_tape r_brings r_seen r_seenOut u.2 ++ R)) (u := (m_traced, r_trace)) hx hb hr hlocks hK hS ((if_pos c_1).trans rfl) hP hD rfl dX11_began_29
  · have d_1 := i_len (show (16 : Int32).toInt = 16 from by decide) rfl c_1
    refine lv_aload_n hx hb dX11_began_9 rfl (lv_at hl 0 rfl) ?_
    refine va_get (D := D) (ci := 9) (v := .ref (Y 33)) (C := RX11) (T := TX11) (N := 35) hx hb hts iX11 hown hK hP 0 rfl rfl 33 (by decide) k55 (fun _ h9 => h9) rfl dX11_began_10 ?_
    refine lv_aload_n hx hb dX11_began_13 rfl (lv_at hl 0 rfl) ?_
    refine va_get (D := D) (ci := 9) (v := .int m_traced) (C := RX11) (T := TX11) (N := 35) hx hb hts iX11 hown hK hP 0 rfl rfl 34 (by decide) k277 (fun _ h9 => h9) rfl dX11_began_14 ?_
    refine lv_iload_n hx hb dX11_began_17 rfl (lv_at hl 1 rfl) ?_
    have q_2 : vp_in m_traced 16 := vp_in_iff.mpr ⟨by omega, by omega⟩
    refine va_iast hx hb hK hP hD hS 16 0 rfl rfl q_2 dX11_began_18 (fun H locs hP hD hS => ?_)
    obtain ⟨ar_3, ear_3⟩ : ∃ z : Nat → Int32, z = upd r_trace m_traced.toNatClampNeg k := ⟨_, rfl⟩
    have hP : va_P D vwCl (mdW Y cI m_thrown m_status m_isThere m_kinds m_newKinds m_print m_low m_high m_lot m_taped m_latest m_length m_cursor m_token m_from m_till m_fault m_faultAt m_traced r_lane r_many r_item r_market r_of r_newMarket r_newStart r_newOf r_newCoin r_state r_kept r_tape r_brings r_seen r_seenOut (upd r_trace m_traced.toNatClampNeg k) ++ R) H := hP
    have hD : va_D A (mdW Y cI m_thrown m_status m_isThere m_kinds m_newKinds m_print m_low m_high m_lot m_taped m_latest m_length m_cursor m_token m_from m_till m_fault m_faultAt m_traced r_lane r_many r_item r_market r_of r_newMarket r_newStart r_newOf r_newCoin r_state r_kept r_tape r_brings r_seen r_seenOut (upd r_trace m_traced.toNatClampNeg k) ++ R) := hD
    rw [← ear_3] at hP hD
    have hP : va_P D vwCl (mdW Y cI m_thrown m_status m_isThere m_kinds m_newKinds m_print m_low m_high m_lot m_taped m_latest m_length m_cursor m_token m_from m_till m_fault m_faultAt m_traced r_lane r_many r_item r_market r_of r_newMarket r_newStart r_newOf r_newCoin r_state r_kept r_tape r_brings r_seen r_seenOut ar_3 ++ R) H := hP
    have hD : va_D A (mdW Y cI m_thrown m_status m_isThere m_kinds m_newKinds m_print m_low m_high m_lot m_taped m_latest m_length m_cursor m_token m_from m_till m_fault m_faultAt m_traced r_lane r_many r_item r_market r_of r_newMarket r_newStart r_newOf r_newCoin r_state r_kept r_tape r_brings r_seen r_seenOut ar_3 ++ R) := hD
    refine lv_aload_n hx hb dX11_began_19 rfl (lv_at hl 0 rfl) ?_
    refine lv_dup hx hb dX11_began_20 rfl ?_
    refine va_get (D := D) (ci := 9) (v := .int m_traced) (C := RX11) (T := TX11) (N := 35) hx hb hts iX11 hown hK hP 0 rfl rfl 34 (by decide) k277 (fun _ h9 => h9) rfl dX11_began_21 ?_
    refine lv_iconst (v := 1) hx hb dX11_began_24 (by decide) ?_
    refine lv_iadd hx hb dX11_began_25 ?_
    refine va_put (D := D) (ci := 9) (v := .int (m_traced + 1)) (ty := .int) (C := RX11) (T := TX11) (N := 35) hx hb hts iX11 tyX11 tyX11_ok nmX11 hown hK hP hD hS 0 rfl rfl 34 (by decide) k277 (fun _ h9 => h9) rfl (by decide +kernel) rfl rfl (Nat.le_of_ble_eq_true rfl) dX11_began_26 (fun H locs hP hD hS => ?_)
    have hP : va_P D vwCl (mdW Y cI m_thrown m_status m_isThere m_kinds m_newKinds m_print m_low m_high m_lot m_taped m_latest m_length m_cursor m_token m_from m_till m_fault m_faultAt (m_traced + 1) r_lane r_many r_item r_market r_of r_newMarket r_newStart r_newOf r_newCoin r_state r_kept r_tape r_brings r_seen r_seenOut ar_3 ++ R) H := hP
    have hD : va_D A (mdW Y cI m_thrown m_status m_isThere m_kinds m_newKinds m_print m_low m_high m_lot m_taped m_latest m_length m_cursor m_token m_from m_till m_fault m_faultAt (m_traced + 1) r_lane r_many r_item r_market r_of r_newMarket r_newStart r_newOf r_newCoin r_state r_kept r_tape r_brings r_seen r_seenOut ar_3 ++ R) := hD
    rw [hQm]
    exact mx_vret (u0 := sX11_began k m_traced r_trace) (rv := (fun _ => none)) (w1 := (fun u => mdW Y cI m_thrown m_status m_isThere m_kinds m_newKinds m_print m_low m_high m_lot m_taped m_latest m_length m_cursor m_token m_from m_till m_fault m_faultAt u.1 r_lane r_many r_item r_market r_of r_newMarket r_newStart r_newOf r_newCoin r_state r_kept r_tape r_brings r_seen r_seenOut u.2 ++ R)) (u := (m_traced + 1, ar_3)) hx hb hr hlocks hK hS ((if_neg c_1).trans (lt_eq ear_3 rfl)) hP hD rfl dX11_began_29
theorem sX11_began_ok {k m_traced : Int32} {r_trace : Nat → Int32} {u : Int32 × (Nat → Int32)} (h : tr_ok m_traced) (e : u = sX11_began k m_traced r_trace) : tr_ok u.1 := by
  subst e; unfold sX11_began; simp only [lt]
  split
  · exact h
  · rename_i h1
    have h2 := i_len (show (16 : Int32).toInt = 16 from by decide) rfl h1
    obtain ⟨h3, h4⟩ := h
    have e := i_addv (a := m_traced) rfl (show (1 : Int32).toInt = 1 from by decide) (by omega) (by omega)
    exact ⟨by rw [e]; omega, by rw [e]; omega⟩
def sX11_wiseSize (k : Int32) (m_traced : Int32) (r_of : Nat → Int32) (r_trace : Nat → Int32) : Int32 × (Int32) × (Nat → Int32) := lt (sX11_began 14 m_traced r_trace) (fun u_1 : (Int32) × (Nat → Int32) => lt (sX11_began 10 u_1.1 u_1.2) (fun u_2 : (Int32) × (Nat → Int32) => lt (sX11_told k 2 r_of) (fun u_3 : Int32 => (3 * u_3, u_2.1, u_2.2))))
set_option maxHeartbeats 4000000 in
set_option maxRecDepth 100000 in
theorem mtX11_wiseSize (l : Launch) (D : va_G) (cI cB cK cS : ClassId) (Y : Nat → Nat) (R : va_W) (m_thrown : Int32) (m_status : Int32) (m_isThere : Int32) (m_kinds : Int32) (m_newKinds : Int32) (m_print : Int32) (m_low : Int32) (m_high : Int32) (m_lot : Int32) (m_taped : Int32) (m_latest : Int32) (m_length : Int32) (m_cursor : Int32) (m_token : Int32) (m_from : Int32) (m_till : Int32) (m_fault : Int32) (m_faultAt : Int32) (m_traced : Int32) (r_lane : Nat → Int32) (r_many : Nat → Int32) (r_item : Nat → Int32) (r_market : Nat → Int32) (r_of : Nat → Int32) (r_newMarket : Nat → Int32) (r_newStart : Nat → Int32) (r_newOf : Nat → Int32) (r_newCoin : Nat → Int32) (r_state : Nat → Int32) (r_kept : Nat → Int32) (r_tape : Nat → Int32) (r_brings : Nat → Int32) (r_seen : Nat → Int32) (r_seenOut : Nat → Int32) (r_trace : Nat → Int32) (k : Int32) (hk0 : 0 ≤ k.toInt) (hk5 : k.toInt < 5) (htr : tr_ok m_traced) : MX l yX11_wiseSize wsX11_wiseSize (rmX 2) D (tyX cI cB cK cS) pF0 (mdW Y cI m_thrown m_status m_isThere m_kinds m_newKinds m_print m_low m_high m_lot m_taped m_latest m_length m_cursor m_token m_from m_till m_fault m_faultAt m_traced r_lane r_many r_item r_market r_of r_newMarket r_newStart r_newOf r_newCoin r_state r_kept r_tape r_brings r_seen r_seenOut r_trace ++ R) [.ref (Y 0), .int k] (sX11_wiseSize k m_traced r_of r_trace) (fun u => some (.int u.1)) (fun u => mdW Y cI m_thrown m_status m_isThere m_kinds m_newKinds m_print m_low m_high m_lot m_taped m_latest m_length m_cursor m_token m_from m_till m_fault m_faultAt u.2.1 r_lane r_many r_item r_market r_of r_newMarket r_newStart r_newOf r_newCoin r_state r_kept r_tape r_brings r_seen r_seenOut u.2.2 ++ R) := by
  refine mx_intro (cc := cX11_wiseSize) (maxL := 2) (ret := (some .int)) (by decide) rfl (Nat.le_of_ble_eq_true rfl) ?_
  intro p e s m below meth c A ls H locs Qm hQm hx hb hr hml hts hown hlocks hA hS hP hK hD hF hl
  have hown : s.vm.findClass RX11 = some m.cls := hown
  have hl : lv_has ls 2 [(0, .ref (Y 0)), (1, .int k)] := hl
  refine lv_aload_n hx hb dX11_wiseSize_0 rfl (lv_at hl 0 rfl) ?_
  refine lv_bipush (v := 14) hx hb dX11_wiseSize_1 (by decide) ?_
  refine mx_callV (As := [.int 14]) (rest := []) ⟨hx, hb, hml, hown, hts⟩ (mtX11_began l D cI cB cK cS Y R m_thrown m_status m_isThere m_kinds m_newKinds m_print m_low m_high m_lot m_taped m_latest m_length m_cursor m_token m_from m_till m_fault m_faultAt m_traced r_lane r_many r_item r_market r_of r_newMarket r_newStart r_newOf r_newCoin r_state r_kept r_tape r_brings r_seen r_seenOut r_trace 14 (by first | assumption | omega)) (cwV 1 hts gX11_wiseSize_X11_began rfl rfl rfl (by decide +kernel) ⟨Nat.le_of_ble_eq_true rfl, Nat.le_of_ble_eq_true rfl⟩) pF0_ok trivial hK hP hD hS hA 0 rfl rfl rfl rfl hl.1 rfl (Nat.le_of_ble_eq_true rfl) dX11_wiseSize_3 ⟨Nat.le_refl _, Nat.le_refl _⟩ (fun u_1 H locs eu_1 hP hD hS => ?_)
  refine W.eq (g2 := F0 m 6 ls []) rfl ?_
  have hP : va_P D vwCl (mdW Y cI m_thrown m_status m_isThere m_kinds m_newKinds m_print m_low m_high m_lot m_taped m_latest m_length m_cursor m_token m_from m_till m_fault m_faultAt u_1.1 r_lane r_many r_item r_market r_of r_newMarket r_newStart r_newOf r_newCoin r_state r_kept r_tape r_brings r_seen r_seenOut u_1.2 ++ R) H := hP
  have hD : va_D A (mdW Y cI m_thrown m_status m_isThere m_kinds m_newKinds m_print m_low m_high m_lot m_taped m_latest m_length m_cursor m_token m_from m_till m_fault m_faultAt u_1.1 r_lane r_many r_item r_market r_of r_newMarket r_newStart r_newOf r_newCoin r_state r_kept r_tape r_brings r_seen r_seenOut u_1.2 ++ R) := hD
  have hb_u_1 := sX11_began_ok (by assumption) eu_1
  refine lv_aload_n hx hb dX11_wiseSize_6 rfl (lv_at hl 0 rfl) ?_
  refine lv_bipush (v := 10) hx hb dX11_wiseSize_7 (by decide) ?_
  refine mx_callV (As := [.int 10]) (rest := []) ⟨hx, hb, hml, hown, hts⟩ (mtX11_began l D cI cB cK cS Y R m_thrown m_status m_isThere m_kinds m_newKinds m_print m_low m_high m_lot m_taped m_latest m_length m_cursor m_token m_from m_till m_fault m_faultAt u_1.1 r_lane r_many r_item r_market r_of r_newMarket r_newStart r_newOf r_newCoin r_state r_kept r_tape r_brings r_seen r_seenOut u_1.2 10 (by first | assumption | omega)) (cwV 1 hts gX11_wiseSize_X11_began rfl rfl rfl (by decide +kernel) ⟨Nat.le_of_ble_eq_true rfl, Nat.le_of_ble_eq_true rfl⟩) pF0_ok trivial hK hP hD hS hA 0 rfl rfl rfl rfl hl.1 rfl (Nat.le_of_ble_eq_true rfl) dX11_wiseSize_9 ⟨Nat.le_refl _, Nat.le_refl _⟩ (fun u_2 H locs eu_2 hP hD hS => ?_)
  refine W.eq (g2 := F0 m 12 ls []) rfl ?_
  have hP : va_P D vwCl (mdW Y cI m_thrown m_status m_isThere m_kinds m_newKinds m_print m_low m_high m_lot m_taped m_latest m_length m_cursor m_token m_from m_till m_fault m_faultAt u_2.1 r_lane r_many r_item r_market r_of r_newMarket r_newStart r_newOf r_newCoin r_state r_kept r_tape r_brings r_seen r_seenOut u_2.2 ++ R) H := hP
  have hD : va_D A (mdW Y cI m_thrown m_status m_isThere m_kinds m_newKinds m_print m_low m_high m_lot m_taped m_latest m_length m_cursor m_token m_from m_till m_fault m_faultAt u_2.1 r_lane r_many r_item r_market r_of r_newMarket r_newStart r_newOf r_newCoin r_state r_kept r_tape r_brings r_seen r_seenOut u_2.2 ++ R) := hD
  have hb_u_2 := sX11_began_ok (by assumption) eu_2
  refine lv_iconst (v := 3) hx hb dX11_wiseSize_12 (by decide) ?_
  refine lv_aload_n hx hb dX11_wiseSize_13 rfl (lv_at hl 0 rfl) ?_
  refine lv_iload_n hx hb dX11_wiseSize_14 rfl (lv_at hl 1 rfl) ?_
  refine lv_iconst (v := 2) hx hb dX11_wiseSize_15 (by decide) ?_
  refine mx_callV (As := [.int k, .int 2]) (rest := [.int 3]) ⟨hx, hb, hml, hown, hts⟩ (mtX11_told l D cI cB cK cS Y R m_thrown m_status m_isThere m_kinds m_newKinds m_print m_low m_high m_lot m_taped m_latest m_length m_cursor m_token m_from m_till m_fault m_faultAt u_2.1 r_lane r_many r_item r_market r_of r_newMarket r_newStart r_newOf r_newCoin r_state r_kept r_tape r_brings r_seen r_seenOut u_2.2 k 2 (vp_in_iff.mpr (by rw [show (6 * k + 2).toInt = ((6 * k.toInt) + 2) from (i_addv (i_mulv (show (6 : Int32).toInt = 6 from by decide) rfl (by omega) (by omega)) (show (2 : Int32).toInt = 2 from by decide) (by omega) (by omega))]; constructor <;> omega))) (cwV 2 hts gX11_wiseSize_X11_told rfl rfl rfl (by decide +kernel) ⟨Nat.le_of_ble_eq_true rfl, Nat.le_of_ble_eq_true rfl⟩) pF0_ok trivial hK hP hD hS hA 0 rfl rfl rfl rfl hl.1 rfl (Nat.le_of_ble_eq_true rfl) dX11_wiseSize_16 ⟨Nat.le_refl _, Nat.le_refl _⟩ (fun u_3 H locs eu_3 hP hD hS => ?_)
  refine W.eq (g2 := F0 m 19 ls [.int u_3, .int 3]) rfl ?_
  have hP : va_P D vwCl (mdW Y cI m_thrown m_status m_isThere m_kinds m_newKinds m_print m_low m_high m_lot m_taped m_latest m_length m_cursor m_token m_from m_till m_fault m_faultAt u_2.1 r_lane r_many r_item r_market r_of r_newMarket r_newStart r_newOf r_newCoin r_state r_kept r_tape r_brings r_seen r_seenOut u_2.2 ++ R) H := hP
  have hD : va_D A (mdW Y cI m_thrown m_status m_isThere m_kinds m_newKinds m_print m_low m_high m_lot m_taped m_latest m_length m_cursor m_token m_from m_till m_fault m_faultAt u_2.1 r_lane r_many r_item r_market r_of r_newMarket r_newStart r_newOf r_newCoin r_state r_kept r_tape r_brings r_seen r_seenOut u_2.2 ++ R) := hD
  refine lv_imul hx hb dX11_wiseSize_19 ?_
  rw [hQm]
  exact mx_iret (u0 := sX11_wiseSize k m_traced r_of r_trace) (rv := (fun u => some (.int u.1))) (w1 := (fun u => mdW Y cI m_thrown m_status m_isThere m_kinds m_newKinds m_print m_low m_high m_lot m_taped m_latest m_length m_cursor m_token m_from m_till m_fault m_faultAt u.2.1 r_lane r_many r_item r_market r_of r_newMarket r_newStart r_newOf r_newCoin r_state r_kept r_tape r_brings r_seen r_seenOut u.2.2 ++ R)) (u := (3 * u_3, u_2.1, u_2.2)) hx hb hr hlocks hK hS (lt_eq eu_1 (lt_eq eu_2 (lt_eq eu_3 rfl))) hP hD rfl dX11_wiseSize_20
theorem sX11_wiseSize_ok {k m_traced : Int32} {r_of r_trace : Nat → Int32} {u : Int32 × Int32 × (Nat → Int32)} (h : tr_ok m_traced) (e : u = sX11_wiseSize k m_traced r_of r_trace) : tr_ok u.2.1 := by
  subst e; unfold sX11_wiseSize; simp only [lt]
  exact sX11_began_ok (sX11_began_ok h rfl) rfl
def sX11_markOf (k : Int32) (a : Int32) (m_print : Int32) (m_traced : Int32) (r_of : Nat → Int32) (r_trace : Nat → Int32) : Int32 × (Int32) × (Nat → Int32) := lt (if a = 6 then (lt (sX11_began 23 m_traced r_trace) (fun u_3 : (Int32) × (Nat → Int32) => (u_3.1, u_3.2))) else ((m_traced, r_trace))) (fun y_1 : Int32 × (Nat → Int32) => lt (if a = 2 then (lt (if a = 2 then (21) else (22)) (fun y_6 : Int32 => lt (sX11_began y_6 y_1.1 y_1.2) (fun u_8 : (Int32) × (Nat → Int32) => (u_8.1, u_8.2)))) else (lt (sX11_isOf a 5) (fun u_9 : Int32 => if u_9 = 0 then ((y_1.1, y_1.2)) else (lt (if a = 2 then (21) else (22)) (fun y_11 : Int32 => lt (sX11_began y_11 y_1.1 y_1.2) (fun u_13 : (Int32) × (Nat → Int32) => (u_13.1, u_13.2))))))) (fun y_4 : Int32 × (Nat → Int32) => lt (sX11_began 20 y_4.1 y_4.2) (fun u_14 : (Int32) × (Nat → Int32) => lt (if a = 2 then (lt (sX11_told k 1 r_of) (fun u_19 : Int32 => (10 * u_19))) else (lt (sX11_isOf a 5) (fun u_17 : Int32 => if u_17 = 0 then (0) else (m_print)))) (fun y_15 : Int32 => lt (k + y_15) (fun x_20 : Int32 => if a = 6 then (lt (sX11_wiseSize k u_14.1 r_of u_14.2) (fun u_22 : Int32 × (Int32) × (Nat → Int32) => (x_20 + u_22.1, u_22.2.1, u_22.2.2))) else ((x_20, u_14.1, u_14.2)))))))
set_option maxHeartbeats 4000000 in
set_option maxRecDepth 100000 in
theorem mtX11_markOf (l : Launch) (D : va_G) (cI cB cK cS : ClassId) (Y : Nat → Nat) (R : va_W) (m_thrown : Int32) (m_status : Int32) (m_isThere : Int32) (m_kinds : Int32) (m_newKinds : Int32) (m_print : Int32) (m_low : Int32) (m_high : Int32) (m_lot : Int32) (m_taped : Int32) (m_latest : Int32) (m_length : Int32) (m_cursor : Int32) (m_token : Int32) (m_from : Int32) (m_till : Int32) (m_fault : Int32) (m_faultAt : Int32) (m_traced : Int32) (r_lane : Nat → Int32) (r_many : Nat → Int32) (r_item : Nat → Int32) (r_market : Nat → Int32) (r_of : Nat → Int32) (r_newMarket : Nat → Int32) (r_newStart : Nat → Int32) (r_newOf : Nat → Int32) (r_newCoin : Nat → Int32) (r_state : Nat → Int32) (r_kept : Nat → Int32) (r_tape : Nat → Int32) (r_brings : Nat → Int32) (r_seen : Nat → Int32) (r_seenOut : Nat → Int32) (r_trace : Nat → Int32) (k : Int32) (a : Int32) (hk0 : 0 ≤ k.toInt) (hk5 : k.toInt < 5) (htr : tr_ok m_traced) : MX l yX11_markOf wsX11_markOf (rmX 3) D (tyX cI cB cK cS) pF0 (mdW Y cI m_thrown m_status m_isThere m_kinds m_newKinds m_print m_low m_high m_lot m_taped m_latest m_length m_cursor m_token m_from m_till m_fault m_faultAt m_traced r_lane r_many r_item r_market r_of r_newMarket r_newStart r_newOf r_newCoin r_state r_kept r_tape r_brings r_seen r_seenOut r_trace ++ R) [.ref (Y 0), .int k, .int a] (sX11_markOf k a m_print m_traced r_of r_trace) (fun u => some (.int u.1)) (fun u => mdW Y cI m_thrown m_status m_isThere m_kinds m_newKinds m_print m_low m_high m_lot m_taped m_latest m_length m_cursor m_token m_from m_till m_fault m_faultAt u.2.1 r_lane r_many r_item r_market r_of r_newMarket r_newStart r_newOf r_newCoin r_state r_kept r_tape r_brings r_seen r_seenOut u.2.2 ++ R) := by
  refine mx_intro (cc := cX11_markOf) (maxL := 4) (ret := (some .int)) (by decide) rfl (Nat.le_of_ble_eq_true rfl) ?_
  intro p e s m below meth c A ls H locs Qm hQm hx hb hr hml hts hown hlocks hA hS hP hK hD hF hl
  have hown : s.vm.findClass RX11 = some m.cls := hown
  have hl : lv_has ls 4 [(0, .ref (Y 0)), (1, .int k), (2, .int a)] := hl
  have k185 := hts (.fieldLink RX11 185 "PigRoundsModel" "print" "I") (by decide +kernel)
  have iX11 : ∀ w ∈ u_ws RX11 TX11 35, w ∈ wsX11_markOf := by decide +kernel
  refine lv_iload_n hx hb dX11_markOf_0 rfl (lv_at hl 2 rfl) ?_
  refine lv_bipush (v := 6) hx hb dX11_markOf_1 (by decide) ?_
  have J_1 : ∀ (y_1 : Int32 × (Nat → Int32)) (H : Heap) (locs : List Loc) (ls : Array Slot), y_1 = (if a = 6 then (lt (sX11_began 23 m_traced r_trace) (fun u_3 : (Int32) × (Nat → Int32) => (u_3.1, u_3.2))) else ((m_traced, r_trace))) → va_P D vwCl (mdW Y cI m_thrown m_status m_isThere m_kinds m_newKinds m_print m_low m_high m_lot m_taped m_latest m_length m_cursor m_token m_from m_till m_fault m_faultAt y_1.1 r_lane r_many r_item r_market r_of r_newMarket r_newStart r_newOf r_newCoin r_state r_kept r_tape r_brings r_seen r_seenOut y_1.2 ++ R) H → va_D A (mdW Y cI m_thrown m_status m_isThere m_kinds m_newKinds m_print m_low m_high m_lot m_taped m_latest m_length m_cursor m_token m_from m_till m_fault m_faultAt y_1.1 r_lane r_many r_item r_market r_of r_newMarket r_newStart r_newOf r_newCoin r_state r_kept r_tape r_brings r_seen r_seenOut y_1.2 ++ R) → va_S A s.heap H locs → lv_has ls 4 [(0, .ref (Y 0)), (1, .int k), (2, .int a)] → W p l e (rmX 3) s m ([.ref (Y 0), .int k, .int a] : List Value).toArray below meth c H locs 0 0 Qm (F0 m 12 ls []) := by
    intro y_1 H locs ls ey_1 hP hD hS hl
    have hb_y_1 : tr_ok y_1.1 := by rw [ey_1]; simp only [lt]; (repeat' split) <;> first | assumption | exact sX11_began_ok (by assumption) rfl | exact sX11_markOf_ok (by assumption) rfl
    refine lv_iload_n hx hb dX11_markOf_12 rfl (lv_at hl 2 rfl) ?_
    refine lv_iconst (v := 2) hx hb dX11_markOf_13 (by decide) ?_
    have J_4 : ∀ (y_4 : Int32 × (Nat → Int32)) (H : Heap) (locs : List Loc) (ls : Array Slot), y_4 = (if a = 2 then (lt (if a = 2 then (21) else (22)) (fun y_6 : Int32 => lt (sX11_began y_6 y_1.1 y_1.2) (fun u_8 : (Int32) × (Nat → Int32) => (u_8.1, u_8.2)))) else (lt (sX11_isOf a 5) (fun u_9 : Int32 => if u_9 = 0 then ((y_1.1, y_1.2)) else (lt (if a = 2 then (21) else (22)) (fun y_11 : Int32 => lt (sX11_began y_11 y_1.1 y_1.2) (fun u_13 : (Int32) × (Nat → Int32) => (u_13.1, u_13.2))))))) → va_P D vwCl (mdW Y cI m_thrown m_status m_isThere m_kinds m_newKinds m_print m_low m_high m_lot m_taped m_latest m_length m_cursor m_token m_from m_till m_fault m_faultAt y_4.1 r_lane r_many r_item r_market r_of r_newMarket r_newStart r_newOf r_newCoin r_state r_kept r_tape r_brings r_seen r_seenOut y_4.2 ++ R) H → va_D A (mdW Y cI m_thrown m_status m_isThere m_kinds m_newKinds m_print m_low m_high m_lot m_taped m_latest m_length m_cursor m_token m_from m_till m_fault m_faultAt y_4.1 r_lane r_many r_item r_market r_of r_newMarket r_newStart r_newOf r_newCoin r_state r_kept r_tape r_brings r_seen r_seenOut y_4.2 ++ R) → va_S A s.heap H locs → lv_has ls 4 [(0, .ref (Y 0)), (1, .int k), (2, .int a)] → W p l e (rmX 3) s m ([.ref (Y 0), .int k, .int a] : List Value).toArray below meth c H locs 0 0 Qm (F0 m 41 ls []) := by
      intro y_4 H locs ls ey_4 hP hD hS hl
      have hb_y_4 : tr_ok y_4.1 := by rw [ey_4]; simp only [lt]; (repeat' split) <;> first | assumption | exact sX11_began_ok (by assumption) rfl | exact sX11_markOf_ok (by assumption) rfl
      refine lv_aload_n hx hb dX11_markOf_41 rfl (lv_at hl 0 rfl) ?_
      refine lv_bipush (v := 20) hx hb dX11_markOf_42 (by decide) ?_
      refine mx_callV (As := [.int 20]) (rest := []) ⟨hx, hb, hml, hown, hts⟩ (mtX11_began l D cI cB cK cS Y R m_thrown m_status m_isThere m_kinds m_newKinds m_print m_low m_high m_lot m_taped m_latest m_length m_cursor m_token m_from m_till m_fault m_faultAt y_4.1 r_lane r_many r_item r_market r_of r_newMarket r_newStart r_newOf r_newCoin r_state r_kept r_tape r_brings r_seen r_seenOut y_4.2 20 (by first | assumption | omega)) (cwV 1 hts gX11_markOf_X11_began rfl rfl rfl (by decide +kernel) ⟨Nat.le_of_ble_eq_true rfl, Nat.le_of_ble_eq_true rfl⟩) pF0_ok trivial hK hP hD hS hA 0 rfl rfl rfl rfl hl.1 rfl (Nat.le_of_ble_eq_true rfl) dX11_markOf_44 ⟨Nat.le_refl _, Nat.le_refl _⟩ (fun u_14 H locs eu_14 hP hD hS => ?_)
      refine W.eq (g2 := F0 m 47 ls []) rfl ?_
      have hP : va_P D vwCl (mdW Y cI m_thrown m_status m_isThere m_kinds m_newKinds m_print m_low m_high m_lot m_taped m_latest m_length m_cursor m_token m_from m_till m_fault m_faultAt u_14.1 r_lane r_many r_item r_market r_of r_newMarket r_newStart r_newOf r_newCoin r_state r_kept r_tape r_brings r_seen r_seenOut u_14.2 ++ R) H := hP
      have hD : va_D A (mdW Y cI m_thrown m_status m_isThere m_kinds m_newKinds m_print m_low m_high m_lot m_taped m_latest m_length m_cursor m_token m_from m_till m_fault m_faultAt u_14.1 r_lane r_many r_item r_market r_of r_newMarket r_newStart r_newOf r_newCoin r_state r_kept r_tape r_brings r_seen r_seenOut u_14.2 ++ R) := hD
      have hb_u_14 := sX11_began_ok (by assumption) eu_14
      refine lv_iload_n hx hb dX11_markOf_47 rfl (lv_at hl 1 rfl) ?_
      refine lv_iload_n hx hb dX11_markOf_48 rfl (lv_at hl 2 rfl) ?_
      refine lv_iconst (v := 2) hx hb dX11_markOf_49 (by decide) ?_
      have J_15 : ∀ (y_15 : Int32) (H : Heap) (locs : List Loc) (ls : Array Slot), y_15 = (if a = 2 then (lt (sX11_told k 1 r_of) (fun u_19 : Int32 => (10 * u_19))) else (lt (sX11_isOf a 5) (fun u_17 : Int32 => if u_17 = 0 then (0) else (m_print)))) → va_P D vwCl (mdW Y cI m_thrown m_status m_isThere m_kinds m_newKinds m_print m_low m_high m_lot m_taped m_latest m_length m_cursor m_token m_from m_till m_fault m_faultAt u_14.1 r_lane r_many r_item r_market r_of r_newMarket r_newStart r_newOf r_newCoin r_state r_kept r_tape r_brings r_seen r_seenOut u_14.2 ++ R) H → va_D A (mdW Y cI m_thrown m_status m_isThere m_kinds m_newKinds m_print m_low m_high m_lot m_taped m_latest m_length m_cursor m_token m_from m_till m_fault m_faultAt u_14.1 r_lane r_many r_item r_market r_of r_newMarket r_newStart r_newOf r_newCoin r_state r_kept r_tape r_brings r_seen r_seenOut u_14.2 ++ R) → va_S A s.heap H locs → lv_has ls 4 [(0, .ref (Y 0)), (1, .int k), (2, .int a)] → W p l e (rmX 3) s m ([.ref (Y 0), .int k, .int a] : List Value).toArray below meth c H locs 0 0 Qm (F0 m 81 ls [.int y_15, .int k]) := by
        intro y_15 H locs ls ey_15 hP hD hS hl
        refine lv_iadd hx hb dX11_markOf_81 ?_
        refine lv_topi (fun x_20 ex_20 => ?_)
        refine lv_istore_n (lv' := [(3, .int x_20), (0, .ref (Y 0)), (1, .int k), (2, .int a)]) hx hb dX11_markOf_82 rfl hl (by decide) rfl (fun ls hl => ?_)
        refine lv_iload_n hx hb dX11_markOf_83 rfl (lv_at hl 3 rfl) ?_
        refine lv_bipush (v := 6) hx hb dX11_markOf_84 (by decide) ?_
        refine lv_icmp_ne (tgt := 99) hx hb dX11_markOf_86 (by decide) (fun c_21 => ?_) (fun c_21 => ?_)
        · have d_21 := i_eqn rfl (show (6 : Int32).toInt = 6 from by decide) c_21
          refine lv_iload_n hx hb dX11_markOf_99 rfl (lv_at hl 0 rfl) ?_
          rw [hQm]
          exact mx_iret (u0 := sX11_markOf k a m_print m_traced r_of r_trace) (rv := (fun u => some (.int u.1))) (w1 := (fun u => mdW Y cI m_thrown m_status m_isThere m_kinds m_newKinds m_print m_low m_high m_lot m_taped m_latest m_length m_cursor m_token m_from m_till m_fault m_faultAt u.2.1 r_lane r_many r_item r_market r_of r_newMarket r_newStart r_newOf r_newCoin r_state r_kept r_tape r_brings r_seen r_seenOut u.2.2 ++ R)) (u := (x_20, u_14.1, u_14.2)) hx hb hr hlocks hK hS (lt_eq ey_1 (lt_eq ey_4 (lt_eq eu_14 (lt_eq ey_15 (lt_eq ex_20 ((if_neg c_21).trans rfl)))))) hP hD rfl dX11_markOf_100
        · have d_21 := i_eq rfl (show (6 : Int32).toInt = 6 from by decide) c_21
          refine lv_iload_n hx hb dX11_markOf_89 rfl (lv_at hl 0 rfl) ?_
          refine lv_aload_n hx hb dX11_markOf_90 rfl (lv_at hl 1 rfl) ?_
          refine lv_iload_n hx hb dX11_markOf_91 rfl (lv_at hl 2 rfl) ?_
          refine mx_callV (As := [.int k]) (rest := [.int x_20]) ⟨hx, hb, hml, hown, hts⟩ (mtX11_wiseSize l D cI cB cK cS Y R m_thrown m_status m_isThere m_kinds m_newKinds m_print m_low m_high m_lot m_taped m_latest m_length m_cursor m_token m_from m_till m_fault m_faultAt u_14.1 r_lane r_many r_item r_market r_of r_newMarket r_newStart r_newOf r_newCoin r_state r_kept r_tape r_brings r_seen r_seenOut u_14.2 k (by first | assumption | omega) (by first | assumption | omega) (by first | assumption | omega)) (cwV 1 hts gX11_markOf_X11_wiseSize rfl rfl rfl (by decide +kernel) ⟨Nat.le_of_ble_eq_true rfl, Nat.le_of_ble_eq_true rfl⟩) pF0_ok trivial hK hP hD hS hA 0 rfl rfl rfl rfl hl.1 rfl (Nat.le_of_ble_eq_true rfl) dX11_markOf_92 ⟨Nat.le_refl _, Nat.le_refl _⟩ (fun u_22 H locs eu_22 hP hD hS => ?_)
          refine W.eq (g2 := F0 m 95 ls [.int u_22.1, .int x_20]) rfl ?_
          have hP : va_P D vwCl (mdW Y cI m_thrown m_status m_isThere m_kinds m_newKinds m_print m_low m_high m_lot m_taped m_latest m_length m_cursor m_token m_from m_till m_fault m_faultAt u_22.2.1 r_lane r_many r_item r_market r_of r_newMarket r_newStart r_newOf r_newCoin r_state r_kept r_tape r_brings r_seen r_seenOut u_22.2.2 ++ R) H := hP
          have hD : va_D A (mdW Y cI m_thrown m_status m_isThere m_kinds m_newKinds m_print m_low m_high m_lot m_taped m_latest m_length m_cursor m_token m_from m_till m_fault m_faultAt u_22.2.1 r_lane r_many r_item r_market r_of r_newMarket r_newStart r_newOf r_newCoin r_state r_kept r_tape r_brings r_seen r_seenOut u_22.2.2 ++ R) := hD
          have hb_u_22 := sX11_wiseSize_ok (by assumption) eu_22
          refine lv_iadd hx hb dX11_markOf_95 ?_
          refine lv_goto (tgt := 100) hx hb dX11_markOf_96 (by decide) ?_
          rw [hQm]
          exact mx_iret (u0 := sX11_markOf k a m_print m_traced r_of r_trace) (rv := (fun u => some (.int u.1))) (w1 := (fun u => mdW Y cI m_thrown m_status m_isThere m_kinds m_newKinds m_print m_low m_high m_lot m_taped m_latest m_length m_cursor m_token m_from m_till m_fault m_faultAt u.2.1 r_lane r_many r_item r_market r_of r_newMarket r_newStart r_newOf r_newCoin r_state r_kept r_tape r_brings r_seen r_seenOut u.2.2 ++ R)) (u := (x_20 + u_22.1, u_22.2.1, u_22.2.2)) hx hb hr hlocks hK hS (lt_eq ey_1 (lt_eq ey_4 (lt_eq eu_14 (lt_eq ey_15 (lt_eq ex_20 ((if_pos c_21).trans (lt_eq eu_22 rfl))))))) hP hD rfl dX11_markOf_100
      refine lv_icmp_ne (tgt := 65) hx hb dX11_markOf_50 (by decide) (fun c_16 => ?_) (fun c_16 => ?_)
      · have d_16 := i_eqn rfl (show (2 : Int32).toInt = 2 from by decide) c_16
        refine lv_iload_n hx hb dX11_markOf_65 rfl (lv_at hl 2 rfl) ?_
        refine lv_iconst (v := 5) hx hb dX11_markOf_66 (by decide) ?_
        refine mx_callS (As := [.int a, .int 5]) (rest := [.int k]) ⟨hx, hb, hml, hown, hts⟩ (mtX11_isOf l D cI cB cK cS (mdW Y cI m_thrown m_status m_isThere m_kinds m_newKinds m_print m_low m_high m_lot m_taped m_latest m_length m_cursor m_token m_from m_till m_fault m_faultAt u_14.1 r_lane r_many r_item r_market r_of r_newMarket r_newStart r_newOf r_newCoin r_state r_kept r_tape r_brings r_seen r_seenOut u_14.2 ++ R) a 5) (va_cwS 2 hts gX11_markOf_X11_isOf rfl rfl rfl (by decide +kernel) ⟨Nat.le_of_ble_eq_true rfl, Nat.le_of_ble_eq_true rfl⟩) pF0_ok trivial hK hP hD hS hA rfl hl.1 rfl (Nat.le_of_ble_eq_true rfl) dX11_markOf_67 ⟨Nat.le_refl _, Nat.le_refl _⟩ (fun u_17 H locs eu_17 hP hD hS => ?_)
        refine W.eq (g2 := F0 m 70 ls [.int u_17, .int k]) rfl ?_
        have hP : va_P D vwCl (mdW Y cI m_thrown m_status m_isThere m_kinds m_newKinds m_print m_low m_high m_lot m_taped m_latest m_length m_cursor m_token m_from m_till m_fault m_faultAt u_14.1 r_lane r_many r_item r_market r_of r_newMarket r_newStart r_newOf r_newCoin r_state r_kept r_tape r_brings r_seen r_seenOut u_14.2 ++ R) H := hP
        have hD : va_D A (mdW Y cI m_thrown m_status m_isThere m_kinds m_newKinds m_print m_low m_high m_lot m_taped m_latest m_length m_cursor m_token m_from m_till m_fault m_faultAt u_14.1 r_lane r_many r_item r_market r_of r_newMarket r_newStart r_newOf r_newCoin r_state r_kept r_tape r_brings r_seen r_seenOut u_14.2 ++ R) := hD
        refine lv_if_eq (tgt := 80) hx hb dX11_markOf_70 (by decide) (fun c_18 => ?_) (fun c_18 => ?_)
        · have d_18 := i_eq rfl (show (0 : Int32).toInt = 0 from by decide) c_18
          refine lv_iconst (v := 0) hx hb dX11_markOf_80 (by decide) ?_
          exact J_15 0 H locs ls (Eq.symm ((if_neg c_16).trans (lt_eq eu_17 ((if_pos c_18).trans rfl)))) hP hD hS (lv_sub hl [0, 1, 2] rfl)
        · have d_18 := i_eqn rfl (show (0 : Int32).toInt = 0 from by decide) c_18
          refine lv_aload_n hx hb dX11_markOf_73 rfl (lv_at hl 0 rfl) ?_
          refine va_get (D := D) (ci := 9) (v := .int m_print) (C := RX11) (T := TX11) (N := 35) hx hb hts iX11 hown hK hP 0 rfl rfl 16 (by decide) k185 (fun _ h9 => h9) rfl dX11_markOf_74 ?_
          refine lv_goto (tgt := 81) hx hb dX11_markOf_77 (by decide) ?_
          exact J_15 m_print H locs ls (Eq.symm ((if_neg c_16).trans (lt_eq eu_17 ((if_neg c_18).trans rfl)))) hP hD hS (lv_sub hl [0, 1, 2] rfl)
      · have d_16 := i_eq rfl (show (2 : Int32).toInt = 2 from by decide) c_16
        refine lv_bipush (v := 10) hx hb dX11_markOf_53 (by decide) ?_
        refine lv_aload_n hx hb dX11_markOf_55 rfl (lv_at hl 0 rfl) ?_
        refine lv_iload_n hx hb dX11_markOf_56 rfl (lv_at hl 1 rfl) ?_
        refine lv_iconst (v := 1) hx hb dX11_markOf_57 (by decide) ?_
        refine mx_callV (As := [.int k, .int 1]) (rest := [.int 10, .int k]) ⟨hx, hb, hml, hown, hts⟩ (mtX11_told l D cI cB cK cS Y R m_thrown m_status m_isThere m_kinds m_newKinds m_print m_low m_high m_lot m_taped m_latest m_length m_cursor m_token m_from m_till m_fault m_faultAt u_14.1 r_lane r_many r_item r_market r_of r_newMarket r_newStart r_newOf r_newCoin r_state r_kept r_tape r_brings r_seen r_seenOut u_14.2 k 1 (vp_in_iff.mpr (by rw [show (6 * k + 1).toInt = ((6 * k.toInt) + 1) from (i_addv (i_mulv (show (6 : Int32).toInt = 6 from by decide) rfl (by omega) (by omega)) (show (1 : Int32).toInt = 1 from by decide) (by omega) (by omega))]; constructor <;> omega))) (cwV 2 hts gX11_markOf_X11_told rfl rfl rfl (by decide +kernel) ⟨Nat.le_of_ble_eq_true rfl, Nat.le_of_ble_eq_true rfl⟩) pF0_ok trivial hK hP hD hS hA 0 rfl rfl rfl rfl hl.1 rfl (Nat.le_of_ble_eq_true rfl) dX11_markOf_58 ⟨Nat.le_refl _, Nat.le_refl _⟩ (fun u_19 H locs eu_19 hP hD hS => ?_)
        refine W.eq (g2 := F0 m 61 ls [.int u_19, .int 10, .int k]) rfl ?_
        have hP : va_P D vwCl (mdW Y cI m_thrown m_status m_isThere m_kinds m_newKinds m_print m_low m_high m_lot m_taped m_latest m_length m_cursor m_token m_from m_till m_fault m_faultAt u_14.1 r_lane r_many r_item r_market r_of r_newMarket r_newStart r_newOf r_newCoin r_state r_kept r_tape r_brings r_seen r_seenOut u_14.2 ++ R) H := hP
        have hD : va_D A (mdW Y cI m_thrown m_status m_isThere m_kinds m_newKinds m_print m_low m_high m_lot m_taped m_latest m_length m_cursor m_token m_from m_till m_fault m_faultAt u_14.1 r_lane r_many r_item r_market r_of r_newMarket r_newStart r_newOf r_newCoin r_state r_kept r_tape r_brings r_seen r_seenOut u_14.2 ++ R) := hD
        refine lv_imul hx hb dX11_markOf_61 ?_
        refine lv_goto (tgt := 81) hx hb dX11_markOf_62 (by decide) ?_
        exact J_15 (10 * u_19) H locs ls (Eq.symm ((if_pos c_16).trans (lt_eq eu_19 rfl))) hP hD hS (lv_sub hl [0, 1, 2] rfl)
    refine lv_icmp_eq (tgt := 25) hx hb dX11_markOf_14 (by decide) (fun c_5 => ?_) (fun c_5 => ?_)
    · have d_5 := i_eq rfl (show (2 : Int32).toInt = 2 from by decide) c_5
      refine lv_aload_n hx hb dX11_markOf_25 rfl (lv_at hl 0 rfl) ?_
      refine lv_iload_n hx hb dX11_markOf_26 rfl (lv_at hl 2 rfl) ?_
      refine lv_iconst (v := 2) hx hb dX11_markOf_27 (by decide) ?_
      have J_6 : ∀ (y_6 : Int32) (H : Heap) (locs : List Loc) (ls : Array Slot), y_6 = (if a = 2 then (21) else (22)) → va_P D vwCl (mdW Y cI m_thrown m_status m_isThere m_kinds m_newKinds m_print m_low m_high m_lot m_taped m_latest m_length m_cursor m_token m_from m_till m_fault m_faultAt y_1.1 r_lane r_many r_item r_market r_of r_newMarket r_newStart r_newOf r_newCoin r_state r_kept r_tape r_brings r_seen r_seenOut y_1.2 ++ R) H → va_D A (mdW Y cI m_thrown m_status m_isThere m_kinds m_newKinds m_print m_low m_high m_lot m_taped m_latest m_length m_cursor m_token m_from m_till m_fault m_faultAt y_1.1 r_lane r_many r_item r_market r_of r_newMarket r_newStart r_newOf r_newCoin r_state r_kept r_tape r_brings r_seen r_seenOut y_1.2 ++ R) → va_S A s.heap H locs → lv_has ls 4 [(0, .ref (Y 0)), (1, .int k), (2, .int a)] → W p l e (rmX 3) s m ([.ref (Y 0), .int k, .int a] : List Value).toArray below meth c H locs 0 0 Qm (F0 m 38 ls [.int y_6, .ref (Y 0)]) := by
        intro y_6 H locs ls ey_6 hP hD hS hl
        refine mx_callV (As := [.int y_6]) (rest := []) ⟨hx, hb, hml, hown, hts⟩ (mtX11_began l D cI cB cK cS Y R m_thrown m_status m_isThere m_kinds m_newKinds m_print m_low m_high m_lot m_taped m_latest m_length m_cursor m_token m_from m_till m_fault m_faultAt y_1.1 r_lane r_many r_item r_market r_of r_newMarket r_newStart r_newOf r_newCoin r_state r_kept r_tape r_brings r_seen r_seenOut y_1.2 y_6 (by first | assumption | omega)) (cwV 1 hts gX11_markOf_X11_began rfl rfl rfl (by decide +kernel) ⟨Nat.le_of_ble_eq_true rfl, Nat.le_of_ble_eq_true rfl⟩) pF0_ok trivial hK hP hD hS hA 0 rfl rfl rfl rfl hl.1 rfl (Nat.le_of_ble_eq_true rfl) dX11_markOf_38 ⟨Nat.le_refl _, Nat.le_refl _⟩ (fun u_8 H locs eu_8 hP hD hS => ?_)
        refine W.eq (g2 := F0 m 41 ls []) rfl ?_
        have hP : va_P D vwCl (mdW Y cI m_thrown m_status m_isThere m_kinds m_newKinds m_print m_low m_high m_lot m_taped m_latest m_length m_cursor m_token m_from m_till m_fault m_faultAt u_8.1 r_lane r_many r_item r_market r_of r_newMarket r_newStart r_newOf r_newCoin r_state r_kept r_tape r_brings r_seen r_seenOut u_8.2 ++ R) H := hP
        have hD : va_D A (mdW Y cI m_thrown m_status m_isThere m_kinds m_newKinds m_print m_low m_high m_lot m_taped m_latest m_length m_cursor m_token m_from m_till m_fault m_faultAt u_8.1 r_lane r_many r_item r_market r_of r_newMarket r_newStart r_newOf r_newCoin r_state r_kept r_tape r_brings r_seen r_seenOut u_8.2 ++ R) := hD
        have hb_u_8 := sX11_began_ok (by assumption) eu_8
        exact J_4 (u_8.1, u_8.2) H locs ls (Eq.symm ((if_pos c_5).trans (lt_eq ey_6 (lt_eq eu_8 rfl)))) hP hD hS (lv_sub hl [0, 1, 2] rfl)
      refine lv_icmp_ne (tgt := 36) hx hb dX11_markOf_28 (by decide) (fun c_7 => ?_) (fun c_7 => ?_)
      · have d_7 := i_eqn rfl (show (2 : Int32).toInt = 2 from by decide) c_7
        refine lv_bipush (v := 22) hx hb dX11_markOf_36 (by decide) ?_
        exact J_6 22 H locs ls (Eq.symm ((if_neg c_7).trans rfl)) hP hD hS (lv_sub hl [0, 1, 2] rfl)
      · have d_7 := i_eq rfl (show (2 : Int32).toInt = 2 from by decide) c_7
        refine lv_bipush (v := 21) hx hb dX11_markOf_31 (by decide) ?_
        refine lv_goto (tgt := 38) hx hb dX11_markOf_33 (by decide) ?_
        exact J_6 21 H locs ls (Eq.symm ((if_pos c_7).trans rfl)) hP hD hS (lv_sub hl [0, 1, 2] rfl)
    · have d_5 := i_eqn rfl (show (2 : Int32).toInt = 2 from by decide) c_5
      refine lv_iload_n hx hb dX11_markOf_17 rfl (lv_at hl 2 rfl) ?_
      refine lv_iconst (v := 5) hx hb dX11_markOf_18 (by decide) ?_
      refine mx_callS (As := [.int a, .int 5]) (rest := []) ⟨hx, hb, hml, hown, hts⟩ (mtX11_isOf l D cI cB cK cS (mdW Y cI m_thrown m_status m_isThere m_kinds m_newKinds m_print m_low m_high m_lot m_taped m_latest m_length m_cursor m_token m_from m_till m_fault m_faultAt y_1.1 r_lane r_many r_item r_market r_of r_newMarket r_newStart r_newOf r_newCoin r_state r_kept r_tape r_brings r_seen r_seenOut y_1.2 ++ R) a 5) (va_cwS 2 hts gX11_markOf_X11_isOf rfl rfl rfl (by decide +kernel) ⟨Nat.le_of_ble_eq_true rfl, Nat.le_of_ble_eq_true rfl⟩) pF0_ok trivial hK hP hD hS hA rfl hl.1 rfl (Nat.le_of_ble_eq_true rfl) dX11_markOf_19 ⟨Nat.le_refl _, Nat.le_refl _⟩ (fun u_9 H locs eu_9 hP hD hS => ?_)
      refine W.eq (g2 := F0 m 22 ls [.int u_9]) rfl ?_
      have hP : va_P D vwCl (mdW Y cI m_thrown m_status m_isThere m_kinds m_newKinds m_print m_low m_high m_lot m_taped m_latest m_length m_cursor m_token m_from m_till m_fault m_faultAt y_1.1 r_lane r_many r_item r_market r_of r_newMarket r_newStart r_newOf r_newCoin r_state r_kept r_tape r_brings r_seen r_seenOut y_1.2 ++ R) H := hP
      have hD : va_D A (mdW Y cI m_thrown m_status m_isThere m_kinds m_newKinds m_print m_low m_high m_lot m_taped m_latest m_length m_cursor m_token m_from m_till m_fault m_faultAt y_1.1 r_lane r_many r_item r_market r_of r_newMarket r_newStart r_newOf r_newCoin r_state r_kept r_tape r_brings r_seen r_seenOut y_1.2 ++ R) := hD
      refine lv_if_eq (tgt := 41) hx hb dX11_markOf_22 (by decide) (fun c_10 => ?_) (fun c_10 => ?_)
      · have d_10 := i_eq rfl (show (0 : Int32).toInt = 0 from by decide) c_10
        exact J_4 (y_1.1, y_1.2) H locs ls (Eq.symm ((if_neg c_5).trans (lt_eq eu_9 ((if_pos c_10).trans rfl)))) hP hD hS (lv_sub hl [0, 1, 2] rfl)
      · have d_10 := i_eqn rfl (show (0 : Int32).toInt = 0 from by decide) c_10
        refine lv_aload_n hx hb dX11_markOf_25 rfl (lv_at hl 0 rfl) ?_
        refine lv_iload_n hx hb dX11_markOf_26 rfl (lv_at hl 2 rfl) ?_
        refine lv_iconst (v := 2) hx hb dX11_markOf_27 (by decide) ?_
        have J_11 : ∀ (y_11 : Int32) (H : Heap) (locs : List Loc) (ls : Array Slot), y_11 = (if a = 2 then (21) else (22)) → va_P D vwCl (mdW Y cI m_thrown m_status m_isThere m_kinds m_newKinds m_print m_low m_high m_lot m_taped m_latest m_length m_cursor m_token m_from m_till m_fault m_faultAt y_1.1 r_lane r_many r_item r_market r_of r_newMarket r_newStart r_newOf r_newCoin r_state r_kept r_tape r_brings r_seen r_seenOut y_1.2 ++ R) H → va_D A (mdW Y cI m_thrown m_status m_isThere m_kinds m_newKinds m_print m_low m_high m_lot m_taped m_latest m_length m_cursor m_token m_from m_till m_fault m_faultAt y_1.1 r_lane r_many r_item r_market r_of r_newMarket r_newStart r_newOf r_newCoin r_state r_kept r_tape r_brings r_seen r_seenOut y_1.2 ++ R) → va_S A s.heap H locs → lv_has ls 4 [(0, .ref (Y 0)), (1, .int k), (2, .int a)] → W p l e (rmX 3) s m ([.ref (Y 0), .int k, .int a] : List Value).toArray below meth c H locs 0 0 Qm (F0 m 38 ls [.int y_11, .ref (Y 0)]) := by
          intro y_11 H locs ls ey_11 hP hD hS hl
          refine mx_callV (As := [.int y_11]) (rest := []) ⟨hx, hb, hml, hown, hts⟩ (mtX11_began l D cI cB cK cS Y R m_thrown m_status m_isThere m_kinds m_newKinds m_print m_low m_high m_lot m_taped m_latest m_length m_cursor m_token m_from m_till m_fault m_faultAt y_1.1 r_lane r_many r_item r_market r_of r_newMarket r_newStart r_newOf r_newCoin r_state r_kept r_tape r_brings r_seen r_seenOut y_1.2 y_11 (by first | assumption | omega)) (cwV 1 hts gX11_markOf_X11_began rfl rfl rfl (by decide +kernel) ⟨Nat.le_of_ble_eq_true rfl, Nat.le_of_ble_eq_true rfl⟩) pF0_ok trivial hK hP hD hS hA 0 rfl rfl rfl rfl hl.1 rfl (Nat.le_of_ble_eq_true rfl) dX11_markOf_38 ⟨Nat.le_refl _, Nat.le_refl _⟩ (fun u_13 H locs eu_13 hP hD hS => ?_)
          refine W.eq (g2 := F0 m 41 ls []) rfl ?_
          have hP : va_P D vwCl (mdW Y cI m_thrown m_status m_isThere m_kinds m_newKinds m_print m_low m_high m_lot m_taped m_latest m_length m_cursor m_token m_from m_till m_fault m_faultAt u_13.1 r_lane r_many r_item r_market r_of r_newMarket r_newStart r_newOf r_newCoin r_state r_kept r_tape r_brings r_seen r_seenOut u_13.2 ++ R) H := hP
          have hD : va_D A (mdW Y cI m_thrown m_status m_isThere m_kinds m_newKinds m_print m_low m_high m_lot m_taped m_latest m_length m_cursor m_token m_from m_till m_fault m_faultAt u_13.1 r_lane r_many r_item r_market r_of r_newMarket r_newStart r_newOf r_newCoin r_state r_kept r_tape r_brings r_seen r_seenOut u_13.2 ++ R) := hD
          have hb_u_13 := sX11_began_ok (by assumption) eu_13
          exact J_4 (u_13.1, u_13.2) H locs ls (Eq.symm ((if_neg c_5).trans (lt_eq eu_9 ((if_neg c_10).trans (lt_eq ey_11 (lt_eq eu_13 rfl)))))) hP hD hS (lv_sub hl [0, 1, 2] rfl)
        refine lv_icmp_ne (tgt := 36) hx hb dX11_markOf_28 (by decide) (fun c_12 => ?_) (fun c_12 => ?_)
        · have d_12 := i_eqn rfl (show (2 : Int32).toInt = 2 from by decide) c_12
          refine lv_bipush (v := 22) hx hb dX11_markOf_36 (by decide) ?_
          exact J_11 22 H locs ls (Eq.symm ((if_neg c_12).trans rfl)) hP hD hS (lv_sub hl [0, 1, 2] rfl)
        · have d_12 := i_eq rfl (show (2 : Int32).toInt = 2 from by decide) c_12
          refine lv_bipush (v := 21) hx hb dX11_markOf_31 (by decide) ?_
          refine lv_goto (tgt := 38) hx hb dX11_markOf_33 (by decide) ?_
          exact J_11 21 H locs ls (Eq.symm ((if_pos c_12).trans rfl)) hP hD hS (lv_sub hl [0, 1, 2] rfl)
  refine lv_icmp_ne (tgt := 12) hx hb dX11_markOf_3 (by decide) (fun c_2 => ?_) (fun c_2 => ?_)
  · have d_2 := i_eqn rfl (show (6 : Int32).toInt = 6 from by decide) c_2
    exact J_1 (m_traced, r_trace) H locs ls (Eq.symm ((if_neg c_2).trans rfl)) hP hD hS (lv_sub hl [0, 1, 2] rfl)
  · have d_2 := i_eq rfl (show (6 : Int32).toInt = 6 from by decide) c_2
    refine lv_aload_n hx hb dX11_markOf_6 rfl (lv_at hl 0 rfl) ?_
    refine lv_bipush (v := 23) hx hb dX11_markOf_7 (by decide) ?_
    refine mx_callV (As := [.int 23]) (rest := []) ⟨hx, hb, hml, hown, hts⟩ (mtX11_began l D cI cB cK cS Y R m_thrown m_status m_isThere m_kinds m_newKinds m_print m_low m_high m_lot m_taped m_latest m_length m_cursor m_token m_from m_till m_fault m_faultAt m_traced r_lane r_many r_item r_market r_of r_newMarket r_newStart r_newOf r_newCoin r_state r_kept r_tape r_brings r_seen r_seenOut r_trace 23 (by first | assumption | omega)) (cwV 1 hts gX11_markOf_X11_began rfl rfl rfl (by decide +kernel) ⟨Nat.le_of_ble_eq_true rfl, Nat.le_of_ble_eq_true rfl⟩) pF0_ok trivial hK hP hD hS hA 0 rfl rfl rfl rfl hl.1 rfl (Nat.le_of_ble_eq_true rfl) dX11_markOf_9 ⟨Nat.le_refl _, Nat.le_refl _⟩ (fun u_3 H locs eu_3 hP hD hS => ?_)
    refine W.eq (g2 := F0 m 12 ls []) rfl ?_
    have hP : va_P D vwCl (mdW Y cI m_thrown m_status m_isThere m_kinds m_newKinds m_print m_low m_high m_lot m_taped m_latest m_length m_cursor m_token m_from m_till m_fault m_faultAt u_3.1 r_lane r_many r_item r_market r_of r_newMarket r_newStart r_newOf r_newCoin r_state r_kept r_tape r_brings r_seen r_seenOut u_3.2 ++ R) H := hP
    have hD : va_D A (mdW Y cI m_thrown m_status m_isThere m_kinds m_newKinds m_print m_low m_high m_lot m_taped m_latest m_length m_cursor m_token m_from m_till m_fault m_faultAt u_3.1 r_lane r_many r_item r_market r_of r_newMarket r_newStart r_newOf r_newCoin r_state r_kept r_tape r_brings r_seen r_seenOut u_3.2 ++ R) := hD
    have hb_u_3 := sX11_began_ok (by assumption) eu_3
    exact J_1 (u_3.1, u_3.2) H locs ls (Eq.symm ((if_pos c_2).trans (lt_eq eu_3 rfl))) hP hD hS (lv_sub hl [0, 1, 2] rfl)
