theorem rm_up {a b m : Nat} (h : a < b) (hm : m ≤ 41) : (rmX a).frames + 1 ≤ (rmX b).frames ∧ 8 + (m + 11) + (rmX a).locals ≤ (rmX b).locals := ⟨by show 4 * a + 1 ≤ 4 * b; omega, by show 8 + (m + 11) + 60 * a ≤ 60 * b; omega⟩
def lX0_bodyFor_7 (b : Nat) : Nat → Int32 → Int32 → Int32
  | 0, x3_7, x2_7 => (0)
  | n + 1, x3_7, x2_7 => if (nI (tbN b)) ≤ x3_7 then ((0)) else (if x2_7 < 0 then ((0)) else (if (nI (tbN b)) ≤ x2_7 then ((0)) else (if (tbF b x2_7.toNatClampNeg) = 0 then (lt (sX9_alsoOf x2_7) (fun u_6 : Int32 => lt (x3_7 + 1) (fun x_7 : Int32 => lX0_bodyFor_7 b n x_7 u_6))) else (((tbF b x2_7.toNatClampNeg))))))

def sX0_bodyFor (b : Nat) (a_way : Int32) : Int32 := lX0_bodyFor_7 b 8 0 a_way
set_option maxHeartbeats 4000000 in
set_option maxRecDepth 100000 in
theorem mtX0_bodyFor (l : Launch) (D : va_G) (cI cB cK cS : ClassId) (t ks kb : Nat → Nat) (K : Nat → Nat) (R : va_W) (b : Nat) (a_cnt : Int32) (a_way : Int32) (a_num : Int32) (a_many : Int32) (a_place : Int32) (a_print : Int32) (a_trace : Nat → Int32) (hb9 : b < 9) (hb7 : tbN b = 7) : MX l yX0_bodyFor wsX0_bodyFor (rmX 2) D (tyX cI cB cK cS) (pFs t ks kb) (akW K cI a_cnt a_way a_num a_many a_place a_print a_trace ++ R) [.ref (K 0), .ref (t b)] (sX0_bodyFor b a_way) (fun u => some (.int u)) (fun _ => akW K cI a_cnt a_way a_num a_many a_place a_print a_trace ++ R) := by
  refine mx_intro (cc := cX0_bodyFor) (maxL := 4) (ret := (some .int)) (by decide) rfl (Nat.le_of_ble_eq_true rfl) ?_
  intro p e s m below meth c A ls H locs Qm hQm hx hb hr hml hts hown hlocks hA hS hP hK hD hF hl
  have hown : s.vm.findClass RX0 = some m.cls := hown
  have hl : lv_has ls 4 [(0, .ref (K 0)), (1, .ref (t b))] := hl
  have htb := tb_le hb9
  have k21 := hts (.fieldLink RX0 21 "PigRounds$Asker" "way" "I") (by decide +kernel)
  have iX0 : ∀ w ∈ u_ws RX0 TX0 7, w ∈ wsX0_bodyFor := by decide +kernel
  refine lv_aload_n hx hb dX0_bodyFor_0 rfl (lv_at hl 0 rfl) ?_
  refine va_get (D := D) (ci := 0) (v := .int a_way) (C := RX0) (T := TX0) (N := 7) hx hb hts iX0 hown hK hP 0 rfl rfl 2 (by decide) k21 (fun _ h9 => h9) rfl dX0_bodyFor_1 ?_
  refine lv_istore_n (lv' := [(2, .int a_way), (0, .ref (K 0)), (1, .ref (t b))]) hx hb dX0_bodyFor_4 rfl hl (by decide) rfl (fun ls hl => ?_)
  refine lv_iconst (v := 0) hx hb dX0_bodyFor_5 (by decide) ?_
  refine lv_istore_n (lv' := [(3, .int 0), (2, .int a_way), (0, .ref (K 0)), (1, .ref (t b))]) hx hb dX0_bodyFor_6 rfl hl (by decide) rfl (fun ls hl => ?_)
  have L_7 : ∀ (n : Nat) (x3_7 : Int32) (x2_7 : Int32) (H : Heap) (locs : List Loc) (ls : Array Slot), 0 ≤ x3_7.toInt → x3_7.toInt ≤ 7 → (7 : Int) < x3_7.toInt + ((n : Nat) : Int) → (sX0_bodyFor b a_way = lX0_bodyFor_7 b n x3_7 x2_7) → va_P D vwCl (akW K cI a_cnt a_way a_num a_many a_place a_print a_trace ++ R) H → va_D A (akW K cI a_cnt a_way a_num a_many a_place a_print a_trace ++ R) → va_S A s.heap H locs → lv_has ls 4 [(3, .int x3_7), (2, .int x2_7), (1, .ref (t b))] → W p l e (rmX 2) s m ([.ref (K 0), .ref (t b)] : List Value).toArray below meth c H locs 0 0 Qm (F0 m 7 ls []) := by
    intro n
    induction n with
    | zero =>
      intro x3_7 x2_7 H locs ls iv_7_0 iv_7_1 iv_7_2 hT_7 hP hD hS hl
      exfalso; omega
    | succ n ih_7 =>
      intro x3_7 x2_7 H locs ls iv_7_0 iv_7_1 iv_7_2 hT_7 hP hD hS hl
      refine lv_iload_n hx hb dX0_bodyFor_7 rfl (lv_at hl 0 rfl) ?_
      refine lv_aload_n hx hb dX0_bodyFor_8 rfl (lv_at hl 2 rfl) ?_
      refine va_tlen (v := nI (tbN b)) hx hb (hF.1 b (by first | decide | assumption)).2 hS rfl dX0_bodyFor_9 ?_
      refine lv_icmp_ge (tgt := 44) hx hb dX0_bodyFor_10 (by decide) (fun c_1 => ?_) (fun c_1 => ?_)
      · have d_1 := i_le rfl rfl c_1
        refine lv_iconst (v := 0) hx hb dX0_bodyFor_44 (by decide) ?_
        rw [hQm]
        exact mx_iret (u0 := sX0_bodyFor b a_way) (rv := (fun u => some (.int u))) (w1 := (fun _ => akW K cI a_cnt a_way a_num a_many a_place a_print a_trace ++ R)) (u := (0)) hx hb hr hlocks hK hS (hT_7.trans ((if_pos c_1).trans rfl)) hP hD rfl dX0_bodyFor_45
      · have d_1 := i_len rfl rfl c_1
        refine lv_iload_n hx hb dX0_bodyFor_13 rfl (lv_at hl 1 rfl) ?_
        refine lv_if_lt (tgt := 44) hx hb dX0_bodyFor_14 (by decide) (fun c_2 => ?_) (fun c_2 => ?_)
        · have d_2 := i_lt rfl (show (0 : Int32).toInt = 0 from by decide) c_2
          refine lv_iconst (v := 0) hx hb dX0_bodyFor_44 (by decide) ?_
          rw [hQm]
          exact mx_iret (u0 := sX0_bodyFor b a_way) (rv := (fun u => some (.int u))) (w1 := (fun _ => akW K cI a_cnt a_way a_num a_many a_place a_print a_trace ++ R)) (u := (0)) hx hb hr hlocks hK hS (hT_7.trans ((if_neg c_1).trans ((if_pos c_2).trans rfl))) hP hD rfl dX0_bodyFor_45
        · have d_2 := i_ltn rfl (show (0 : Int32).toInt = 0 from by decide) c_2
          refine lv_iload_n hx hb dX0_bodyFor_17 rfl (lv_at hl 1 rfl) ?_
          refine lv_aload_n hx hb dX0_bodyFor_18 rfl (lv_at hl 2 rfl) ?_
          refine va_tlen (v := nI (tbN b)) hx hb (hF.1 b (by first | decide | assumption)).2 hS rfl dX0_bodyFor_19 ?_
          refine lv_icmp_ge (tgt := 44) hx hb dX0_bodyFor_20 (by decide) (fun c_3 => ?_) (fun c_3 => ?_)
          · have d_3 := i_le rfl rfl c_3
            refine lv_iconst (v := 0) hx hb dX0_bodyFor_44 (by decide) ?_
            rw [hQm]
            exact mx_iret (u0 := sX0_bodyFor b a_way) (rv := (fun u => some (.int u))) (w1 := (fun _ => akW K cI a_cnt a_way a_num a_many a_place a_print a_trace ++ R)) (u := (0)) hx hb hr hlocks hK hS (hT_7.trans ((if_neg c_1).trans ((if_neg c_2).trans ((if_pos c_3).trans rfl)))) hP hD rfl dX0_bodyFor_45
          · have d_3 := i_len rfl rfl c_3
            refine lv_aload_n hx hb dX0_bodyFor_23 rfl (lv_at hl 2 rfl) ?_
            refine lv_iload_n hx hb dX0_bodyFor_24 rfl (lv_at hl 1 rfl) ?_
            have q_4 : vp_in x2_7 (tbN b) := vp_in_iff.mpr ⟨by omega, by omega⟩
            refine va_ti (v := .int (tbF b x2_7.toNatClampNeg)) hx hb (hF.1 b (by first | decide | assumption)).2 hS q_4 rfl dX0_bodyFor_25 ?_
            refine lv_if_eq (tgt := 33) hx hb dX0_bodyFor_26 (by decide) (fun c_5 => ?_) (fun c_5 => ?_)
            · have d_5 := i_eq rfl (show (0 : Int32).toInt = 0 from by decide) c_5
              refine lv_iload_n hx hb dX0_bodyFor_33 rfl (lv_at hl 1 rfl) ?_
              refine mx_callS (As := [.int x2_7]) (rest := []) ⟨hx, hb, hml, hown, hts⟩ (mtX9_alsoOf l D cI cB cK cS (akW K cI a_cnt a_way a_num a_many a_place a_print a_trace ++ R) t ks kb x2_7) (va_cwS 1 hts gX0_bodyFor_X9_alsoOf rfl rfl rfl (by decide +kernel) ⟨Nat.le_of_ble_eq_true rfl, Nat.le_of_ble_eq_true rfl⟩) pFs_ok hF hK hP hD hS hA rfl hl.1 rfl (Nat.le_of_ble_eq_true rfl) dX0_bodyFor_34 ⟨Nat.le_refl _, Nat.le_refl _⟩ (fun u_6 H locs eu_6 hP hD hS => ?_)
              refine W.eq (g2 := F0 m 37 ls [.int u_6]) rfl ?_
              have hP : va_P D vwCl (akW K cI a_cnt a_way a_num a_many a_place a_print a_trace ++ R) H := hP
              have hD : va_D A (akW K cI a_cnt a_way a_num a_many a_place a_print a_trace ++ R) := hD
              refine lv_istore_n (lv' := [(2, .int u_6), (3, .int x3_7), (1, .ref (t b))]) hx hb dX0_bodyFor_37 rfl hl (by decide) rfl (fun ls hl => ?_)
              obtain ⟨x_7, ex_7⟩ : ∃ z : Int32, z = x3_7 + 1 := ⟨_, rfl⟩
              refine lv_iinc (v := x_7) (lv' := [(3, .int x_7), (2, .int u_6), (1, .ref (t b))]) hx hb dX0_bodyFor_38 hl (k := 1) rfl (by rw [ex_7]; rfl) (by decide) rfl (fun ls hl => ?_)
              refine lv_goto (tgt := 7) hx hb dX0_bodyFor_41 (by decide) ?_
              try have tx_7 : x_7.toInt = x3_7.toInt + 1 := i_inc ex_7 (by decide) (by omega) (by omega)
              exact ih_7 x_7 u_6 H locs ls (by first | omega | assumption) (by first | omega | assumption) (by first | omega | assumption) (hT_7.trans ((if_neg c_1).trans ((if_neg c_2).trans ((if_neg c_3).trans ((if_pos c_5).trans (lt_eq eu_6 (lt_eq ex_7 rfl))))))) hP hD hS (lv_sub hl [0, 1, 2] rfl)
            · have d_5 := i_eqn rfl (show (0 : Int32).toInt = 0 from by decide) c_5
              refine lv_aload_n hx hb dX0_bodyFor_29 rfl (lv_at hl 2 rfl) ?_
              refine lv_iload_n hx hb dX0_bodyFor_30 rfl (lv_at hl 1 rfl) ?_
              have q_8 : vp_in x2_7 (tbN b) := vp_in_iff.mpr ⟨by omega, by omega⟩
              refine va_ti (v := .int (tbF b x2_7.toNatClampNeg)) hx hb (hF.1 b (by first | decide | assumption)).2 hS q_8 rfl dX0_bodyFor_31 ?_
              rw [hQm]
              exact mx_iret (u0 := sX0_bodyFor b a_way) (rv := (fun u => some (.int u))) (w1 := (fun _ => akW K cI a_cnt a_way a_num a_many a_place a_print a_trace ++ R)) (u := ((tbF b x2_7.toNatClampNeg))) hx hb hr hlocks hK hS (hT_7.trans ((if_neg c_1).trans ((if_neg c_2).trans ((if_neg c_3).trans ((if_neg c_5).trans rfl))))) hP hD rfl dX0_bodyFor_32
  exact L_7 8 0 a_way H locs ls (by decide) (by decide) (by decide) rfl hP hD hS (lv_sub hl [0, 1, 3] rfl)
def sX0_answerAnew (run : Int32 → Int32 → Int32 → Int32 → Int32 → Int32 → Int32 → Int32 → (Nat → Int32) → Int32 × (Int32) × (Nat → Int32)) (w : Int32) (d : Int32) (a_cnt : Int32) (a_way : Int32) (a_num : Int32) (a_many : Int32) (a_place : Int32) (a_print : Int32) (a_trace : Nat → Int32) : Int32 × (Int32) × (Nat → Int32) := if w = 0 then (lt (sX0_bodyFor 1 a_way) (fun u_4 : Int32 => lt (run u_4 (d + 1) a_cnt a_way a_num a_many a_place a_print a_trace) (fun u_5 : Int32 × (Int32) × (Nat → Int32) => (u_5.1, u_5.2.1, u_5.2.2)))) else (lt (sX0_bodyFor 2 a_way) (fun u_2 : Int32 => lt (run u_2 (d + 1) a_cnt a_way a_num a_many a_place a_print a_trace) (fun u_3 : Int32 × (Int32) × (Nat → Int32) => (u_3.1, u_3.2.1, u_3.2.2))))
set_option maxHeartbeats 4000000 in
set_option maxRecDepth 100000 in
theorem mtX0_answerAnew (l : Launch) (D : va_G) (cI cB cK cS : ClassId) (t ks kb : Nat → Nat) (K : Nat → Nat) (R : va_W) (n9 k9 : Nat) (run : Int32 → Int32 → Int32 → Int32 → Int32 → Int32 → Int32 → Int32 → (Nat → Int32) → Int32 × (Int32) × (Nat → Int32)) (a_cnt : Int32) (a_way : Int32) (a_num : Int32) (a_many : Int32) (a_place : Int32) (a_print : Int32) (a_trace : Nat → Int32) (w : Int32) (d : Int32) (hc0 : 0 ≤ a_cnt.toInt) (hd0 : 0 ≤ d.toInt) (hdn : 20 < d.toInt + (n9 : Int) + 1) (hd20 : d.toInt ≤ 2000) (hRun : ∀ (K : Nat → Nat) (R : va_W) (a_cnt a_way a_num a_many a_place a_print : Int32) (a_trace : Nat → Int32) (w d : Int32), 0 ≤ a_cnt.toInt → 0 ≤ d.toInt → 20 < d.toInt + (n9 : Int) → MX l yX0_runBody wsX0_runBody (rmX k9) D (tyX cI cB cK cS) (pFs t ks kb) (akW K cI a_cnt a_way a_num a_many a_place a_print a_trace ++ R) [.ref (K 0), .int w, .int d] (run w d a_cnt a_way a_num a_many a_place a_print a_trace) (fun u => some (.int u.1)) (fun u => akW K cI u.2.1 a_way a_num a_many a_place a_print u.2.2 ++ R)) (hRun2 : ∀ (w d a_cnt a_way a_num a_many a_place a_print : Int32) (a_trace : Nat → Int32), 0 ≤ a_cnt.toInt → 0 ≤ (run w d a_cnt a_way a_num a_many a_place a_print a_trace).2.1.toInt) (hk9 : 3 ≤ k9) : MX l yX0_answerAnew wsX0_answerAnew (rmX (k9 + 1)) D (tyX cI cB cK cS) (pFs t ks kb) (akW K cI a_cnt a_way a_num a_many a_place a_print a_trace ++ R) [.ref (K 0), .int w, .int d] (sX0_answerAnew run w d a_cnt a_way a_num a_many a_place a_print a_trace) (fun u => some (.int u.1)) (fun u => akW K cI u.2.1 a_way a_num a_many a_place a_print u.2.2 ++ R) := by
  refine mx_intro (cc := cX0_answerAnew) (maxL := 3) (ret := (some .int)) (by decide) rfl (Nat.le_of_ble_eq_true rfl) ?_
  intro p e s m below meth c A ls H locs Qm hQm hx hb hr hml hts hown hlocks hA hS hP hK hD hF hl
  have hown : s.vm.findClass RX0 = some m.cls := hown
  have hl : lv_has ls 3 [(0, .ref (K 0)), (1, .int w), (2, .int d)] := hl
  have hd1 : (d + 1).toInt = d.toInt + 1 := i_addv (a := d) rfl (show (1 : Int32).toInt = 1 from by decide) (by omega) (by omega)
  have k49 := hts (.fieldLink RX0 49 "PigRounds$Asker" "MARK_BODIES" "[I") (by decide +kernel)
  have k46 := hts (.fieldLink RX0 46 "PigRounds$Asker" "SIZE_BODIES" "[I") (by decide +kernel)
  refine lv_aload_n hx hb dX0_answerAnew_0 rfl (lv_at hl 0 rfl) ?_
  refine lv_aload_n hx hb dX0_answerAnew_1 rfl (lv_at hl 0 rfl) ?_
  refine lv_iload_n hx hb dX0_answerAnew_2 rfl (lv_at hl 1 rfl) ?_
  refine lv_if_ne (tgt := 12) hx hb dX0_answerAnew_3 (by decide) (fun c_1 => ?_) (fun c_1 => ?_)
  · refine va_gets (v := .ref (t 2)) hx hb (hF.1 2 (by decide)).1 hS hown k49 (fun _ h9 => h9) dX0_answerAnew_12 ?_
    refine mx_callV (As := [.ref (t 2)]) (rest := [.ref (K 0)]) ⟨hx, hb, hml, hown, hts⟩ (mtX0_bodyFor l D cI cB cK cS t ks kb K R 2 a_cnt a_way a_num a_many a_place a_print a_trace (by decide) (by decide)) (cwV 1 hts gX0_answerAnew_X0_bodyFor rfl rfl rfl (by decide +kernel) (rm_up (by omega) (by decide))) pFs_ok hF hK hP hD hS hA 0 rfl rfl rfl rfl hl.1 rfl (Nat.le_of_ble_eq_true rfl) dX0_answerAnew_15 ⟨Nat.le_refl _, Nat.le_refl _⟩ (fun u_2 H locs eu_2 hP hD hS => ?_)
    refine W.eq (g2 := F0 m 18 ls [.int u_2, .ref (K 0)]) rfl ?_
    have hP : va_P D vwCl (akW K cI a_cnt a_way a_num a_many a_place a_print a_trace ++ R) H := hP
    have hD : va_D A (akW K cI a_cnt a_way a_num a_many a_place a_print a_trace ++ R) := hD
    refine lv_iload_n hx hb dX0_answerAnew_18 rfl (lv_at hl 2 rfl) ?_
    refine lv_iconst (v := 1) hx hb dX0_answerAnew_19 (by decide) ?_
    refine lv_iadd hx hb dX0_answerAnew_20 ?_
    refine mx_callV (As := [.int u_2, .int (d + 1)]) (rest := []) ⟨hx, hb, hml, hown, hts⟩ (hRun K R a_cnt a_way a_num a_many a_place a_print a_trace u_2 (d + 1) (by first | assumption | omega) (by rw [hd1]; omega) (by rw [hd1]; omega)) (cwV 2 hts gX0_answerAnew_X0_runBody rfl rfl rfl (by decide +kernel) (rm_up (by omega) (by decide))) pFs_ok hF hK hP hD hS hA 0 rfl rfl rfl rfl hl.1 rfl (Nat.le_of_ble_eq_true rfl) dX0_answerAnew_21 ⟨Nat.le_refl _, Nat.le_refl _⟩ (fun u_3 H locs eu_3 hP hD hS => ?_)
    refine W.eq (g2 := F0 m 24 ls [.int u_3.1]) rfl ?_
    have hP : va_P D vwCl (akW K cI u_3.2.1 a_way a_num a_many a_place a_print u_3.2.2 ++ R) H := hP
    have hD : va_D A (akW K cI u_3.2.1 a_way a_num a_many a_place a_print u_3.2.2 ++ R) := hD
    have hc_u_3 : 0 ≤ u_3.2.1.toInt := by rw [eu_3]; exact hRun2 _ _ _ _ _ _ _ _ _ (by assumption)
    rw [hQm]
    exact mx_iret (u0 := sX0_answerAnew run w d a_cnt a_way a_num a_many a_place a_print a_trace) (rv := (fun u => some (.int u.1))) (w1 := (fun u => akW K cI u.2.1 a_way a_num a_many a_place a_print u.2.2 ++ R)) (u := (u_3.1, u_3.2.1, u_3.2.2)) hx hb hr hlocks hK hS ((if_neg c_1).trans (lt_eq eu_2 (lt_eq eu_3 rfl))) hP hD rfl dX0_answerAnew_24
  · refine va_gets (v := .ref (t 1)) hx hb (hF.1 1 (by decide)).1 hS hown k46 (fun _ h9 => h9) dX0_answerAnew_6 ?_
    refine lv_goto (tgt := 15) hx hb dX0_answerAnew_9 (by decide) ?_
    refine mx_callV (As := [.ref (t 1)]) (rest := [.ref (K 0)]) ⟨hx, hb, hml, hown, hts⟩ (mtX0_bodyFor l D cI cB cK cS t ks kb K R 1 a_cnt a_way a_num a_many a_place a_print a_trace (by decide) (by decide)) (cwV 1 hts gX0_answerAnew_X0_bodyFor rfl rfl rfl (by decide +kernel) (rm_up (by omega) (by decide))) pFs_ok hF hK hP hD hS hA 0 rfl rfl rfl rfl hl.1 rfl (Nat.le_of_ble_eq_true rfl) dX0_answerAnew_15 ⟨Nat.le_refl _, Nat.le_refl _⟩ (fun u_4 H locs eu_4 hP hD hS => ?_)
    refine W.eq (g2 := F0 m 18 ls [.int u_4, .ref (K 0)]) rfl ?_
    have hP : va_P D vwCl (akW K cI a_cnt a_way a_num a_many a_place a_print a_trace ++ R) H := hP
    have hD : va_D A (akW K cI a_cnt a_way a_num a_many a_place a_print a_trace ++ R) := hD
    refine lv_iload_n hx hb dX0_answerAnew_18 rfl (lv_at hl 2 rfl) ?_
    refine lv_iconst (v := 1) hx hb dX0_answerAnew_19 (by decide) ?_
    refine lv_iadd hx hb dX0_answerAnew_20 ?_
    refine mx_callV (As := [.int u_4, .int (d + 1)]) (rest := []) ⟨hx, hb, hml, hown, hts⟩ (hRun K R a_cnt a_way a_num a_many a_place a_print a_trace u_4 (d + 1) (by first | assumption | omega) (by rw [hd1]; omega) (by rw [hd1]; omega)) (cwV 2 hts gX0_answerAnew_X0_runBody rfl rfl rfl (by decide +kernel) (rm_up (by omega) (by decide))) pFs_ok hF hK hP hD hS hA 0 rfl rfl rfl rfl hl.1 rfl (Nat.le_of_ble_eq_true rfl) dX0_answerAnew_21 ⟨Nat.le_refl _, Nat.le_refl _⟩ (fun u_5 H locs eu_5 hP hD hS => ?_)
    refine W.eq (g2 := F0 m 24 ls [.int u_5.1]) rfl ?_
    have hP : va_P D vwCl (akW K cI u_5.2.1 a_way a_num a_many a_place a_print u_5.2.2 ++ R) H := hP
    have hD : va_D A (akW K cI u_5.2.1 a_way a_num a_many a_place a_print u_5.2.2 ++ R) := hD
    have hc_u_5 : 0 ≤ u_5.2.1.toInt := by rw [eu_5]; exact hRun2 _ _ _ _ _ _ _ _ _ (by assumption)
    rw [hQm]
    exact mx_iret (u0 := sX0_answerAnew run w d a_cnt a_way a_num a_many a_place a_print a_trace) (rv := (fun u => some (.int u.1))) (w1 := (fun u => akW K cI u.2.1 a_way a_num a_many a_place a_print u.2.2 ++ R)) (u := (u_5.1, u_5.2.1, u_5.2.2)) hx hb hr hlocks hK hS ((if_pos c_1).trans (lt_eq eu_4 (lt_eq eu_5 rfl))) hP hD rfl dX0_answerAnew_24
theorem sX0_answerAnew_c (run : Int32 → Int32 → Int32 → Int32 → Int32 → Int32 → Int32 → Int32 → (Nat → Int32) → Int32 × (Int32) × (Nat → Int32)) (hRun2 : ∀ (w d a_cnt a_way a_num a_many a_place a_print : Int32) (a_trace : Nat → Int32), 0 ≤ a_cnt.toInt → 0 ≤ (run w d a_cnt a_way a_num a_many a_place a_print a_trace).2.1.toInt) (w d a_cnt a_way a_num a_many a_place a_print : Int32) (a_trace : Nat → Int32) (h : 0 ≤ a_cnt.toInt) : 0 ≤ (sX0_answerAnew run w d a_cnt a_way a_num a_many a_place a_print a_trace).2.1.toInt := by
  unfold sX0_answerAnew
  by_cases c : w = 0
  · rw [if_pos c]; exact hRun2 _ _ _ _ _ _ _ _ _ h
  · rw [if_neg c]; exact hRun2 _ _ _ _ _ _ _ _ _ h
theorem sX0_leaveInTrace_c {k a_cnt : Int32} {a_trace : Nat → Int32} {u : (Int32) × (Nat → Int32)} (h : 0 ≤ a_cnt.toInt) (e : u = sX0_leaveInTrace k a_cnt a_trace) : 0 ≤ u.1.toInt := by
  rw [e]
  unfold sX0_leaveInTrace
  show (fun r : (Int32) × (Nat → Int32) => 0 ≤ r.1.toInt) _
  refine if_P (fun r : (Int32) × (Nat → Int32) => 0 ≤ r.1.toInt) (fun c => ?_) (fun c => ?_)
  · exact h
  · refine lt_P (fun _ => True) (fun r : (Int32) × (Nat → Int32) => 0 ≤ r.1.toInt) trivial (fun _ _ => ?_)
    have d := i_len (show (16 : Int32).toInt = 16 from by decide) rfl c
    show 0 ≤ (a_cnt + 1).toInt
    rw [i_addv (a := a_cnt) rfl (show (1 : Int32).toInt = 1 from by decide) (by omega) (by omega)]
    omega
def sX0_step (run : Int32 → Int32 → Int32 → Int32 → Int32 → Int32 → Int32 → Int32 → (Nat → Int32) → Int32 × (Int32) × (Nat → Int32)) (w : Int32) (d : Int32) (a_cnt : Int32) (a_way : Int32) (a_num : Int32) (a_many : Int32) (a_place : Int32) (a_print : Int32) (a_trace : Nat → Int32) : Int32 × (Int32) × (Nat → Int32) := if d ≤ 20 then (lt (sX0_leaveInTrace w a_cnt a_trace) (fun u_2 : (Int32) × (Nat → Int32) => if w = 10 then ((a_many, u_2.1, u_2.2)) else (if w = 11 then (lt (run 10 (d + 1) u_2.1 a_way a_num a_many a_place a_print u_2.2) (fun u_5 : Int32 × (Int32) × (Nat → Int32) => lt (sX0_answerAnew run 1 (d + 1) u_5.2.1 a_way a_num a_many a_place a_print u_5.2.2) (fun u_6 : Int32 × (Int32) × (Nat → Int32) => (u_5.1 + u_6.1, u_6.2.1, u_6.2.2)))) else (if w = 12 then (lt (run 11 (d + 1) u_2.1 a_way a_num a_many a_place a_print u_2.2) (fun u_8 : Int32 × (Int32) × (Nat → Int32) => (2 * u_8.1, u_8.2.1, u_8.2.2))) else (if w = 13 then (lt (run 12 (d + 1) u_2.1 a_way a_num a_many a_place a_print u_2.2) (fun u_10 : Int32 × (Int32) × (Nat → Int32) => (-u_10.1, u_10.2.1, u_10.2.2))) else (if w = 14 then (lt (run 10 (d + 1) u_2.1 a_way a_num a_many a_place a_print u_2.2) (fun u_12 : Int32 × (Int32) × (Nat → Int32) => (3 * u_12.1, u_12.2.1, u_12.2.2))) else (if w = 15 then ((0, u_2.1, u_2.2)) else (if w = 16 then ((0, u_2.1, u_2.2)) else (if w = 17 then ((0, u_2.1, u_2.2)) else (if w = 18 then ((0, u_2.1, u_2.2)) else (if w = 19 then ((0, u_2.1, u_2.2)) else (if w = 20 then ((a_place, u_2.1, u_2.2)) else (if w = 21 then (lt (run 20 (d + 1) u_2.1 a_way a_num a_many a_place a_print u_2.2) (fun u_20 : Int32 × (Int32) × (Nat → Int32) => (u_20.1 + (10 * a_num), u_20.2.1, u_20.2.2))) else (if w = 22 then (lt (run 20 (d + 1) u_2.1 a_way a_num a_many a_place a_print u_2.2) (fun u_22 : Int32 × (Int32) × (Nat → Int32) => (u_22.1 + a_print, u_22.2.1, u_22.2.2))) else (if w = 23 then (lt (run 22 (d + 1) u_2.1 a_way a_num a_many a_place a_print u_2.2) (fun u_24 : Int32 × (Int32) × (Nat → Int32) => lt (sX0_answerAnew run 0 (d + 1) u_24.2.1 a_way a_num a_many a_place a_print u_24.2.2) (fun u_25 : Int32 × (Int32) × (Nat → Int32) => (u_24.1 + u_25.1, u_25.2.1, u_25.2.2)))) else ((0, u_2.1, u_2.2))))))))))))))))) else ((0, a_cnt, a_trace))
set_option maxHeartbeats 4000000 in
set_option maxRecDepth 100000 in
theorem mtX0_step (l : Launch) (D : va_G) (cI cB cK cS : ClassId) (t ks kb : Nat → Nat) (K : Nat → Nat) (R : va_W) (n9 k9 : Nat) (run : Int32 → Int32 → Int32 → Int32 → Int32 → Int32 → Int32 → Int32 → (Nat → Int32) → Int32 × (Int32) × (Nat → Int32)) (a_cnt : Int32) (a_way : Int32) (a_num : Int32) (a_many : Int32) (a_place : Int32) (a_print : Int32) (a_trace : Nat → Int32) (w : Int32) (d : Int32) (hc0 : 0 ≤ a_cnt.toInt) (hd0 : 0 ≤ d.toInt) (hdn : 20 < d.toInt + (n9 : Int) + 1) (hRun : ∀ (K : Nat → Nat) (R : va_W) (a_cnt a_way a_num a_many a_place a_print : Int32) (a_trace : Nat → Int32) (w d : Int32), 0 ≤ a_cnt.toInt → 0 ≤ d.toInt → 20 < d.toInt + (n9 : Int) → MX l yX0_runBody wsX0_runBody (rmX k9) D (tyX cI cB cK cS) (pFs t ks kb) (akW K cI a_cnt a_way a_num a_many a_place a_print a_trace ++ R) [.ref (K 0), .int w, .int d] (run w d a_cnt a_way a_num a_many a_place a_print a_trace) (fun u => some (.int u.1)) (fun u => akW K cI u.2.1 a_way a_num a_many a_place a_print u.2.2 ++ R)) (hRun2 : ∀ (w d a_cnt a_way a_num a_many a_place a_print : Int32) (a_trace : Nat → Int32), 0 ≤ a_cnt.toInt → 0 ≤ (run w d a_cnt a_way a_num a_many a_place a_print a_trace).2.1.toInt) (hk9 : 3 ≤ k9) : MX l yX0_runBody wsX0_runBody (rmX (k9 + 2)) D (tyX cI cB cK cS) (pFs t ks kb) (akW K cI a_cnt a_way a_num a_many a_place a_print a_trace ++ R) [.ref (K 0), .int w, .int d] (sX0_step run w d a_cnt a_way a_num a_many a_place a_print a_trace) (fun u => some (.int u.1)) (fun u => akW K cI u.2.1 a_way a_num a_many a_place a_print u.2.2 ++ R) := by
  refine mx_intro (cc := cX0_runBody) (maxL := 3) (ret := (some .int)) (by decide) rfl (Nat.le_of_ble_eq_true rfl) ?_
  intro p e s m below meth c A ls H locs Qm hQm hx hb hr hml hts hown hlocks hA hS hP hK hD hF hl
  have hown : s.vm.findClass RX0 = some m.cls := hown
  have hl : lv_has ls 3 [(0, .ref (K 0)), (1, .int w), (2, .int d)] := hl
  have hd1 : d.toInt ≤ 2000 → (d + 1).toInt = d.toInt + 1 := fun _ => i_addv (a := d) rfl (show (1 : Int32).toInt = 1 from by decide) (by omega) (by omega)
  have k27 := hts (.fieldLink RX0 27 "PigRounds$Asker" "many" "I") (by decide +kernel)
  have k30 := hts (.fieldLink RX0 30 "PigRounds$Asker" "place" "I") (by decide +kernel)
  have k24 := hts (.fieldLink RX0 24 "PigRounds$Asker" "number" "I") (by decide +kernel)
  have k33 := hts (.fieldLink RX0 33 "PigRounds$Asker" "printed" "I") (by decide +kernel)
  have iX0 : ∀ w ∈ u_ws RX0 TX0 7, w ∈ wsX0_runBody := by decide +kernel
  refine lv_iload_n hx hb dX0_runBody_0 rfl (lv_at hl 2 rfl) ?_
  refine lv_bipush (v := 20) hx hb dX0_runBody_1 (by decide) ?_
  refine lv_icmp_le (tgt := 8) hx hb dX0_runBody_3 (by decide) (fun c_1 => ?_) (fun c_1 => ?_)
  · have d_1 := i_le rfl (show (20 : Int32).toInt = 20 from by decide) c_1
    have hd1 := hd1 (by omega)
    refine lv_aload_n hx hb dX0_runBody_8 rfl (lv_at hl 0 rfl) ?_
    refine lv_iload_n hx hb dX0_runBody_9 rfl (lv_at hl 1 rfl) ?_
    refine mx_callV (As := [.int w]) (rest := []) ⟨hx, hb, hml, hown, hts⟩ (mtX0_leaveInTrace l D cI cB cK cS K R a_cnt a_way a_num a_many a_place a_print a_trace w (by first | assumption | omega)) (cwV 1 hts gX0_runBody_X0_leaveInTrace rfl rfl rfl (by decide +kernel) (rm_up (by omega) (by decide))) pF0_ok trivial hK hP hD hS hA 0 rfl rfl rfl rfl hl.1 rfl (Nat.le_of_ble_eq_true rfl) dX0_runBody_10 ⟨Nat.le_refl _, Nat.le_refl _⟩ (fun u_2 H locs eu_2 hP hD hS => ?_)
    refine W.eq (g2 := F0 m 13 ls []) rfl ?_
    have hP : va_P D vwCl (akW K cI u_2.1 a_way a_num a_many a_place a_print u_2.2 ++ R) H := hP
    have hD : va_D A (akW K cI u_2.1 a_way a_num a_many a_place a_print u_2.2 ++ R) := hD
    have hc_u_2 := sX0_leaveInTrace_c (by assumption) eu_2
    refine lv_iload_n hx hb dX0_runBody_13 rfl (lv_at hl 1 rfl) ?_
    rcases Classical.em (w = 10) with c_3 | c_3
    · refine lv_tableIn (tgt := 84) hx hb dX0_runBody_14 (by rw [c_3]; decide) (by rw [c_3]; decide) (by rw [c_3]; rfl) (by decide) ?_
      have d_3 := i_eq rfl (show (10 : Int32).toInt = 10 from by decide) c_3
      refine lv_aload_n hx hb dX0_runBody_84 rfl (lv_at hl 0 rfl) ?_
      refine va_get (D := D) (ci := 0) (v := .int a_many) (C := RX0) (T := TX0) (N := 7) hx hb hts iX0 hown hK hP 0 rfl rfl 4 (by decide) k27 (fun _ h9 => h9) rfl dX0_runBody_85 ?_
      rw [hQm]
      exact mx_iret (u0 := sX0_step run w d a_cnt a_way a_num a_many a_place a_print a_trace) (rv := (fun u => some (.int u.1))) (w1 := (fun u => akW K cI u.2.1 a_way a_num a_many a_place a_print u.2.2 ++ R)) (u := (a_many, u_2.1, u_2.2)) hx hb hr hlocks hK hS ((if_pos c_1).trans (lt_eq eu_2 ((if_pos c_3).trans rfl))) hP hD rfl dX0_runBody_88
    · rcases Classical.em (w = 11) with c_4 | c_4
      · refine lv_tableIn (tgt := 89) hx hb dX0_runBody_14 (by rw [c_4]; decide) (by rw [c_4]; decide) (by rw [c_4]; rfl) (by decide) ?_
        have d_4 := i_eq rfl (show (11 : Int32).toInt = 11 from by decide) c_4
        refine lv_aload_n hx hb dX0_runBody_89 rfl (lv_at hl 0 rfl) ?_
        refine lv_bipush (v := 10) hx hb dX0_runBody_90 (by decide) ?_
        refine lv_iload_n hx hb dX0_runBody_92 rfl (lv_at hl 2 rfl) ?_
        refine lv_iconst (v := 1) hx hb dX0_runBody_93 (by decide) ?_
        refine lv_iadd hx hb dX0_runBody_94 ?_
        refine mx_callV (As := [.int 10, .int (d + 1)]) (rest := []) ⟨hx, hb, hml, hown, hts⟩ (hRun K R u_2.1 a_way a_num a_many a_place a_print u_2.2 10 (d + 1) (by first | assumption | omega) (by rw [hd1]; omega) (by rw [hd1]; omega)) (cwV 2 hts gX0_runBody_X0_runBody rfl rfl rfl (by decide +kernel) (rm_up (by omega) (by decide))) pFs_ok hF hK hP hD hS hA 0 rfl rfl rfl rfl hl.1 rfl (Nat.le_of_ble_eq_true rfl) dX0_runBody_95 ⟨Nat.le_refl _, Nat.le_refl _⟩ (fun u_5 H locs eu_5 hP hD hS => ?_)
        refine W.eq (g2 := F0 m 98 ls [.int u_5.1]) rfl ?_
        have hP : va_P D vwCl (akW K cI u_5.2.1 a_way a_num a_many a_place a_print u_5.2.2 ++ R) H := hP
        have hD : va_D A (akW K cI u_5.2.1 a_way a_num a_many a_place a_print u_5.2.2 ++ R) := hD
        have hc_u_5 : 0 ≤ u_5.2.1.toInt := by rw [eu_5]; exact hRun2 _ _ _ _ _ _ _ _ _ (by assumption)
        refine lv_aload_n hx hb dX0_runBody_98 rfl (lv_at hl 0 rfl) ?_
        refine lv_iconst (v := 1) hx hb dX0_runBody_99 (by decide) ?_
        refine lv_iload_n hx hb dX0_runBody_100 rfl (lv_at hl 2 rfl) ?_
        refine lv_iconst (v := 1) hx hb dX0_runBody_101 (by decide) ?_
        refine lv_iadd hx hb dX0_runBody_102 ?_
        refine mx_callV (As := [.int 1, .int (d + 1)]) (rest := [.int u_5.1]) ⟨hx, hb, hml, hown, hts⟩ (mtX0_answerAnew l D cI cB cK cS t ks kb K R n9 k9 run u_5.2.1 a_way a_num a_many a_place a_print u_5.2.2 1 (d + 1) (by first | assumption | omega) (by rw [hd1]; omega) (by rw [hd1]; omega) (by rw [hd1]; omega) hRun hRun2 hk9) (cwV 2 hts gX0_runBody_X0_answerAnew rfl rfl rfl (by decide +kernel) (rm_up (by omega) (by decide))) pFs_ok hF hK hP hD hS hA 0 rfl rfl rfl rfl hl.1 rfl (Nat.le_of_ble_eq_true rfl) dX0_runBody_103 ⟨Nat.le_refl _, Nat.le_refl _⟩ (fun u_6 H locs eu_6 hP hD hS => ?_)
        refine W.eq (g2 := F0 m 106 ls [.int u_6.1, .int u_5.1]) rfl ?_
        have hP : va_P D vwCl (akW K cI u_6.2.1 a_way a_num a_many a_place a_print u_6.2.2 ++ R) H := hP
        have hD : va_D A (akW K cI u_6.2.1 a_way a_num a_many a_place a_print u_6.2.2 ++ R) := hD
        refine lv_iadd hx hb dX0_runBody_106 ?_
        rw [hQm]
        exact mx_iret (u0 := sX0_step run w d a_cnt a_way a_num a_many a_place a_print a_trace) (rv := (fun u => some (.int u.1))) (w1 := (fun u => akW K cI u.2.1 a_way a_num a_many a_place a_print u.2.2 ++ R)) (u := (u_5.1 + u_6.1, u_6.2.1, u_6.2.2)) hx hb hr hlocks hK hS ((if_pos c_1).trans (lt_eq eu_2 ((if_neg c_3).trans ((if_pos c_4).trans (lt_eq eu_5 (lt_eq eu_6 rfl)))))) hP hD rfl dX0_runBody_107
      · rcases Classical.em (w = 12) with c_7 | c_7
        · refine lv_tableIn (tgt := 108) hx hb dX0_runBody_14 (by rw [c_7]; decide) (by rw [c_7]; decide) (by rw [c_7]; rfl) (by decide) ?_
          have d_7 := i_eq rfl (show (12 : Int32).toInt = 12 from by decide) c_7
          refine lv_iconst (v := 2) hx hb dX0_runBody_108 (by decide) ?_
          refine lv_aload_n hx hb dX0_runBody_109 rfl (lv_at hl 0 rfl) ?_
          refine lv_bipush (v := 11) hx hb dX0_runBody_110 (by decide) ?_
          refine lv_iload_n hx hb dX0_runBody_112 rfl (lv_at hl 2 rfl) ?_
          refine lv_iconst (v := 1) hx hb dX0_runBody_113 (by decide) ?_
          refine lv_iadd hx hb dX0_runBody_114 ?_
          refine mx_callV (As := [.int 11, .int (d + 1)]) (rest := [.int 2]) ⟨hx, hb, hml, hown, hts⟩ (hRun K R u_2.1 a_way a_num a_many a_place a_print u_2.2 11 (d + 1) (by first | assumption | omega) (by rw [hd1]; omega) (by rw [hd1]; omega)) (cwV 2 hts gX0_runBody_X0_runBody rfl rfl rfl (by decide +kernel) (rm_up (by omega) (by decide))) pFs_ok hF hK hP hD hS hA 0 rfl rfl rfl rfl hl.1 rfl (Nat.le_of_ble_eq_true rfl) dX0_runBody_115 ⟨Nat.le_refl _, Nat.le_refl _⟩ (fun u_8 H locs eu_8 hP hD hS => ?_)
          refine W.eq (g2 := F0 m 118 ls [.int u_8.1, .int 2]) rfl ?_
          have hP : va_P D vwCl (akW K cI u_8.2.1 a_way a_num a_many a_place a_print u_8.2.2 ++ R) H := hP
          have hD : va_D A (akW K cI u_8.2.1 a_way a_num a_many a_place a_print u_8.2.2 ++ R) := hD
          have hc_u_8 : 0 ≤ u_8.2.1.toInt := by rw [eu_8]; exact hRun2 _ _ _ _ _ _ _ _ _ (by assumption)
          refine lv_imul hx hb dX0_runBody_118 ?_
          rw [hQm]
          exact mx_iret (u0 := sX0_step run w d a_cnt a_way a_num a_many a_place a_print a_trace) (rv := (fun u => some (.int u.1))) (w1 := (fun u => akW K cI u.2.1 a_way a_num a_many a_place a_print u.2.2 ++ R)) (u := (2 * u_8.1, u_8.2.1, u_8.2.2)) hx hb hr hlocks hK hS ((if_pos c_1).trans (lt_eq eu_2 ((if_neg c_3).trans ((if_neg c_4).trans ((if_pos c_7).trans (lt_eq eu_8 rfl)))))) hP hD rfl dX0_runBody_119
        · rcases Classical.em (w = 13) with c_9 | c_9
          · refine lv_tableIn (tgt := 120) hx hb dX0_runBody_14 (by rw [c_9]; decide) (by rw [c_9]; decide) (by rw [c_9]; rfl) (by decide) ?_
            have d_9 := i_eq rfl (show (13 : Int32).toInt = 13 from by decide) c_9
            refine lv_aload_n hx hb dX0_runBody_120 rfl (lv_at hl 0 rfl) ?_
            refine lv_bipush (v := 12) hx hb dX0_runBody_121 (by decide) ?_
            refine lv_iload_n hx hb dX0_runBody_123 rfl (lv_at hl 2 rfl) ?_
            refine lv_iconst (v := 1) hx hb dX0_runBody_124 (by decide) ?_
            refine lv_iadd hx hb dX0_runBody_125 ?_
            refine mx_callV (As := [.int 12, .int (d + 1)]) (rest := []) ⟨hx, hb, hml, hown, hts⟩ (hRun K R u_2.1 a_way a_num a_many a_place a_print u_2.2 12 (d + 1) (by first | assumption | omega) (by rw [hd1]; omega) (by rw [hd1]; omega)) (cwV 2 hts gX0_runBody_X0_runBody rfl rfl rfl (by decide +kernel) (rm_up (by omega) (by decide))) pFs_ok hF hK hP hD hS hA 0 rfl rfl rfl rfl hl.1 rfl (Nat.le_of_ble_eq_true rfl) dX0_runBody_126 ⟨Nat.le_refl _, Nat.le_refl _⟩ (fun u_10 H locs eu_10 hP hD hS => ?_)
            refine W.eq (g2 := F0 m 129 ls [.int u_10.1]) rfl ?_
            have hP : va_P D vwCl (akW K cI u_10.2.1 a_way a_num a_many a_place a_print u_10.2.2 ++ R) H := hP
            have hD : va_D A (akW K cI u_10.2.1 a_way a_num a_many a_place a_print u_10.2.2 ++ R) := hD
            have hc_u_10 : 0 ≤ u_10.2.1.toInt := by rw [eu_10]; exact hRun2 _ _ _ _ _ _ _ _ _ (by assumption)
            refine lv_ineg hx hb dX0_runBody_129 ?_
            rw [hQm]
            exact mx_iret (u0 := sX0_step run w d a_cnt a_way a_num a_many a_place a_print a_trace) (rv := (fun u => some (.int u.1))) (w1 := (fun u => akW K cI u.2.1 a_way a_num a_many a_place a_print u.2.2 ++ R)) (u := (-u_10.1, u_10.2.1, u_10.2.2)) hx hb hr hlocks hK hS ((if_pos c_1).trans (lt_eq eu_2 ((if_neg c_3).trans ((if_neg c_4).trans ((if_neg c_7).trans ((if_pos c_9).trans (lt_eq eu_10 rfl))))))) hP hD rfl dX0_runBody_130
          · rcases Classical.em (w = 14) with c_11 | c_11
            · refine lv_tableIn (tgt := 131) hx hb dX0_runBody_14 (by rw [c_11]; decide) (by rw [c_11]; decide) (by rw [c_11]; rfl) (by decide) ?_
              have d_11 := i_eq rfl (show (14 : Int32).toInt = 14 from by decide) c_11
              refine lv_iconst (v := 3) hx hb dX0_runBody_131 (by decide) ?_
              refine lv_aload_n hx hb dX0_runBody_132 rfl (lv_at hl 0 rfl) ?_
              refine lv_bipush (v := 10) hx hb dX0_runBody_133 (by decide) ?_
              refine lv_iload_n hx hb dX0_runBody_135 rfl (lv_at hl 2 rfl) ?_
              refine lv_iconst (v := 1) hx hb dX0_runBody_136 (by decide) ?_
              refine lv_iadd hx hb dX0_runBody_137 ?_
              refine mx_callV (As := [.int 10, .int (d + 1)]) (rest := [.int 3]) ⟨hx, hb, hml, hown, hts⟩ (hRun K R u_2.1 a_way a_num a_many a_place a_print u_2.2 10 (d + 1) (by first | assumption | omega) (by rw [hd1]; omega) (by rw [hd1]; omega)) (cwV 2 hts gX0_runBody_X0_runBody rfl rfl rfl (by decide +kernel) (rm_up (by omega) (by decide))) pFs_ok hF hK hP hD hS hA 0 rfl rfl rfl rfl hl.1 rfl (Nat.le_of_ble_eq_true rfl) dX0_runBody_138 ⟨Nat.le_refl _, Nat.le_refl _⟩ (fun u_12 H locs eu_12 hP hD hS => ?_)
              refine W.eq (g2 := F0 m 141 ls [.int u_12.1, .int 3]) rfl ?_
              have hP : va_P D vwCl (akW K cI u_12.2.1 a_way a_num a_many a_place a_print u_12.2.2 ++ R) H := hP
              have hD : va_D A (akW K cI u_12.2.1 a_way a_num a_many a_place a_print u_12.2.2 ++ R) := hD
              have hc_u_12 : 0 ≤ u_12.2.1.toInt := by rw [eu_12]; exact hRun2 _ _ _ _ _ _ _ _ _ (by assumption)
              refine lv_imul hx hb dX0_runBody_141 ?_
              rw [hQm]
              exact mx_iret (u0 := sX0_step run w d a_cnt a_way a_num a_many a_place a_print a_trace) (rv := (fun u => some (.int u.1))) (w1 := (fun u => akW K cI u.2.1 a_way a_num a_many a_place a_print u.2.2 ++ R)) (u := (3 * u_12.1, u_12.2.1, u_12.2.2)) hx hb hr hlocks hK hS ((if_pos c_1).trans (lt_eq eu_2 ((if_neg c_3).trans ((if_neg c_4).trans ((if_neg c_7).trans ((if_neg c_9).trans ((if_pos c_11).trans (lt_eq eu_12 rfl)))))))) hP hD rfl dX0_runBody_142
            · rcases Classical.em (w = 15) with c_13 | c_13
              · refine lv_tableIn (tgt := 200) hx hb dX0_runBody_14 (by rw [c_13]; decide) (by rw [c_13]; decide) (by rw [c_13]; rfl) (by decide) ?_
                have d_13 := i_eq rfl (show (15 : Int32).toInt = 15 from by decide) c_13
                refine lv_iconst (v := 0) hx hb dX0_runBody_200 (by decide) ?_
                rw [hQm]
                exact mx_iret (u0 := sX0_step run w d a_cnt a_way a_num a_many a_place a_print a_trace) (rv := (fun u => some (.int u.1))) (w1 := (fun u => akW K cI u.2.1 a_way a_num a_many a_place a_print u.2.2 ++ R)) (u := (0, u_2.1, u_2.2)) hx hb hr hlocks hK hS ((if_pos c_1).trans (lt_eq eu_2 ((if_neg c_3).trans ((if_neg c_4).trans ((if_neg c_7).trans ((if_neg c_9).trans ((if_neg c_11).trans ((if_pos c_13).trans rfl)))))))) hP hD rfl dX0_runBody_201
              · rcases Classical.em (w = 16) with c_14 | c_14
                · refine lv_tableIn (tgt := 200) hx hb dX0_runBody_14 (by rw [c_14]; decide) (by rw [c_14]; decide) (by rw [c_14]; rfl) (by decide) ?_
                  have d_14 := i_eq rfl (show (16 : Int32).toInt = 16 from by decide) c_14
                  refine lv_iconst (v := 0) hx hb dX0_runBody_200 (by decide) ?_
                  rw [hQm]
                  exact mx_iret (u0 := sX0_step run w d a_cnt a_way a_num a_many a_place a_print a_trace) (rv := (fun u => some (.int u.1))) (w1 := (fun u => akW K cI u.2.1 a_way a_num a_many a_place a_print u.2.2 ++ R)) (u := (0, u_2.1, u_2.2)) hx hb hr hlocks hK hS ((if_pos c_1).trans (lt_eq eu_2 ((if_neg c_3).trans ((if_neg c_4).trans ((if_neg c_7).trans ((if_neg c_9).trans ((if_neg c_11).trans ((if_neg c_13).trans ((if_pos c_14).trans rfl))))))))) hP hD rfl dX0_runBody_201
                · rcases Classical.em (w = 17) with c_15 | c_15
                  · refine lv_tableIn (tgt := 200) hx hb dX0_runBody_14 (by rw [c_15]; decide) (by rw [c_15]; decide) (by rw [c_15]; rfl) (by decide) ?_
                    have d_15 := i_eq rfl (show (17 : Int32).toInt = 17 from by decide) c_15
                    refine lv_iconst (v := 0) hx hb dX0_runBody_200 (by decide) ?_
                    rw [hQm]
                    exact mx_iret (u0 := sX0_step run w d a_cnt a_way a_num a_many a_place a_print a_trace) (rv := (fun u => some (.int u.1))) (w1 := (fun u => akW K cI u.2.1 a_way a_num a_many a_place a_print u.2.2 ++ R)) (u := (0, u_2.1, u_2.2)) hx hb hr hlocks hK hS ((if_pos c_1).trans (lt_eq eu_2 ((if_neg c_3).trans ((if_neg c_4).trans ((if_neg c_7).trans ((if_neg c_9).trans ((if_neg c_11).trans ((if_neg c_13).trans ((if_neg c_14).trans ((if_pos c_15).trans rfl)))))))))) hP hD rfl dX0_runBody_201
                  · rcases Classical.em (w = 18) with c_16 | c_16
                    · refine lv_tableIn (tgt := 200) hx hb dX0_runBody_14 (by rw [c_16]; decide) (by rw [c_16]; decide) (by rw [c_16]; rfl) (by decide) ?_
                      have d_16 := i_eq rfl (show (18 : Int32).toInt = 18 from by decide) c_16
                      refine lv_iconst (v := 0) hx hb dX0_runBody_200 (by decide) ?_
                      rw [hQm]
                      exact mx_iret (u0 := sX0_step run w d a_cnt a_way a_num a_many a_place a_print a_trace) (rv := (fun u => some (.int u.1))) (w1 := (fun u => akW K cI u.2.1 a_way a_num a_many a_place a_print u.2.2 ++ R)) (u := (0, u_2.1, u_2.2)) hx hb hr hlocks hK hS ((if_pos c_1).trans (lt_eq eu_2 ((if_neg c_3).trans ((if_neg c_4).trans ((if_neg c_7).trans ((if_neg c_9).trans ((if_neg c_11).trans ((if_neg c_13).trans ((if_neg c_14).trans ((if_neg c_15).trans ((if_pos c_16).trans rfl))))))))))) hP hD rfl dX0_runBody_201
                    · rcases Classical.em (w = 19) with c_17 | c_17
                      · refine lv_tableIn (tgt := 200) hx hb dX0_runBody_14 (by rw [c_17]; decide) (by rw [c_17]; decide) (by rw [c_17]; rfl) (by decide) ?_
                        have d_17 := i_eq rfl (show (19 : Int32).toInt = 19 from by decide) c_17
                        refine lv_iconst (v := 0) hx hb dX0_runBody_200 (by decide) ?_
                        rw [hQm]
                        exact mx_iret (u0 := sX0_step run w d a_cnt a_way a_num a_many a_place a_print a_trace) (rv := (fun u => some (.int u.1))) (w1 := (fun u => akW K cI u.2.1 a_way a_num a_many a_place a_print u.2.2 ++ R)) (u := (0, u_2.1, u_2.2)) hx hb hr hlocks hK hS ((if_pos c_1).trans (lt_eq eu_2 ((if_neg c_3).trans ((if_neg c_4).trans ((if_neg c_7).trans ((if_neg c_9).trans ((if_neg c_11).trans ((if_neg c_13).trans ((if_neg c_14).trans ((if_neg c_15).trans ((if_neg c_16).trans ((if_pos c_17).trans rfl)))))))))))) hP hD rfl dX0_runBody_201
                      · rcases Classical.em (w = 20) with c_18 | c_18
                        · refine lv_tableIn (tgt := 143) hx hb dX0_runBody_14 (by rw [c_18]; decide) (by rw [c_18]; decide) (by rw [c_18]; rfl) (by decide) ?_
                          have d_18 := i_eq rfl (show (20 : Int32).toInt = 20 from by decide) c_18
                          refine lv_aload_n hx hb dX0_runBody_143 rfl (lv_at hl 0 rfl) ?_
                          refine va_get (D := D) (ci := 0) (v := .int a_place) (C := RX0) (T := TX0) (N := 7) hx hb hts iX0 hown hK hP 0 rfl rfl 5 (by decide) k30 (fun _ h9 => h9) rfl dX0_runBody_144 ?_
                          rw [hQm]
                          exact mx_iret (u0 := sX0_step run w d a_cnt a_way a_num a_many a_place a_print a_trace) (rv := (fun u => some (.int u.1))) (w1 := (fun u => akW K cI u.2.1 a_way a_num a_many a_place a_print u.2.2 ++ R)) (u := (a_place, u_2.1, u_2.2)) hx hb hr hlocks hK hS ((if_pos c_1).trans (lt_eq eu_2 ((if_neg c_3).trans ((if_neg c_4).trans ((if_neg c_7).trans ((if_neg c_9).trans ((if_neg c_11).trans ((if_neg c_13).trans ((if_neg c_14).trans ((if_neg c_15).trans ((if_neg c_16).trans ((if_neg c_17).trans ((if_pos c_18).trans rfl))))))))))))) hP hD rfl dX0_runBody_147
                        · rcases Classical.em (w = 21) with c_19 | c_19
                          · refine lv_tableIn (tgt := 148) hx hb dX0_runBody_14 (by rw [c_19]; decide) (by rw [c_19]; decide) (by rw [c_19]; rfl) (by decide) ?_
                            have d_19 := i_eq rfl (show (21 : Int32).toInt = 21 from by decide) c_19
                            refine lv_aload_n hx hb dX0_runBody_148 rfl (lv_at hl 0 rfl) ?_
                            refine lv_bipush (v := 20) hx hb dX0_runBody_149 (by decide) ?_
                            refine lv_iload_n hx hb dX0_runBody_151 rfl (lv_at hl 2 rfl) ?_
                            refine lv_iconst (v := 1) hx hb dX0_runBody_152 (by decide) ?_
                            refine lv_iadd hx hb dX0_runBody_153 ?_
                            refine mx_callV (As := [.int 20, .int (d + 1)]) (rest := []) ⟨hx, hb, hml, hown, hts⟩ (hRun K R u_2.1 a_way a_num a_many a_place a_print u_2.2 20 (d + 1) (by first | assumption | omega) (by rw [hd1]; omega) (by rw [hd1]; omega)) (cwV 2 hts gX0_runBody_X0_runBody rfl rfl rfl (by decide +kernel) (rm_up (by omega) (by decide))) pFs_ok hF hK hP hD hS hA 0 rfl rfl rfl rfl hl.1 rfl (Nat.le_of_ble_eq_true rfl) dX0_runBody_154 ⟨Nat.le_refl _, Nat.le_refl _⟩ (fun u_20 H locs eu_20 hP hD hS => ?_)
                            refine W.eq (g2 := F0 m 157 ls [.int u_20.1]) rfl ?_
                            have hP : va_P D vwCl (akW K cI u_20.2.1 a_way a_num a_many a_place a_print u_20.2.2 ++ R) H := hP
                            have hD : va_D A (akW K cI u_20.2.1 a_way a_num a_many a_place a_print u_20.2.2 ++ R) := hD
                            have hc_u_20 : 0 ≤ u_20.2.1.toInt := by rw [eu_20]; exact hRun2 _ _ _ _ _ _ _ _ _ (by assumption)
                            refine lv_bipush (v := 10) hx hb dX0_runBody_157 (by decide) ?_
                            refine lv_aload_n hx hb dX0_runBody_159 rfl (lv_at hl 0 rfl) ?_
                            refine va_get (D := D) (ci := 0) (v := .int a_num) (C := RX0) (T := TX0) (N := 7) hx hb hts iX0 hown hK hP 0 rfl rfl 3 (by decide) k24 (fun _ h9 => h9) rfl dX0_runBody_160 ?_
                            refine lv_imul hx hb dX0_runBody_163 ?_
                            refine lv_iadd hx hb dX0_runBody_164 ?_
                            rw [hQm]
                            exact mx_iret (u0 := sX0_step run w d a_cnt a_way a_num a_many a_place a_print a_trace) (rv := (fun u => some (.int u.1))) (w1 := (fun u => akW K cI u.2.1 a_way a_num a_many a_place a_print u.2.2 ++ R)) (u := (u_20.1 + (10 * a_num), u_20.2.1, u_20.2.2)) hx hb hr hlocks hK hS ((if_pos c_1).trans (lt_eq eu_2 ((if_neg c_3).trans ((if_neg c_4).trans ((if_neg c_7).trans ((if_neg c_9).trans ((if_neg c_11).trans ((if_neg c_13).trans ((if_neg c_14).trans ((if_neg c_15).trans ((if_neg c_16).trans ((if_neg c_17).trans ((if_neg c_18).trans ((if_pos c_19).trans (lt_eq eu_20 rfl))))))))))))))) hP hD rfl dX0_runBody_165
                          · rcases Classical.em (w = 22) with c_21 | c_21
                            · refine lv_tableIn (tgt := 166) hx hb dX0_runBody_14 (by rw [c_21]; decide) (by rw [c_21]; decide) (by rw [c_21]; rfl) (by decide) ?_
                              have d_21 := i_eq rfl (show (22 : Int32).toInt = 22 from by decide) c_21
                              refine lv_aload_n hx hb dX0_runBody_166 rfl (lv_at hl 0 rfl) ?_
                              refine lv_bipush (v := 20) hx hb dX0_runBody_167 (by decide) ?_
                              refine lv_iload_n hx hb dX0_runBody_169 rfl (lv_at hl 2 rfl) ?_
                              refine lv_iconst (v := 1) hx hb dX0_runBody_170 (by decide) ?_
                              refine lv_iadd hx hb dX0_runBody_171 ?_
                              refine mx_callV (As := [.int 20, .int (d + 1)]) (rest := []) ⟨hx, hb, hml, hown, hts⟩ (hRun K R u_2.1 a_way a_num a_many a_place a_print u_2.2 20 (d + 1) (by first | assumption | omega) (by rw [hd1]; omega) (by rw [hd1]; omega)) (cwV 2 hts gX0_runBody_X0_runBody rfl rfl rfl (by decide +kernel) (rm_up (by omega) (by decide))) pFs_ok hF hK hP hD hS hA 0 rfl rfl rfl rfl hl.1 rfl (Nat.le_of_ble_eq_true rfl) dX0_runBody_172 ⟨Nat.le_refl _, Nat.le_refl _⟩ (fun u_22 H locs eu_22 hP hD hS => ?_)
                              refine W.eq (g2 := F0 m 175 ls [.int u_22.1]) rfl ?_
                              have hP : va_P D vwCl (akW K cI u_22.2.1 a_way a_num a_many a_place a_print u_22.2.2 ++ R) H := hP
                              have hD : va_D A (akW K cI u_22.2.1 a_way a_num a_many a_place a_print u_22.2.2 ++ R) := hD
                              have hc_u_22 : 0 ≤ u_22.2.1.toInt := by rw [eu_22]; exact hRun2 _ _ _ _ _ _ _ _ _ (by assumption)
                              refine lv_aload_n hx hb dX0_runBody_175 rfl (lv_at hl 0 rfl) ?_
                              refine va_get (D := D) (ci := 0) (v := .int a_print) (C := RX0) (T := TX0) (N := 7) hx hb hts iX0 hown hK hP 0 rfl rfl 6 (by decide) k33 (fun _ h9 => h9) rfl dX0_runBody_176 ?_
                              refine lv_iadd hx hb dX0_runBody_179 ?_
                              rw [hQm]
                              exact mx_iret (u0 := sX0_step run w d a_cnt a_way a_num a_many a_place a_print a_trace) (rv := (fun u => some (.int u.1))) (w1 := (fun u => akW K cI u.2.1 a_way a_num a_many a_place a_print u.2.2 ++ R)) (u := (u_22.1 + a_print, u_22.2.1, u_22.2.2)) hx hb hr hlocks hK hS ((if_pos c_1).trans (lt_eq eu_2 ((if_neg c_3).trans ((if_neg c_4).trans ((if_neg c_7).trans ((if_neg c_9).trans ((if_neg c_11).trans ((if_neg c_13).trans ((if_neg c_14).trans ((if_neg c_15).trans ((if_neg c_16).trans ((if_neg c_17).trans ((if_neg c_18).trans ((if_neg c_19).trans ((if_pos c_21).trans (lt_eq eu_22 rfl)))))))))))))))) hP hD rfl dX0_runBody_180
                            · rcases Classical.em (w = 23) with c_23 | c_23
                              · refine lv_tableIn (tgt := 181) hx hb dX0_runBody_14 (by rw [c_23]; decide) (by rw [c_23]; decide) (by rw [c_23]; rfl) (by decide) ?_
                                have d_23 := i_eq rfl (show (23 : Int32).toInt = 23 from by decide) c_23
                                refine lv_aload_n hx hb dX0_runBody_181 rfl (lv_at hl 0 rfl) ?_
                                refine lv_bipush (v := 22) hx hb dX0_runBody_182 (by decide) ?_
                                refine lv_iload_n hx hb dX0_runBody_184 rfl (lv_at hl 2 rfl) ?_
                                refine lv_iconst (v := 1) hx hb dX0_runBody_185 (by decide) ?_
                                refine lv_iadd hx hb dX0_runBody_186 ?_
                                refine mx_callV (As := [.int 22, .int (d + 1)]) (rest := []) ⟨hx, hb, hml, hown, hts⟩ (hRun K R u_2.1 a_way a_num a_many a_place a_print u_2.2 22 (d + 1) (by first | assumption | omega) (by rw [hd1]; omega) (by rw [hd1]; omega)) (cwV 2 hts gX0_runBody_X0_runBody rfl rfl rfl (by decide +kernel) (rm_up (by omega) (by decide))) pFs_ok hF hK hP hD hS hA 0 rfl rfl rfl rfl hl.1 rfl (Nat.le_of_ble_eq_true rfl) dX0_runBody_187 ⟨Nat.le_refl _, Nat.le_refl _⟩ (fun u_24 H locs eu_24 hP hD hS => ?_)
                                refine W.eq (g2 := F0 m 190 ls [.int u_24.1]) rfl ?_
                                have hP : va_P D vwCl (akW K cI u_24.2.1 a_way a_num a_many a_place a_print u_24.2.2 ++ R) H := hP
                                have hD : va_D A (akW K cI u_24.2.1 a_way a_num a_many a_place a_print u_24.2.2 ++ R) := hD
                                have hc_u_24 : 0 ≤ u_24.2.1.toInt := by rw [eu_24]; exact hRun2 _ _ _ _ _ _ _ _ _ (by assumption)
                                refine lv_aload_n hx hb dX0_runBody_190 rfl (lv_at hl 0 rfl) ?_
                                refine lv_iconst (v := 0) hx hb dX0_runBody_191 (by decide) ?_
                                refine lv_iload_n hx hb dX0_runBody_192 rfl (lv_at hl 2 rfl) ?_
                                refine lv_iconst (v := 1) hx hb dX0_runBody_193 (by decide) ?_
                                refine lv_iadd hx hb dX0_runBody_194 ?_
                                refine mx_callV (As := [.int 0, .int (d + 1)]) (rest := [.int u_24.1]) ⟨hx, hb, hml, hown, hts⟩ (mtX0_answerAnew l D cI cB cK cS t ks kb K R n9 k9 run u_24.2.1 a_way a_num a_many a_place a_print u_24.2.2 0 (d + 1) (by first | assumption | omega) (by rw [hd1]; omega) (by rw [hd1]; omega) (by rw [hd1]; omega) hRun hRun2 hk9) (cwV 2 hts gX0_runBody_X0_answerAnew rfl rfl rfl (by decide +kernel) (rm_up (by omega) (by decide))) pFs_ok hF hK hP hD hS hA 0 rfl rfl rfl rfl hl.1 rfl (Nat.le_of_ble_eq_true rfl) dX0_runBody_195 ⟨Nat.le_refl _, Nat.le_refl _⟩ (fun u_25 H locs eu_25 hP hD hS => ?_)
                                refine W.eq (g2 := F0 m 198 ls [.int u_25.1, .int u_24.1]) rfl ?_
                                have hP : va_P D vwCl (akW K cI u_25.2.1 a_way a_num a_many a_place a_print u_25.2.2 ++ R) H := hP
                                have hD : va_D A (akW K cI u_25.2.1 a_way a_num a_many a_place a_print u_25.2.2 ++ R) := hD
                                refine lv_iadd hx hb dX0_runBody_198 ?_
                                rw [hQm]
                                exact mx_iret (u0 := sX0_step run w d a_cnt a_way a_num a_many a_place a_print a_trace) (rv := (fun u => some (.int u.1))) (w1 := (fun u => akW K cI u.2.1 a_way a_num a_many a_place a_print u.2.2 ++ R)) (u := (u_24.1 + u_25.1, u_25.2.1, u_25.2.2)) hx hb hr hlocks hK hS ((if_pos c_1).trans (lt_eq eu_2 ((if_neg c_3).trans ((if_neg c_4).trans ((if_neg c_7).trans ((if_neg c_9).trans ((if_neg c_11).trans ((if_neg c_13).trans ((if_neg c_14).trans ((if_neg c_15).trans ((if_neg c_16).trans ((if_neg c_17).trans ((if_neg c_18).trans ((if_neg c_19).trans ((if_neg c_21).trans ((if_pos c_23).trans (lt_eq eu_24 (lt_eq eu_25 rfl)))))))))))))))))) hP hD rfl dX0_runBody_199
                              · refine lv_tableOut (tgt := 200) hx hb dX0_runBody_14 (by have := lv_neT c_3 (show (10 : Int32).toInt = 10 from by decide); have := lv_neT c_4 (show (11 : Int32).toInt = 11 from by decide); have := lv_neT c_7 (show (12 : Int32).toInt = 12 from by decide); have := lv_neT c_9 (show (13 : Int32).toInt = 13 from by decide); have := lv_neT c_11 (show (14 : Int32).toInt = 14 from by decide); have := lv_neT c_13 (show (15 : Int32).toInt = 15 from by decide); have := lv_neT c_14 (show (16 : Int32).toInt = 16 from by decide); have := lv_neT c_15 (show (17 : Int32).toInt = 17 from by decide); have := lv_neT c_16 (show (18 : Int32).toInt = 18 from by decide); have := lv_neT c_17 (show (19 : Int32).toInt = 19 from by decide); have := lv_neT c_18 (show (20 : Int32).toInt = 20 from by decide); have := lv_neT c_19 (show (21 : Int32).toInt = 21 from by decide); have := lv_neT c_21 (show (22 : Int32).toInt = 22 from by decide); have := lv_neT c_23 (show (23 : Int32).toInt = 23 from by decide); omega) (by decide) ?_
                                refine lv_iconst (v := 0) hx hb dX0_runBody_200 (by decide) ?_
                                rw [hQm]
                                exact mx_iret (u0 := sX0_step run w d a_cnt a_way a_num a_many a_place a_print a_trace) (rv := (fun u => some (.int u.1))) (w1 := (fun u => akW K cI u.2.1 a_way a_num a_many a_place a_print u.2.2 ++ R)) (u := (0, u_2.1, u_2.2)) hx hb hr hlocks hK hS ((if_pos c_1).trans (lt_eq eu_2 ((if_neg c_3).trans ((if_neg c_4).trans ((if_neg c_7).trans ((if_neg c_9).trans ((if_neg c_11).trans ((if_neg c_13).trans ((if_neg c_14).trans ((if_neg c_15).trans ((if_neg c_16).trans ((if_neg c_17).trans ((if_neg c_18).trans ((if_neg c_19).trans ((if_neg c_21).trans ((if_neg c_23).trans rfl)))))))))))))))) hP hD rfl dX0_runBody_201
  · have d_1 := i_len rfl (show (20 : Int32).toInt = 20 from by decide) c_1
    refine lv_iconst (v := 0) hx hb dX0_runBody_6 (by decide) ?_
    rw [hQm]
    exact mx_iret (u0 := sX0_step run w d a_cnt a_way a_num a_many a_place a_print a_trace) (rv := (fun u => some (.int u.1))) (w1 := (fun u => akW K cI u.2.1 a_way a_num a_many a_place a_print u.2.2 ++ R)) (u := (0, a_cnt, a_trace)) hx hb hr hlocks hK hS ((if_neg c_1).trans rfl) hP hD rfl dX0_runBody_7
theorem sX0_step_c (run : Int32 → Int32 → Int32 → Int32 → Int32 → Int32 → Int32 → Int32 → (Nat → Int32) → Int32 × (Int32) × (Nat → Int32)) (hRun2 : ∀ (w d a_cnt a_way a_num a_many a_place a_print : Int32) (a_trace : Nat → Int32), 0 ≤ a_cnt.toInt → 0 ≤ (run w d a_cnt a_way a_num a_many a_place a_print a_trace).2.1.toInt) (w d a_cnt a_way a_num a_many a_place a_print : Int32) (a_trace : Nat → Int32) (h : 0 ≤ a_cnt.toInt) : 0 ≤ (sX0_step run w d a_cnt a_way a_num a_many a_place a_print a_trace).2.1.toInt := by
  unfold sX0_step
  show (fun r : Int32 × (Int32) × (Nat → Int32) => 0 ≤ r.2.1.toInt) _
  repeat' first | with_reducible refine if_P (fun r : Int32 × (Int32) × (Nat → Int32) => 0 ≤ r.2.1.toInt) (fun _ => ?_) (fun _ => ?_) | with_reducible refine lt_P (fun r : (Int32) × (Nat → Int32) => 0 ≤ r.1.toInt) (fun r : Int32 × (Int32) × (Nat → Int32) => 0 ≤ r.2.1.toInt) (sX0_leaveInTrace_c (by assumption) rfl) (fun _ _ => ?_) | with_reducible refine lt_P (fun r : Int32 × (Int32) × (Nat → Int32) => 0 ≤ r.2.1.toInt) (fun r : Int32 × (Int32) × (Nat → Int32) => 0 ≤ r.2.1.toInt) (sX0_answerAnew_c run hRun2 _ _ _ _ _ _ _ _ _ (by assumption)) (fun _ _ => ?_) | with_reducible refine lt_P (fun r : Int32 × (Int32) × (Nat → Int32) => 0 ≤ r.2.1.toInt) (fun r : Int32 × (Int32) × (Nat → Int32) => 0 ≤ r.2.1.toInt) (hRun2 _ _ _ _ _ _ _ _ _ (by assumption)) (fun _ _ => ?_) | with_reducible refine lt_P (fun _ => True) (fun r : Int32 × (Int32) × (Nat → Int32) => 0 ≤ r.2.1.toInt) trivial (fun _ _ => ?_) | assumption
def sX0_runBody : Nat → Int32 → Int32 → Int32 → Int32 → Int32 → Int32 → Int32 → Int32 → (Nat → Int32) → Int32 × (Int32) × (Nat → Int32)
  | 0 => fun _ _ a_cnt _ _ _ _ _ a_trace => (0, a_cnt, a_trace)
  | n + 1 => sX0_step (sX0_runBody n)
theorem sX0_runBody_c : ∀ (n : Nat), ∀ (w d a_cnt a_way a_num a_many a_place a_print : Int32) (a_trace : Nat → Int32), 0 ≤ a_cnt.toInt → 0 ≤ (sX0_runBody n w d a_cnt a_way a_num a_many a_place a_print a_trace).2.1.toInt := by
  intro n
  induction n with
  | zero => intro _ _ _ _ _ _ _ _ _ h; exact h
  | succ n ih => exact sX0_step_c (sX0_runBody n) ih
set_option maxHeartbeats 4000000 in
set_option maxRecDepth 100000 in
theorem mtX0_runBody (l : Launch) (D : va_G) (cI cB cK cS : ClassId) (t ks kb : Nat → Nat) : ∀ (n : Nat), ∀ (K : Nat → Nat) (R : va_W) (a_cnt a_way a_num a_many a_place a_print : Int32) (a_trace : Nat → Int32) (w d : Int32), 0 ≤ a_cnt.toInt → 0 ≤ d.toInt → 20 < d.toInt + (n : Int) → MX l yX0_runBody wsX0_runBody (rmX (3 + 2 * n)) D (tyX cI cB cK cS) (pFs t ks kb) (akW K cI a_cnt a_way a_num a_many a_place a_print a_trace ++ R) [.ref (K 0), .int w, .int d] (sX0_runBody n w d a_cnt a_way a_num a_many a_place a_print a_trace) (fun u => some (.int u.1)) (fun u => akW K cI u.2.1 a_way a_num a_many a_place a_print u.2.2 ++ R) := by
  intro n
  induction n with
  | zero =>
    intro K R a_cnt a_way a_num a_many a_place a_print a_trace w d hc0 hd0 hdn
    refine mx_intro (cc := cX0_runBody) (maxL := 3) (ret := (some .int)) (by decide) rfl (Nat.le_of_ble_eq_true rfl) ?_
    intro p e s m below meth c A ls H locs Qm hQm hx hb hr hml hts hown hlocks hA hS hP hK hD hF hl
    have hl : lv_has ls 3 [(0, .ref (K 0)), (1, .int w), (2, .int d)] := hl
    refine lv_iload_n hx hb dX0_runBody_0 rfl (lv_at hl 2 rfl) ?_
    refine lv_bipush (v := 20) hx hb dX0_runBody_1 (by decide) ?_
    refine lv_icmp_le (tgt := 8) hx hb dX0_runBody_3 (by decide) (fun c_1 => ?_) (fun c_1 => ?_)
    · have := i_le rfl (show (20 : Int32).toInt = 20 from by decide) c_1
      exfalso; omega
    · refine lv_iconst (v := 0) hx hb dX0_runBody_6 (by decide) ?_
      rw [hQm]
      exact mx_iret (u0 := sX0_runBody 0 w d a_cnt a_way a_num a_many a_place a_print a_trace) (rv := (fun u => some (.int u.1))) (w1 := (fun u => akW K cI u.2.1 a_way a_num a_many a_place a_print u.2.2 ++ R)) (u := (0, a_cnt, a_trace)) hx hb hr hlocks hK hS rfl hP hD rfl dX0_runBody_7
  | succ n ih =>
    intro K R a_cnt a_way a_num a_many a_place a_print a_trace w d hc0 hd0 hdn
    exact mtX0_step l D cI cB cK cS t ks kb K R n (3 + 2 * n) (sX0_runBody n) a_cnt a_way a_num a_many a_place a_print a_trace w d hc0 hd0 (by omega) ih (sX0_runBody_c n) (by omega)
def sX0_answer (j : Nat) (k : Int32) (b : Int32) (w : Int32) (kv : Nat → Nat → Int32) (a_trace : Nat → Int32) : Int32 × (Int32) × (Int32) × (Int32) × (Int32) × (Int32) × (Int32) × (Nat → Int32) := lt (sX0_answerAnew (sX0_runBody 20) w 0 0 ((kv j) 0) ((kv j) 1) ((kv j) 2) k b a_trace) (fun u_1 : Int32 × (Int32) × (Nat → Int32) => (u_1.1, u_1.2.1, (kv j) 0, (kv j) 1, (kv j) 2, k, b, u_1.2.2))
set_option maxHeartbeats 4000000 in
set_option maxRecDepth 100000 in
theorem mtX0_answer (l : Launch) (D : va_G) (cI cB cK cS : ClassId) (t ks kb : Nat → Nat) (Z K : Nat → Nat) (R : va_W) (j : Nat) (f : Nat → Int32) (kv : Nat → Nat → Int32) (mv : Nat → Int32) (a_cnt : Int32) (a_way : Int32) (a_num : Int32) (a_many : Int32) (a_place : Int32) (a_print : Int32) (a_trace : Nat → Int32) (k : Int32) (b : Int32) (w : Int32) (hj : j < 5) : MX l yX0_answer wsX0_answer (rmX 45) D (tyX cI cB cK cS) (pFs t ks kb) (landW Z cK f kv mv ++ (akW K cI a_cnt a_way a_num a_many a_place a_print a_trace ++ R)) [.ref (K 0), .ref (Z (3 + j)), .int k, .int b, .int w] (sX0_answer j k b w kv a_trace) (fun u => some (.int u.1)) (fun u => landW Z cK f kv mv ++ (akW K cI u.2.1 u.2.2.1 u.2.2.2.1 u.2.2.2.2.1 u.2.2.2.2.2.1 u.2.2.2.2.2.2.1 u.2.2.2.2.2.2.2 ++ R)) := by
  refine mx_intro (cc := cX0_answer) (maxL := 5) (ret := (some .int)) (by decide) rfl (Nat.le_of_ble_eq_true rfl) ?_
  intro p e s m below meth c A ls H locs Qm hQm hx hb hr hml hts hown hlocks hA hS hP hK hD hF hl
  have hown : s.vm.findClass RX0 = some m.cls := hown
  have hl : lv_has ls 5 [(0, .ref (K 0)), (1, .ref (Z (3 + j))), (2, .int k), (3, .int b), (4, .int w)] := hl
  have k15 := hts (.fieldLink RX0 15 "PigRounds$Asker" "tracedCount" "I") (by decide +kernel)
  have k36 := hts (.fieldLink RX0 36 "PigRounds$Kind" "way" "I") (by decide +kernel)
  have k21 := hts (.fieldLink RX0 21 "PigRounds$Asker" "way" "I") (by decide +kernel)
  have k39 := hts (.fieldLink RX0 39 "PigRounds$Kind" "number" "I") (by decide +kernel)
  have k24 := hts (.fieldLink RX0 24 "PigRounds$Asker" "number" "I") (by decide +kernel)
  have k40 := hts (.fieldLink RX0 40 "PigRounds$Kind" "many" "I") (by decide +kernel)
  have k27 := hts (.fieldLink RX0 27 "PigRounds$Asker" "many" "I") (by decide +kernel)
  have k30 := hts (.fieldLink RX0 30 "PigRounds$Asker" "place" "I") (by decide +kernel)
  have k33 := hts (.fieldLink RX0 33 "PigRounds$Asker" "printed" "I") (by decide +kernel)
  have iX0 : ∀ w ∈ u_ws RX0 TX0 7, w ∈ wsX0_answer := by decide +kernel
  have iX1 : ∀ w ∈ u_ws RX1 TX1 9, w ∈ wsX0_answer := by decide +kernel
  refine lv_aload_n hx hb dX0_answer_0 rfl (lv_at hl 0 rfl) ?_
  refine lv_iconst (v := 0) hx hb dX0_answer_1 (by decide) ?_
  refine va_put (D := D) (ci := 0) (v := .int 0) (ty := .int) (C := RX0) (T := TX0) (N := 7) hx hb hts iX0 tyX0 tyX0_ok nmX0 hown hK hP hD hS 8 rfl rfl 1 (by decide) k15 (fun _ h9 => h9) rfl (by decide +kernel) rfl rfl (Nat.le_of_ble_eq_true rfl) dX0_answer_2 (fun H locs hP hD hS => ?_)
  have hP : va_P D vwCl (landW Z cK f kv mv ++ (akW K cI 0 a_way a_num a_many a_place a_print a_trace ++ R)) H := hP
  have hD : va_D A (landW Z cK f kv mv ++ (akW K cI 0 a_way a_num a_many a_place a_print a_trace ++ R)) := hD
  refine lv_aload_n hx hb dX0_answer_5 rfl (lv_at hl 0 rfl) ?_
  refine lv_aload_n hx hb dX0_answer_6 rfl (lv_at hl 1 rfl) ?_
  refine va_get (D := D) (ci := 1) (v := .int ((kv j) 0)) (C := RX1) (T := TX1) (N := 9) hx hb hts iX1 hown hK hP j (kk_get hj) rfl 0 (by decide) k36 (fun _ h9 => h9) rfl dX0_answer_7 ?_
  refine va_put (D := D) (ci := 0) (v := .int ((kv j) 0)) (ty := .int) (C := RX0) (T := TX0) (N := 7) hx hb hts iX0 tyX0 tyX0_ok nmX0 hown hK hP hD hS 8 rfl rfl 2 (by decide) k21 (fun _ h9 => h9) rfl (by decide +kernel) rfl rfl (Nat.le_of_ble_eq_true rfl) dX0_answer_10 (fun H locs hP hD hS => ?_)
  have hP : va_P D vwCl (landW Z cK f kv mv ++ (akW K cI 0 ((kv j) 0) a_num a_many a_place a_print a_trace ++ R)) H := hP
  have hD : va_D A (landW Z cK f kv mv ++ (akW K cI 0 ((kv j) 0) a_num a_many a_place a_print a_trace ++ R)) := hD
  refine lv_aload_n hx hb dX0_answer_13 rfl (lv_at hl 0 rfl) ?_
  refine lv_aload_n hx hb dX0_answer_14 rfl (lv_at hl 1 rfl) ?_
  refine va_get (D := D) (ci := 1) (v := .int ((kv j) 1)) (C := RX1) (T := TX1) (N := 9) hx hb hts iX1 hown hK hP j (kk_get hj) rfl 1 (by decide) k39 (fun _ h9 => h9) rfl dX0_answer_15 ?_
  refine va_put (D := D) (ci := 0) (v := .int ((kv j) 1)) (ty := .int) (C := RX0) (T := TX0) (N := 7) hx hb hts iX0 tyX0 tyX0_ok nmX0 hown hK hP hD hS 8 rfl rfl 3 (by decide) k24 (fun _ h9 => h9) rfl (by decide +kernel) rfl rfl (Nat.le_of_ble_eq_true rfl) dX0_answer_18 (fun H locs hP hD hS => ?_)
  have hP : va_P D vwCl (landW Z cK f kv mv ++ (akW K cI 0 ((kv j) 0) ((kv j) 1) a_many a_place a_print a_trace ++ R)) H := hP
  have hD : va_D A (landW Z cK f kv mv ++ (akW K cI 0 ((kv j) 0) ((kv j) 1) a_many a_place a_print a_trace ++ R)) := hD
  refine lv_aload_n hx hb dX0_answer_21 rfl (lv_at hl 0 rfl) ?_
  refine lv_aload_n hx hb dX0_answer_22 rfl (lv_at hl 1 rfl) ?_
  refine va_get (D := D) (ci := 1) (v := .int ((kv j) 2)) (C := RX1) (T := TX1) (N := 9) hx hb hts iX1 hown hK hP j (kk_get hj) rfl 2 (by decide) k40 (fun _ h9 => h9) rfl dX0_answer_23 ?_
  refine va_put (D := D) (ci := 0) (v := .int ((kv j) 2)) (ty := .int) (C := RX0) (T := TX0) (N := 7) hx hb hts iX0 tyX0 tyX0_ok nmX0 hown hK hP hD hS 8 rfl rfl 4 (by decide) k27 (fun _ h9 => h9) rfl (by decide +kernel) rfl rfl (Nat.le_of_ble_eq_true rfl) dX0_answer_26 (fun H locs hP hD hS => ?_)
  have hP : va_P D vwCl (landW Z cK f kv mv ++ (akW K cI 0 ((kv j) 0) ((kv j) 1) ((kv j) 2) a_place a_print a_trace ++ R)) H := hP
  have hD : va_D A (landW Z cK f kv mv ++ (akW K cI 0 ((kv j) 0) ((kv j) 1) ((kv j) 2) a_place a_print a_trace ++ R)) := hD
  refine lv_aload_n hx hb dX0_answer_29 rfl (lv_at hl 0 rfl) ?_
  refine lv_iload_n hx hb dX0_answer_30 rfl (lv_at hl 2 rfl) ?_
  refine va_put (D := D) (ci := 0) (v := .int k) (ty := .int) (C := RX0) (T := TX0) (N := 7) hx hb hts iX0 tyX0 tyX0_ok nmX0 hown hK hP hD hS 8 rfl rfl 5 (by decide) k30 (fun _ h9 => h9) rfl (by decide +kernel) rfl rfl (Nat.le_of_ble_eq_true rfl) dX0_answer_31 (fun H locs hP hD hS => ?_)
  have hP : va_P D vwCl (landW Z cK f kv mv ++ (akW K cI 0 ((kv j) 0) ((kv j) 1) ((kv j) 2) k a_print a_trace ++ R)) H := hP
  have hD : va_D A (landW Z cK f kv mv ++ (akW K cI 0 ((kv j) 0) ((kv j) 1) ((kv j) 2) k a_print a_trace ++ R)) := hD
  refine lv_aload_n hx hb dX0_answer_34 rfl (lv_at hl 0 rfl) ?_
  refine lv_iload_n hx hb dX0_answer_35 rfl (lv_at hl 3 rfl) ?_
  refine va_put (D := D) (ci := 0) (v := .int b) (ty := .int) (C := RX0) (T := TX0) (N := 7) hx hb hts iX0 tyX0 tyX0_ok nmX0 hown hK hP hD hS 8 rfl rfl 6 (by decide) k33 (fun _ h9 => h9) rfl (by decide +kernel) rfl rfl (Nat.le_of_ble_eq_true rfl) dX0_answer_36 (fun H locs hP hD hS => ?_)
  have hP : va_P D vwCl (landW Z cK f kv mv ++ (akW K cI 0 ((kv j) 0) ((kv j) 1) ((kv j) 2) k b a_trace ++ R)) H := hP
  have hD : va_D A (landW Z cK f kv mv ++ (akW K cI 0 ((kv j) 0) ((kv j) 1) ((kv j) 2) k b a_trace ++ R)) := hD
  refine lv_aload_n hx hb dX0_answer_39 rfl (lv_at hl 0 rfl) ?_
  refine lv_iload hx hb dX0_answer_40 (lv_at hl 4 rfl) ?_
  refine lv_iconst (v := 0) hx hb dX0_answer_42 (by decide) ?_
  have hpm : List.Perm (landW Z cK f kv mv ++ (akW K cI 0 ((kv j) 0) ((kv j) 1) ((kv j) 2) k b a_trace ++ R)) (akW K cI 0 ((kv j) 0) ((kv j) 1) ((kv j) 2) k b a_trace ++ (landW Z cK f kv mv ++ R)) := gp_swap
  have hP := gp_P hpm hP
  have hD := gp_D hpm hD
  refine mx_callV (As := [.int w, .int 0]) (rest := []) ⟨hx, hb, hml, hown, hts⟩ (mtX0_answerAnew l D cI cB cK cS t ks kb K (landW Z cK f kv mv ++ R) 20 (3 + 2 * 20) (sX0_runBody 20) 0 ((kv j) 0) ((kv j) 1) ((kv j) 2) k b a_trace w 0 (by decide) (by decide) (by decide) (by decide) (mtX0_runBody l D cI cB cK cS t ks kb 20) (sX0_runBody_c 20) (by decide)) (cwV 2 hts gX0_answer_X0_answerAnew rfl rfl rfl (by decide +kernel) ⟨Nat.le_of_ble_eq_true rfl, Nat.le_of_ble_eq_true rfl⟩) pFs_ok hF hK hP hD hS hA 0 rfl rfl rfl rfl hl.1 rfl (Nat.le_of_ble_eq_true rfl) dX0_answer_43 ⟨Nat.le_refl _, Nat.le_refl _⟩ (fun u_1 H locs eu_1 hP hD hS => ?_)
  refine W.eq (g2 := F0 m 46 ls [.int u_1.1]) rfl ?_
  have hP : va_P D vwCl (akW K cI u_1.2.1 ((kv j) 0) ((kv j) 1) ((kv j) 2) k b u_1.2.2 ++ (landW Z cK f kv mv ++ R)) H := hP
  have hD : va_D A (akW K cI u_1.2.1 ((kv j) 0) ((kv j) 1) ((kv j) 2) k b u_1.2.2 ++ (landW Z cK f kv mv ++ R)) := hD
  have hpm : List.Perm (akW K cI u_1.2.1 ((kv j) 0) ((kv j) 1) ((kv j) 2) k b u_1.2.2 ++ (landW Z cK f kv mv ++ R)) (landW Z cK f kv mv ++ (akW K cI u_1.2.1 ((kv j) 0) ((kv j) 1) ((kv j) 2) k b u_1.2.2 ++ R)) := gp_swap
  have hP := gp_P hpm hP
  have hD := gp_D hpm hD
  rw [hQm]
  exact mx_iret (u0 := sX0_answer j k b w kv a_trace) (rv := (fun u => some (.int u.1))) (w1 := (fun u => landW Z cK f kv mv ++ (akW K cI u.2.1 u.2.2.1 u.2.2.2.1 u.2.2.2.2.1 u.2.2.2.2.2.1 u.2.2.2.2.2.2.1 u.2.2.2.2.2.2.2 ++ R))) (u := (u_1.1, u_1.2.1, (kv j) 0, (kv j) 1, (kv j) 2, k, b, u_1.2.2)) hx hb hr hlocks hK hS (lt_eq eu_1 rfl) hP hD rfl dX0_answer_46
def sX10_ask (k : Int32) (a : Int32) (f2 : Nat → Int32) (kv2 : Nat → Nat → Int32) (a_cnt : Int32) (a_way : Int32) (a_num : Int32) (a_many : Int32) (a_place : Int32) (a_print : Int32) (a_trace : Nat → Int32) : Int32 × (Int32) × (Int32) × (Int32) × (Int32) × (Int32) × (Int32) × (Nat → Int32) := lt (sX10_kindOf k f2) (fun u_1 : Option Nat => if u_1 = none then (((-1000001), a_cnt, a_way, a_num, a_many, a_place, a_print, a_trace)) else (if a < 0 then (((-1000001), a_cnt, a_way, a_num, a_many, a_place, a_print, a_trace)) else (if a ≤ 1 then (lt (sX0_answer (u_1.getD 0) k (f2 9) a kv2 a_trace) (fun u_5 : Int32 × (Int32) × (Int32) × (Int32) × (Int32) × (Int32) × (Int32) × (Nat → Int32) => (u_5.1, u_5.2.1, u_5.2.2.1, u_5.2.2.2.1, u_5.2.2.2.2.1, u_5.2.2.2.2.2.1, u_5.2.2.2.2.2.2.1, u_5.2.2.2.2.2.2.2))) else (((-1000001), a_cnt, a_way, a_num, a_many, a_place, a_print, a_trace)))))
set_option maxHeartbeats 4000000 in
set_option maxRecDepth 100000 in
theorem mtX10_ask (l : Launch) (D : va_G) (cI cB cK cS : ClassId) (t ks kb : Nat → Nat) (B S U Q V K Z2 Z3 : Nat → Nat) (R : va_W) (f2 : Nat → Int32) (kv2 : Nat → Nat → Int32) (mv2 : Nat → Int32) (a_cnt : Int32) (a_way : Int32) (a_num : Int32) (a_many : Int32) (a_place : Int32) (a_print : Int32) (a_trace : Nat → Int32) (g_landed : Int32) (g_fault : Int32) (g_find : Int32) (k : Int32) (a : Int32) : MX l yX10_ask wsX10_ask (rmX 46) D (tyX cI cB cK cS) (pFs t ks kb) (landW Z2 cK f2 kv2 mv2 ++ (akW K cI a_cnt a_way a_num a_many a_place a_print a_trace ++ (pigW B S U Q V K Z2 Z3 g_landed g_fault g_find ++ R))) [.ref (B 0), .int k, .int a] (sX10_ask k a f2 kv2 a_cnt a_way a_num a_many a_place a_print a_trace) (fun u => some (.int u.1)) (fun u => landW Z2 cK f2 kv2 mv2 ++ (akW K cI u.2.1 u.2.2.1 u.2.2.2.1 u.2.2.2.2.1 u.2.2.2.2.2.1 u.2.2.2.2.2.2.1 u.2.2.2.2.2.2.2 ++ (pigW B S U Q V K Z2 Z3 g_landed g_fault g_find ++ R))) := by
  refine mx_intro (cc := cX10_ask) (maxL := 4) (ret := (some .int)) (by decide) rfl (Nat.le_of_ble_eq_true rfl) ?_
  intro p e s m below meth c A ls H locs Qm hQm hx hb hr hml hts hown hlocks hA hS hP hK hD hF hl
  have hown : s.vm.findClass RX10 = some m.cls := hown
  have hl : lv_has ls 4 [(0, .ref (B 0)), (1, .int k), (2, .int a)] := hl
  have k71 := hts (.constant RX10 71 (-1000001)) (by decide +kernel)
  have k41 := hts (.fieldLink RX10 41 "PigRounds" "asker" "LPigRounds$Asker;") (by decide +kernel)
  have k48 := hts (.fieldLink RX10 48 "PigRounds" "land" "LPigRounds$Land;") (by decide +kernel)
  have k166 := hts (.fieldLink RX10 166 "PigRounds$Land" "printed" "I") (by decide +kernel)
  have iX10 : ∀ w ∈ u_ws RX10 TX10 10, w ∈ wsX10_ask := by decide +kernel
  have iX2 : ∀ w ∈ u_ws RX2 TX2 12, w ∈ wsX10_ask := by decide +kernel
  refine lv_aload_n hx hb dX10_ask_0 rfl (lv_at hl 0 rfl) ?_
  refine lv_iload_n hx hb dX10_ask_1 rfl (lv_at hl 1 rfl) ?_
  have hpm : List.Perm (landW Z2 cK f2 kv2 mv2 ++ (akW K cI a_cnt a_way a_num a_many a_place a_print a_trace ++ (pigW B S U Q V K Z2 Z3 g_landed g_fault g_find ++ R))) (landW Z2 cK f2 kv2 mv2 ++ (pigW B S U Q V K Z2 Z3 g_landed g_fault g_find ++ (akW K cI a_cnt a_way a_num a_many a_place a_print a_trace ++ R))) := ((gp_swap.trans ((List.Perm.append_left _ gp_swap).trans gp_swap)).trans ((List.Perm.append_left _ gp_swap).trans gp_swap))
  have hP := gp_P hpm hP
  have hD := gp_D hpm hD
  refine mx_callV (As := [.int k]) (rest := []) ⟨hx, hb, hml, hown, hts⟩ (mtX10_kindOf l D cI cB cK cS B S U Q V K Z2 Z3 (akW K cI a_cnt a_way a_num a_many a_place a_print a_trace ++ R) f2 kv2 mv2 g_landed g_fault g_find k) (cwV 1 hts gX10_ask_X10_kindOf rfl rfl rfl (by decide +kernel) ⟨Nat.le_of_ble_eq_true rfl, Nat.le_of_ble_eq_true rfl⟩) pF0_ok trivial hK hP hD hS hA 8 rfl rfl rfl rfl hl.1 rfl (Nat.le_of_ble_eq_true rfl) dX10_ask_2 ⟨Nat.le_refl _, Nat.le_refl _⟩ (fun u_1 H locs eu_1 hP hD hS => ?_)
  have hP : va_P D vwCl (landW Z2 cK f2 kv2 mv2 ++ (pigW B S U Q V K Z2 Z3 g_landed g_fault g_find ++ (akW K cI a_cnt a_way a_num a_many a_place a_print a_trace ++ R))) H := hP
  have hD : va_D A (landW Z2 cK f2 kv2 mv2 ++ (pigW B S U Q V K Z2 Z3 g_landed g_fault g_find ++ (akW K cI a_cnt a_way a_num a_many a_place a_print a_trace ++ R))) := hD
  have hpm : List.Perm (landW Z2 cK f2 kv2 mv2 ++ (pigW B S U Q V K Z2 Z3 g_landed g_fault g_find ++ (akW K cI a_cnt a_way a_num a_many a_place a_print a_trace ++ R))) (landW Z2 cK f2 kv2 mv2 ++ (akW K cI a_cnt a_way a_num a_many a_place a_print a_trace ++ (pigW B S U Q V K Z2 Z3 g_landed g_fault g_find ++ R))) := ((gp_swap.trans ((List.Perm.append_left _ gp_swap).trans gp_swap)).trans ((List.Perm.append_left _ gp_swap).trans gp_swap))
  have hP := gp_P hpm hP
  have hD := gp_D hpm hD
  rcases Classical.em (u_1 = none) with c_2 | c_2
  · refine W.eq (g2 := F0 m 5 ls [.null]) (by rw [c_2]; rfl) ?_
    refine lv_astore_nN (lv' := [(3, .null), (0, .ref (B 0)), (1, .int k), (2, .int a)]) hx hb dX10_ask_5 rfl hl (by decide) rfl (fun ls hl => ?_)
    refine lv_aload_nN hx hb dX10_ask_6 rfl (lv_at hl 0 rfl) ?_
    refine lv_ifnullN (tgt := 19) hx hb dX10_ask_7 (by decide) ?_
    refine lv_ldc (v := (-1000001)) hx hb hown k71 dX10_ask_19 ?_
    rw [hQm]
    exact mx_iret (u0 := sX10_ask k a f2 kv2 a_cnt a_way a_num a_many a_place a_print a_trace) (rv := (fun u => some (.int u.1))) (w1 := (fun u => landW Z2 cK f2 kv2 mv2 ++ (akW K cI u.2.1 u.2.2.1 u.2.2.2.1 u.2.2.2.2.1 u.2.2.2.2.2.1 u.2.2.2.2.2.2.1 u.2.2.2.2.2.2.2 ++ (pigW B S U Q V K Z2 Z3 g_landed g_fault g_find ++ R)))) (u := ((-1000001), a_cnt, a_way, a_num, a_many, a_place, a_print, a_trace)) hx hb hr hlocks hK hS (lt_eq eu_1 ((if_pos c_2).trans rfl)) hP hD rfl dX10_ask_21
  · have hj_2 : u_1.getD 0 < 5 := sX10_kindOf_lt eu_1 c_2
    refine W.eq (g2 := F0 m 5 ls [.ref (Z2 (3 + (u_1.getD 0)))]) (by rw [show u_1 = some (u_1.getD 0) from o_some c_2]; rfl) ?_
    refine lv_astore_n (lv' := [(3, .ref (Z2 (3 + (u_1.getD 0)))), (0, .ref (B 0)), (1, .int k), (2, .int a)]) hx hb dX10_ask_5 rfl hl (by decide) rfl (fun ls hl => ?_)
    refine lv_aload_n hx hb dX10_ask_6 rfl (lv_at hl 0 rfl) ?_
    refine lv_ifnull hx hb dX10_ask_7 ?_
    refine lv_iload_n hx hb dX10_ask_10 rfl (lv_at hl 3 rfl) ?_
    refine lv_if_lt (tgt := 19) hx hb dX10_ask_11 (by decide) (fun c_3 => ?_) (fun c_3 => ?_)
    · refine lv_ldc (v := (-1000001)) hx hb hown k71 dX10_ask_19 ?_
      rw [hQm]
      exact mx_iret (u0 := sX10_ask k a f2 kv2 a_cnt a_way a_num a_many a_place a_print a_trace) (rv := (fun u => some (.int u.1))) (w1 := (fun u => landW Z2 cK f2 kv2 mv2 ++ (akW K cI u.2.1 u.2.2.1 u.2.2.2.1 u.2.2.2.2.1 u.2.2.2.2.2.1 u.2.2.2.2.2.2.1 u.2.2.2.2.2.2.2 ++ (pigW B S U Q V K Z2 Z3 g_landed g_fault g_find ++ R)))) (u := ((-1000001), a_cnt, a_way, a_num, a_many, a_place, a_print, a_trace)) hx hb hr hlocks hK hS (lt_eq eu_1 ((if_neg c_2).trans ((if_pos c_3).trans rfl))) hP hD rfl dX10_ask_21
    · refine lv_iload_n hx hb dX10_ask_14 rfl (lv_at hl 3 rfl) ?_
      refine lv_iconst (v := 1) hx hb dX10_ask_15 (by decide) ?_
      refine lv_icmp_le (tgt := 22) hx hb dX10_ask_16 (by decide) (fun c_4 => ?_) (fun c_4 => ?_)
      · refine lv_aload_n hx hb dX10_ask_22 rfl (lv_at hl 1 rfl) ?_
        refine va_get (D := D) (ci := 8) (v := .ref (K 0)) (C := RX10) (T := TX10) (N := 10) hx hb hts iX10 hown hK hP 10 rfl rfl 4 (by decide) k41 (fun _ h9 => h9) rfl dX10_ask_23 ?_
        refine lv_aload_n hx hb dX10_ask_26 rfl (lv_at hl 0 rfl) ?_
        refine lv_iload_n hx hb dX10_ask_27 rfl (lv_at hl 2 rfl) ?_
        refine lv_aload_n hx hb dX10_ask_28 rfl (lv_at hl 1 rfl) ?_
        refine va_get (D := D) (ci := 8) (v := .ref (Z2 0)) (C := RX10) (T := TX10) (N := 10) hx hb hts iX10 hown hK hP 10 rfl rfl 5 (by decide) k48 (fun _ h9 => h9) rfl dX10_ask_29 ?_
        refine va_get (D := D) (ci := 2) (v := .int (f2 9)) (C := RX2) (T := TX2) (N := 12) hx hb hts iX2 hown hK hP 5 rfl rfl 9 (by decide) k166 (fun _ h9 => h9) rfl dX10_ask_32 ?_
        refine lv_iload_n hx hb dX10_ask_35 rfl (lv_at hl 3 rfl) ?_
        refine mx_callV (As := [.ref (Z2 (3 + (u_1.getD 0))), .int k, .int (f2 9), .int a]) (rest := []) ⟨hx, hb, hml, hown, hts⟩ (mtX0_answer l D cI cB cK cS t ks kb Z2 K (pigW B S U Q V K Z2 Z3 g_landed g_fault g_find ++ R) (u_1.getD 0) f2 kv2 mv2 a_cnt a_way a_num a_many a_place a_print a_trace k (f2 9) a hj_2) (cwV 4 hts gX10_ask_X0_answer rfl rfl rfl (by decide +kernel) ⟨Nat.le_of_ble_eq_true rfl, Nat.le_of_ble_eq_true rfl⟩) pFs_ok hF hK hP hD hS hA 8 rfl rfl rfl rfl hl.1 rfl (Nat.le_of_ble_eq_true rfl) dX10_ask_36 ⟨Nat.le_refl _, Nat.le_refl _⟩ (fun u_5 H locs eu_5 hP hD hS => ?_)
        refine W.eq (g2 := F0 m 39 ls [.int u_5.1]) rfl ?_
        have hP : va_P D vwCl (landW Z2 cK f2 kv2 mv2 ++ (akW K cI u_5.2.1 u_5.2.2.1 u_5.2.2.2.1 u_5.2.2.2.2.1 u_5.2.2.2.2.2.1 u_5.2.2.2.2.2.2.1 u_5.2.2.2.2.2.2.2 ++ (pigW B S U Q V K Z2 Z3 g_landed g_fault g_find ++ R))) H := hP
        have hD : va_D A (landW Z2 cK f2 kv2 mv2 ++ (akW K cI u_5.2.1 u_5.2.2.1 u_5.2.2.2.1 u_5.2.2.2.2.1 u_5.2.2.2.2.2.1 u_5.2.2.2.2.2.2.1 u_5.2.2.2.2.2.2.2 ++ (pigW B S U Q V K Z2 Z3 g_landed g_fault g_find ++ R))) := hD
        rw [hQm]
        exact mx_iret (u0 := sX10_ask k a f2 kv2 a_cnt a_way a_num a_many a_place a_print a_trace) (rv := (fun u => some (.int u.1))) (w1 := (fun u => landW Z2 cK f2 kv2 mv2 ++ (akW K cI u.2.1 u.2.2.1 u.2.2.2.1 u.2.2.2.2.1 u.2.2.2.2.2.1 u.2.2.2.2.2.2.1 u.2.2.2.2.2.2.2 ++ (pigW B S U Q V K Z2 Z3 g_landed g_fault g_find ++ R)))) (u := (u_5.1, u_5.2.1, u_5.2.2.1, u_5.2.2.2.1, u_5.2.2.2.2.1, u_5.2.2.2.2.2.1, u_5.2.2.2.2.2.2.1, u_5.2.2.2.2.2.2.2)) hx hb hr hlocks hK hS (lt_eq eu_1 ((if_neg c_2).trans ((if_neg c_3).trans ((if_pos c_4).trans (lt_eq eu_5 rfl))))) hP hD rfl dX10_ask_39
      · refine lv_ldc (v := (-1000001)) hx hb hown k71 dX10_ask_19 ?_
        rw [hQm]
        exact mx_iret (u0 := sX10_ask k a f2 kv2 a_cnt a_way a_num a_many a_place a_print a_trace) (rv := (fun u => some (.int u.1))) (w1 := (fun u => landW Z2 cK f2 kv2 mv2 ++ (akW K cI u.2.1 u.2.2.1 u.2.2.2.1 u.2.2.2.2.1 u.2.2.2.2.2.1 u.2.2.2.2.2.2.1 u.2.2.2.2.2.2.2 ++ (pigW B S U Q V K Z2 Z3 g_landed g_fault g_find ++ R)))) (u := ((-1000001), a_cnt, a_way, a_num, a_many, a_place, a_print, a_trace)) hx hb hr hlocks hK hS (lt_eq eu_1 ((if_neg c_2).trans ((if_neg c_3).trans ((if_neg c_4).trans rfl)))) hP hD rfl dX10_ask_21
