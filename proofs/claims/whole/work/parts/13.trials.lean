/-- the trials: V 0 itself, V 1 what was met; its LAND is at Z 0 -/
def trW (V Z : Nat → Nat) (cI : ClassId) (t_len t_end : Int32) (t_met : Nat → Int32) : va_W := [(V 0, .inr (7, [.ref (Z 0), .ref (V 1), .int t_len, .int t_end])), (V 1, .inl (cI, 61, .inl t_met))]
def sX2_kindAt (k : Int32) (f : Nat → Int32) : Option Nat := if k < 0 then ((none)) else (if (f 2) ≤ k then ((none)) else (if 5 ≤ k then ((none)) else ((some k.toNatClampNeg))))
set_option maxHeartbeats 4000000 in
set_option maxRecDepth 100000 in
theorem mtX2_kindAt (l : Launch) (D : va_G) (cI cB cK cS : ClassId) (Z : Nat → Nat) (R : va_W) (f : Nat → Int32) (kv : Nat → Nat → Int32) (mv : Nat → Int32) (k : Int32) : MX l yX2_kindAt wsX2_kindAt (rmX 1) D (tyX cI cB cK cS) pF0 (landW Z cK f kv mv ++ R) [.ref (Z 0), .int k] (sX2_kindAt k f) (fun u => some (va_rf (u.map (fun j => Z (3 + j))))) (fun _ => landW Z cK f kv mv ++ R) := by
  refine mx_intro (cc := cX2_kindAt) (maxL := 2) (ret := (some (.object "PigRounds$Kind"))) (by decide) rfl (Nat.le_of_ble_eq_true rfl) ?_
  intro p e s m below meth c A ls H locs Qm hQm hx hb hr hml hts hown hlocks hA hS hP hK hD hF hl
  have hown : s.vm.findClass RX2 = some m.cls := hown
  have hl : lv_has ls 2 [(0, .ref (Z 0)), (1, .int k)] := hl
  have k24 := hts (.fieldLink RX2 24 "PigRounds$Land" "kindCount" "I") (by decide +kernel)
  have k11 := hts (.fieldLink RX2 11 "PigRounds$Land" "kinds" "[LPigRounds$Kind;") (by decide +kernel)
  have iX2 : ∀ w ∈ u_ws RX2 TX2 12, w ∈ wsX2_kindAt := by decide +kernel
  refine lv_iload_n hx hb dX2_kindAt_0 rfl (lv_at hl 1 rfl) ?_
  refine lv_if_lt (tgt := 30) hx hb dX2_kindAt_1 (by decide) (fun c_1 => ?_) (fun c_1 => ?_)
  · have d_1 := i_lt rfl (show (0 : Int32).toInt = 0 from by decide) c_1
    refine lv_null hx hb dX2_kindAt_30 ?_
    rw [hQm]
    exact mx_aret (u0 := sX2_kindAt k f) (rv := (fun u => some (va_rf (u.map (fun j => Z (3 + j)))))) (w1 := (fun _ => landW Z cK f kv mv ++ R)) (u := (none)) hx hb hr hlocks hK hS ((if_pos c_1).trans rfl) hP hD rfl (Or.inl rfl) dX2_kindAt_31
  · have d_1 := i_ltn rfl (show (0 : Int32).toInt = 0 from by decide) c_1
    refine lv_iload_n hx hb dX2_kindAt_4 rfl (lv_at hl 1 rfl) ?_
    refine lv_aload_n hx hb dX2_kindAt_5 rfl (lv_at hl 0 rfl) ?_
    refine va_get (D := D) (ci := 2) (v := .int (f 2)) (C := RX2) (T := TX2) (N := 12) hx hb hts iX2 hown hK hP 5 rfl rfl 2 (by decide) k24 (fun _ h9 => h9) rfl dX2_kindAt_6 ?_
    refine lv_icmp_ge (tgt := 30) hx hb dX2_kindAt_9 (by decide) (fun c_2 => ?_) (fun c_2 => ?_)
    · have d_2 := i_le rfl rfl c_2
      refine lv_null hx hb dX2_kindAt_30 ?_
      rw [hQm]
      exact mx_aret (u0 := sX2_kindAt k f) (rv := (fun u => some (va_rf (u.map (fun j => Z (3 + j)))))) (w1 := (fun _ => landW Z cK f kv mv ++ R)) (u := (none)) hx hb hr hlocks hK hS ((if_neg c_1).trans ((if_pos c_2).trans rfl)) hP hD rfl (Or.inl rfl) dX2_kindAt_31
    · have d_2 := i_len rfl rfl c_2
      refine lv_iload_n hx hb dX2_kindAt_12 rfl (lv_at hl 1 rfl) ?_
      refine lv_aload_n hx hb dX2_kindAt_13 rfl (lv_at hl 0 rfl) ?_
      refine va_get (D := D) (ci := 2) (v := .ref (Z 1)) (C := RX2) (T := TX2) (N := 12) hx hb hts iX2 hown hK hP 5 rfl rfl 0 (by decide) k11 (fun _ h9 => h9) rfl dX2_kindAt_14 ?_
      refine va_alen (v := 5) hx hb hK hP 6 2 rfl rfl rfl dX2_kindAt_17 ?_
      refine lv_icmp_ge (tgt := 30) hx hb dX2_kindAt_18 (by decide) (fun c_3 => ?_) (fun c_3 => ?_)
      · have d_3 := i_le (show (5 : Int32).toInt = 5 from by decide) rfl c_3
        refine lv_null hx hb dX2_kindAt_30 ?_
        rw [hQm]
        exact mx_aret (u0 := sX2_kindAt k f) (rv := (fun u => some (va_rf (u.map (fun j => Z (3 + j)))))) (w1 := (fun _ => landW Z cK f kv mv ++ R)) (u := (none)) hx hb hr hlocks hK hS ((if_neg c_1).trans ((if_neg c_2).trans ((if_pos c_3).trans rfl))) hP hD rfl (Or.inl rfl) dX2_kindAt_31
      · have d_3 := i_len (show (5 : Int32).toInt = 5 from by decide) rfl c_3
        refine lv_aload_n hx hb dX2_kindAt_21 rfl (lv_at hl 0 rfl) ?_
        refine va_get (D := D) (ci := 2) (v := .ref (Z 1)) (C := RX2) (T := TX2) (N := 12) hx hb hts iX2 hown hK hP 5 rfl rfl 0 (by decide) k11 (fun _ h9 => h9) rfl dX2_kindAt_22 ?_
        refine lv_iload_n hx hb dX2_kindAt_25 rfl (lv_at hl 1 rfl) ?_
        have q_4 : vp_in k 5 := vp_in_iff.mpr ⟨by omega, by omega⟩
        refine va_aldq hx hb hK hP 6 2 rfl rfl q_4 dX2_kindAt_26 ?_
        refine W.eq (g2 := F0 m 27 ls [.ref (Z (3 + k.toNatClampNeg))]) rfl ?_
        have hq_4 : k.toNatClampNeg < 5 := vp_lt q_4
        refine lv_goto (tgt := 31) hx hb dX2_kindAt_27 (by decide) ?_
        rw [hQm]
        exact mx_aret (u0 := sX2_kindAt k f) (rv := (fun u => some (va_rf (u.map (fun j => Z (3 + j)))))) (w1 := (fun _ => landW Z cK f kv mv ++ R)) (u := (some k.toNatClampNeg)) hx hb hr hlocks hK hS ((if_neg c_1).trans ((if_neg c_2).trans ((if_neg c_3).trans rfl))) hP hD rfl (Or.inr ⟨_, rfl⟩) dX2_kindAt_31
theorem sX2_kindAt_lt {k : Int32} {f : Nat → Int32} {u : Option Nat} (e : u = sX2_kindAt k f) (h : ¬ u = none) : u.getD 0 < 5 := by
  rw [e] at h ⊢
  unfold sX2_kindAt at h ⊢
  split at h
  · exact absurd rfl h
  · split at h
    · exact absurd rfl h
    · split at h
      · exact absurd rfl h
      · rename_i h1 h2 h3
        have d1 := i_ltn rfl (show (0 : Int32).toInt = 0 from by decide) h1
        have d2 := i_len (show (5 : Int32).toInt = 5 from by decide) rfl h3
        rw [if_neg h1, if_neg h2, if_neg h3]
        exact vp_lt (vp_in_iff.mpr ⟨by omega, by omega⟩)
def lX8_yearsSinceLike_2 (t : Int32) (t_met : Nat → Int32) : Nat → Int32 → Int32
  | 0, x2_2 => (0)
  | n + 1, x2_2 => if 30 < x2_2 then (((-1000000))) else (if t < x2_2 then (((-1000000))) else (if 61 ≤ t then (((-1000000))) else (if (t_met (t - x2_2).toNatClampNeg) = (t_met t.toNatClampNeg) then ((x2_2)) else (lt (x2_2 + 1) (fun x_7 : Int32 => lX8_yearsSinceLike_2 t t_met n x_7)))))

def sX8_yearsSinceLike (t : Int32) (t_met : Nat → Int32) : Int32 := lX8_yearsSinceLike_2 t t_met 32 1
set_option maxHeartbeats 4000000 in
set_option maxRecDepth 100000 in
theorem mtX8_yearsSinceLike (l : Launch) (D : va_G) (cI cB cK cS : ClassId) (Z Z2 V : Nat → Nat) (R : va_W) (f : Nat → Int32) (kv : Nat → Nat → Int32) (mv : Nat → Int32) (f2 : Nat → Int32) (kv2 : Nat → Nat → Int32) (mv2 : Nat → Int32) (t_len : Int32) (t_end : Int32) (t_met : Nat → Int32) (t : Int32) : MX l yX8_yearsSinceLike wsX8_yearsSinceLike (rmX 1) D (tyX cI cB cK cS) pF0 (landW Z cK f kv mv ++ (landW Z2 cK f2 kv2 mv2 ++ (trW V Z cI t_len t_end t_met ++ R))) [.ref (V 0), .int t] (sX8_yearsSinceLike t t_met) (fun u => some (.int u)) (fun _ => landW Z cK f kv mv ++ (landW Z2 cK f2 kv2 mv2 ++ (trW V Z cI t_len t_end t_met ++ R))) := by
  refine mx_intro (cc := cX8_yearsSinceLike) (maxL := 3) (ret := (some .int)) (by decide) rfl (Nat.le_of_ble_eq_true rfl) ?_
  intro p e s m below meth c A ls H locs Qm hQm hx hb hr hml hts hown hlocks hA hS hP hK hD hF hl
  have hown : s.vm.findClass RX8 = some m.cls := hown
  have hl : lv_has ls 3 [(0, .ref (V 0)), (1, .int t)] := hl
  have k22 := hts (.constant RX8 22 (-1000000)) (by decide +kernel)
  have k18 := hts (.fieldLink RX8 18 "PigRounds$Trials" "met" "[I") (by decide +kernel)
  have iX8 : ∀ w ∈ u_ws RX8 TX8 4, w ∈ wsX8_yearsSinceLike := by decide +kernel
  refine lv_iconst (v := 1) hx hb dX8_yearsSinceLike_0 (by decide) ?_
  refine lv_istore_n (lv' := [(2, .int 1), (0, .ref (V 0)), (1, .int t)]) hx hb dX8_yearsSinceLike_1 rfl hl (by decide) rfl (fun ls hl => ?_)
  have L_2 : ∀ (n : Nat) (x2_2 : Int32) (H : Heap) (locs : List Loc) (ls : Array Slot), 0 ≤ x2_2.toInt → x2_2.toInt ≤ 31 → (31 : Int) < x2_2.toInt + ((n : Nat) : Int) → (sX8_yearsSinceLike t t_met = lX8_yearsSinceLike_2 t t_met n x2_2) → va_P D vwCl (landW Z cK f kv mv ++ (landW Z2 cK f2 kv2 mv2 ++ (trW V Z cI t_len t_end t_met ++ R))) H → va_D A (landW Z cK f kv mv ++ (landW Z2 cK f2 kv2 mv2 ++ (trW V Z cI t_len t_end t_met ++ R))) → va_S A s.heap H locs → lv_has ls 3 [(2, .int x2_2), (0, .ref (V 0)), (1, .int t)] → W p l e (rmX 1) s m ([.ref (V 0), .int t] : List Value).toArray below meth c H locs 0 0 Qm (F0 m 2 ls []) := by
    intro n
    induction n with
    | zero =>
      intro x2_2 H locs ls iv_2_0 iv_2_1 iv_2_2 hT_2 hP hD hS hl
      exfalso; omega
    | succ n ih_2 =>
      intro x2_2 H locs ls iv_2_0 iv_2_1 iv_2_2 hT_2 hP hD hS hl
      refine lv_iload_n hx hb dX8_yearsSinceLike_2 rfl (lv_at hl 0 rfl) ?_
      refine lv_bipush (v := 30) hx hb dX8_yearsSinceLike_3 (by decide) ?_
      refine lv_icmp_gt (tgt := 47) hx hb dX8_yearsSinceLike_5 (by decide) (fun c_1 => ?_) (fun c_1 => ?_)
      · have d_1 := i_lt (show (30 : Int32).toInt = 30 from by decide) rfl c_1
        refine lv_ldc (v := (-1000000)) hx hb hown k22 dX8_yearsSinceLike_47 ?_
        rw [hQm]
        exact mx_iret (u0 := sX8_yearsSinceLike t t_met) (rv := (fun u => some (.int u))) (w1 := (fun _ => landW Z cK f kv mv ++ (landW Z2 cK f2 kv2 mv2 ++ (trW V Z cI t_len t_end t_met ++ R)))) (u := ((-1000000))) hx hb hr hlocks hK hS (hT_2.trans ((if_pos c_1).trans rfl)) hP hD rfl dX8_yearsSinceLike_49
      · have d_1 := i_ltn (show (30 : Int32).toInt = 30 from by decide) rfl c_1
        refine lv_iload_n hx hb dX8_yearsSinceLike_8 rfl (lv_at hl 0 rfl) ?_
        refine lv_iload_n hx hb dX8_yearsSinceLike_9 rfl (lv_at hl 2 rfl) ?_
        refine lv_icmp_gt (tgt := 47) hx hb dX8_yearsSinceLike_10 (by decide) (fun c_2 => ?_) (fun c_2 => ?_)
        · have d_2 := i_lt rfl rfl c_2
          refine lv_ldc (v := (-1000000)) hx hb hown k22 dX8_yearsSinceLike_47 ?_
          rw [hQm]
          exact mx_iret (u0 := sX8_yearsSinceLike t t_met) (rv := (fun u => some (.int u))) (w1 := (fun _ => landW Z cK f kv mv ++ (landW Z2 cK f2 kv2 mv2 ++ (trW V Z cI t_len t_end t_met ++ R)))) (u := ((-1000000))) hx hb hr hlocks hK hS (hT_2.trans ((if_neg c_1).trans ((if_pos c_2).trans rfl))) hP hD rfl dX8_yearsSinceLike_49
        · have d_2 := i_ltn rfl rfl c_2
          refine lv_iload_n hx hb dX8_yearsSinceLike_13 rfl (lv_at hl 2 rfl) ?_
          refine lv_aload_n hx hb dX8_yearsSinceLike_14 rfl (lv_at hl 1 rfl) ?_
          refine va_get (D := D) (ci := 7) (v := .ref (V 1)) (C := RX8) (T := TX8) (N := 4) hx hb hts iX8 hown hK hP 16 rfl rfl 1 (by decide) k18 (fun _ h9 => h9) rfl dX8_yearsSinceLike_15 ?_
          refine va_alen (v := 61) hx hb hK hP 17 0 rfl rfl rfl dX8_yearsSinceLike_18 ?_
          refine lv_icmp_ge (tgt := 47) hx hb dX8_yearsSinceLike_19 (by decide) (fun c_3 => ?_) (fun c_3 => ?_)
          · have d_3 := i_le (show (61 : Int32).toInt = 61 from by decide) rfl c_3
            refine lv_ldc (v := (-1000000)) hx hb hown k22 dX8_yearsSinceLike_47 ?_
            rw [hQm]
            exact mx_iret (u0 := sX8_yearsSinceLike t t_met) (rv := (fun u => some (.int u))) (w1 := (fun _ => landW Z cK f kv mv ++ (landW Z2 cK f2 kv2 mv2 ++ (trW V Z cI t_len t_end t_met ++ R)))) (u := ((-1000000))) hx hb hr hlocks hK hS (hT_2.trans ((if_neg c_1).trans ((if_neg c_2).trans ((if_pos c_3).trans rfl)))) hP hD rfl dX8_yearsSinceLike_49
          · have d_3 := i_len (show (61 : Int32).toInt = 61 from by decide) rfl c_3
            refine lv_aload_n hx hb dX8_yearsSinceLike_22 rfl (lv_at hl 1 rfl) ?_
            refine va_get (D := D) (ci := 7) (v := .ref (V 1)) (C := RX8) (T := TX8) (N := 4) hx hb hts iX8 hown hK hP 16 rfl rfl 1 (by decide) k18 (fun _ h9 => h9) rfl dX8_yearsSinceLike_23 ?_
            refine lv_iload_n hx hb dX8_yearsSinceLike_26 rfl (lv_at hl 2 rfl) ?_
            refine lv_iload_n hx hb dX8_yearsSinceLike_27 rfl (lv_at hl 0 rfl) ?_
            refine lv_isub hx hb dX8_yearsSinceLike_28 ?_
            have q_4 : vp_in (t - x2_2) 61 := vp_in_iff.mpr (by rw [show (t - x2_2).toInt = (t.toInt - x2_2.toInt) from (i_subv rfl rfl (by omega) (by omega))]; constructor <;> omega)
            refine va_iald hx hb hK hP 17 0 rfl rfl q_4 dX8_yearsSinceLike_29 ?_
            refine lv_aload_n hx hb dX8_yearsSinceLike_30 rfl (lv_at hl 1 rfl) ?_
            refine va_get (D := D) (ci := 7) (v := .ref (V 1)) (C := RX8) (T := TX8) (N := 4) hx hb hts iX8 hown hK hP 16 rfl rfl 1 (by decide) k18 (fun _ h9 => h9) rfl dX8_yearsSinceLike_31 ?_
            refine lv_iload_n hx hb dX8_yearsSinceLike_34 rfl (lv_at hl 2 rfl) ?_
            have q_5 : vp_in t 61 := vp_in_iff.mpr ⟨by omega, by omega⟩
            refine va_iald hx hb hK hP 17 0 rfl rfl q_5 dX8_yearsSinceLike_35 ?_
            refine lv_icmp_ne (tgt := 41) hx hb dX8_yearsSinceLike_36 (by decide) (fun c_6 => ?_) (fun c_6 => ?_)
            · have d_6 := i_eqn rfl rfl c_6
              obtain ⟨x_7, ex_7⟩ : ∃ z : Int32, z = x2_2 + 1 := ⟨_, rfl⟩
              refine lv_iinc (v := x_7) (lv' := [(2, .int x_7), (0, .ref (V 0)), (1, .int t)]) hx hb dX8_yearsSinceLike_41 hl (k := 0) rfl (by rw [ex_7]; rfl) (by decide) rfl (fun ls hl => ?_)
              refine lv_goto (tgt := 2) hx hb dX8_yearsSinceLike_44 (by decide) ?_
              try have tx_7 : x_7.toInt = x2_2.toInt + 1 := i_inc ex_7 (by decide) (by omega) (by omega)
              exact ih_2 x_7 H locs ls (by first | omega | assumption) (by first | omega | assumption) (by first | omega | assumption) (hT_2.trans ((if_neg c_1).trans ((if_neg c_2).trans ((if_neg c_3).trans ((if_neg c_6).trans (lt_eq ex_7 rfl)))))) hP hD hS (lv_sub hl [0, 1, 2] rfl)
            · have d_6 := i_eq rfl rfl c_6
              refine lv_iload_n hx hb dX8_yearsSinceLike_39 rfl (lv_at hl 0 rfl) ?_
              rw [hQm]
              exact mx_iret (u0 := sX8_yearsSinceLike t t_met) (rv := (fun u => some (.int u))) (w1 := (fun _ => landW Z cK f kv mv ++ (landW Z2 cK f2 kv2 mv2 ++ (trW V Z cI t_len t_end t_met ++ R)))) (u := (x2_2)) hx hb hr hlocks hK hS (hT_2.trans ((if_neg c_1).trans ((if_neg c_2).trans ((if_neg c_3).trans ((if_pos c_6).trans rfl))))) hP hD rfl dX8_yearsSinceLike_40
  exact L_2 32 1 H locs ls (by decide) (by decide) (by decide) rfl hP hD hS (lv_sub hl [0, 1, 2] rfl)

def lX8_seekRound_35 : Nat → Int32 → (Nat → Int32) → (Nat → Nat → Int32) → (Nat → Int32) → Int32 → Int32 → (Nat → Int32) → Int32 × (Nat → Int32) × (Nat → Nat → Int32) × (Nat → Int32) × Int32 × Int32 × (Nat → Int32)
  | 0, x2_35, f_35, kv_35, mv_35, t_len2_35, t_end2_35, t_met2_35 => (x2_35, f_35, kv_35, mv_35, t_len2_35, t_end2_35, t_met2_35)
  | n + 1, x2_35, f_35, kv_35, mv_35, t_len2_35, t_end2_35, t_met2_35 => if 61 ≤ x2_35 then ((x2_35, f_35, kv_35, mv_35, t_len2_35, t_end2_35, t_met2_35)) else (if t_end2_35 = (-1000000) then (lt (sX2_liveYear f_35 kv_35 mv_35) (fun u_7 : Int32 × (Nat → Int32) × (Nat → Nat → Int32) × (Nat → Int32) => lt (sX2_likeness u_7.2.1 u_7.2.2.1) (fun u_8 : Int32 => lt (upd t_met2_35 x2_35.toNatClampNeg u_8) (fun ar_10 : Nat → Int32 => lt (sX8_yearsSinceLike x2_35 ar_10) (fun u_11 : Int32 => lt (if u_11 = (-1000000) then ((-1000000)) else (x2_35)) (fun y_12 : Int32 => lt (x2_35 + 1) (fun x_14 : Int32 => lX8_seekRound_35 n x_14 u_7.2.1 u_7.2.2.1 u_7.2.2.2 u_11 y_12 ar_10))))))) else ((x2_35, f_35, kv_35, mv_35, t_len2_35, t_end2_35, t_met2_35)))

def sX8_seekRound (f : Nat → Int32) (kv : Nat → Nat → Int32) (mv : Nat → Int32) (f2 : Nat → Int32) (kv2 : Nat → Nat → Int32) (mv2 : Nat → Int32) (t_met : Nat → Int32) : (Nat → Int32) × (Nat → Nat → Int32) × (Nat → Int32) × (Int32) × (Int32) × (Nat → Int32) := lt (sX2_takeAll f kv mv f2 kv2 mv2) (fun u_1 : (Nat → Int32) × (Nat → Nat → Int32) × (Nat → Int32) => lt (sX2_likeness u_1.1 u_1.2.1) (fun u_2 : Int32 => lt (upd t_met 0 u_2) (fun ar_4 : Nat → Int32 => lt (lX8_seekRound_35 62 1 u_1.1 u_1.2.1 u_1.2.2 (-1000000) (-1000000) ar_4) (fun u_15 : Int32 × (Nat → Int32) × (Nat → Nat → Int32) × (Nat → Int32) × Int32 × Int32 × (Nat → Int32) => (u_15.2.1, u_15.2.2.1, u_15.2.2.2.1, u_15.2.2.2.2.1, u_15.2.2.2.2.2.1, u_15.2.2.2.2.2.2)))))
set_option maxHeartbeats 4000000 in
set_option maxRecDepth 100000 in
theorem mtX8_seekRound (l : Launch) (D : va_G) (cI cB cK cS : ClassId) (Z Z2 V : Nat → Nat) (R : va_W) (f : Nat → Int32) (kv : Nat → Nat → Int32) (mv : Nat → Int32) (f2 : Nat → Int32) (kv2 : Nat → Nat → Int32) (mv2 : Nat → Int32) (t_len : Int32) (t_end : Int32) (t_met : Nat → Int32) (hz : ∀ j, j < 5 → kv2 j 7 = 0 ∨ kv2 j 7 = 1) : MX l yX8_seekRound wsX8_seekRound (rmX 5) D (tyX cI cB cK cS) pF0 (landW Z cK f kv mv ++ (landW Z2 cK f2 kv2 mv2 ++ (trW V Z cI t_len t_end t_met ++ R))) [.ref (V 0), .ref (Z2 0)] (sX8_seekRound f kv mv f2 kv2 mv2 t_met) (fun _ => none) (fun u => landW Z cK u.1 u.2.1 u.2.2.1 ++ (landW Z2 cK f2 kv2 mv2 ++ (trW V Z cI u.2.2.2.1 u.2.2.2.2.1 u.2.2.2.2.2 ++ R))) := by
  refine mx_intro (cc := cX8_seekRound) (maxL := 3) (ret := none) (by decide) rfl (Nat.le_of_ble_eq_true rfl) ?_
  intro p e s m below meth c A ls H locs Qm hQm hx hb hr hml hts hown hlocks hA hS hP hK hD hF hl
  have hown : s.vm.findClass RX8 = some m.cls := hown
  have hl : lv_has ls 3 [(0, .ref (V 0)), (1, .ref (Z2 0))] := hl
  have k22 := hts (.constant RX8 22 (-1000000)) (by decide +kernel)
  have k23 := hts (.fieldLink RX8 23 "PigRounds$Trials" "roundLength" "I") (by decide +kernel)
  have k27 := hts (.fieldLink RX8 27 "PigRounds$Trials" "roundEnd" "I") (by decide +kernel)
  have k12 := hts (.fieldLink RX8 12 "PigRounds$Trials" "trial" "LPigRounds$Land;") (by decide +kernel)
  have k18 := hts (.fieldLink RX8 18 "PigRounds$Trials" "met" "[I") (by decide +kernel)
  have iX8 : ∀ w ∈ u_ws RX8 TX8 4, w ∈ wsX8_seekRound := by decide +kernel
  refine lv_aload_n hx hb dX8_seekRound_0 rfl (lv_at hl 0 rfl) ?_
  refine lv_ldc (v := (-1000000)) hx hb hown k22 dX8_seekRound_1 ?_
  refine va_put (D := D) (ci := 7) (v := .int (-1000000)) (ty := .int) (C := RX8) (T := TX8) (N := 4) hx hb hts iX8 tyX8 tyX8_ok nmX8 hown hK hP hD hS 16 rfl rfl 2 (by decide) k23 (fun _ h9 => h9) rfl (by decide +kernel) rfl rfl (Nat.le_of_ble_eq_true rfl) dX8_seekRound_3 (fun H locs hP hD hS => ?_)
  have hP : va_P D vwCl (landW Z cK f kv mv ++ (landW Z2 cK f2 kv2 mv2 ++ (trW V Z cI (-1000000) t_end t_met ++ R))) H := hP
  have hD : va_D A (landW Z cK f kv mv ++ (landW Z2 cK f2 kv2 mv2 ++ (trW V Z cI (-1000000) t_end t_met ++ R))) := hD
  refine lv_aload_n hx hb dX8_seekRound_6 rfl (lv_at hl 0 rfl) ?_
  refine lv_ldc (v := (-1000000)) hx hb hown k22 dX8_seekRound_7 ?_
  refine va_put (D := D) (ci := 7) (v := .int (-1000000)) (ty := .int) (C := RX8) (T := TX8) (N := 4) hx hb hts iX8 tyX8 tyX8_ok nmX8 hown hK hP hD hS 16 rfl rfl 3 (by decide) k27 (fun _ h9 => h9) rfl (by decide +kernel) rfl rfl (Nat.le_of_ble_eq_true rfl) dX8_seekRound_9 (fun H locs hP hD hS => ?_)
  have hP : va_P D vwCl (landW Z cK f kv mv ++ (landW Z2 cK f2 kv2 mv2 ++ (trW V Z cI (-1000000) (-1000000) t_met ++ R))) H := hP
  have hD : va_D A (landW Z cK f kv mv ++ (landW Z2 cK f2 kv2 mv2 ++ (trW V Z cI (-1000000) (-1000000) t_met ++ R))) := hD
  refine lv_aload_n hx hb dX8_seekRound_12 rfl (lv_at hl 0 rfl) ?_
  refine va_get (D := D) (ci := 7) (v := .ref (Z 0)) (C := RX8) (T := TX8) (N := 4) hx hb hts iX8 hown hK hP 16 rfl rfl 0 (by decide) k12 (fun _ h9 => h9) rfl dX8_seekRound_13 ?_
  refine lv_aload_n hx hb dX8_seekRound_16 rfl (lv_at hl 1 rfl) ?_
  refine mx_callV (As := [.ref (Z2 0)]) (rest := []) ⟨hx, hb, hml, hown, hts⟩ (mtX2_takeAll l D cI cB cK cS Z Z2 (trW V Z cI (-1000000) (-1000000) t_met ++ R) f kv mv f2 kv2 mv2 (by first | assumption | omega)) (cwV 1 hts gX8_seekRound_X2_takeAll rfl rfl rfl (by decide +kernel) ⟨Nat.le_of_ble_eq_true rfl, Nat.le_of_ble_eq_true rfl⟩) pF0_ok trivial hK hP hD hS hA 5 rfl rfl rfl rfl hl.1 rfl (Nat.le_of_ble_eq_true rfl) dX8_seekRound_17 ⟨Nat.le_refl _, Nat.le_refl _⟩ (fun u_1 H locs eu_1 hP hD hS => ?_)
  refine W.eq (g2 := F0 m 20 ls []) rfl ?_
  have hP : va_P D vwCl (landW Z cK u_1.1 u_1.2.1 u_1.2.2 ++ (landW Z2 cK f2 kv2 mv2 ++ (trW V Z cI (-1000000) (-1000000) t_met ++ R))) H := hP
  have hD : va_D A (landW Z cK u_1.1 u_1.2.1 u_1.2.2 ++ (landW Z2 cK f2 kv2 mv2 ++ (trW V Z cI (-1000000) (-1000000) t_met ++ R))) := hD
  refine lv_aload_n hx hb dX8_seekRound_20 rfl (lv_at hl 0 rfl) ?_
  refine va_get (D := D) (ci := 7) (v := .ref (V 1)) (C := RX8) (T := TX8) (N := 4) hx hb hts iX8 hown hK hP 16 rfl rfl 1 (by decide) k18 (fun _ h9 => h9) rfl dX8_seekRound_21 ?_
  refine lv_iconst (v := 0) hx hb dX8_seekRound_24 (by decide) ?_
  refine lv_aload_n hx hb dX8_seekRound_25 rfl (lv_at hl 0 rfl) ?_
  refine va_get (D := D) (ci := 7) (v := .ref (Z 0)) (C := RX8) (T := TX8) (N := 4) hx hb hts iX8 hown hK hP 16 rfl rfl 0 (by decide) k12 (fun _ h9 => h9) rfl dX8_seekRound_26 ?_
  refine mx_callV (As := []) (rest := [.int 0, .ref (V 1)]) ⟨hx, hb, hml, hown, hts⟩ (mtX2_likeness l D cI cB cK cS Z (landW Z2 cK f2 kv2 mv2 ++ (trW V Z cI (-1000000) (-1000000) t_met ++ R)) u_1.1 u_1.2.1 u_1.2.2) (cwV 0 hts gX8_seekRound_X2_likeness rfl rfl rfl (by decide +kernel) ⟨Nat.le_of_ble_eq_true rfl, Nat.le_of_ble_eq_true rfl⟩) pF0_ok trivial hK hP hD hS hA 5 rfl rfl rfl rfl hl.1 rfl (Nat.le_of_ble_eq_true rfl) dX8_seekRound_29 ⟨Nat.le_refl _, Nat.le_refl _⟩ (fun u_2 H locs eu_2 hP hD hS => ?_)
  refine W.eq (g2 := F0 m 32 ls [.int u_2, .int 0, .ref (V 1)]) rfl ?_
  have hP : va_P D vwCl (landW Z cK u_1.1 u_1.2.1 u_1.2.2 ++ (landW Z2 cK f2 kv2 mv2 ++ (trW V Z cI (-1000000) (-1000000) t_met ++ R))) H := hP
  have hD : va_D A (landW Z cK u_1.1 u_1.2.1 u_1.2.2 ++ (landW Z2 cK f2 kv2 mv2 ++ (trW V Z cI (-1000000) (-1000000) t_met ++ R))) := hD
  have q_3 : vp_in (0 : Int32) 61 := vp_in_iff.mpr (by decide)
  refine va_iast hx hb hK hP hD hS 17 0 rfl rfl q_3 dX8_seekRound_32 (fun H locs hP hD hS => ?_)
  obtain ⟨ar_4, ear_4⟩ : ∃ z : Nat → Int32, z = upd t_met 0 u_2 := ⟨_, rfl⟩
  have hP : va_P D vwCl (landW Z cK u_1.1 u_1.2.1 u_1.2.2 ++ (landW Z2 cK f2 kv2 mv2 ++ (trW V Z cI (-1000000) (-1000000) (upd t_met 0 u_2) ++ R))) H := hP
  have hD : va_D A (landW Z cK u_1.1 u_1.2.1 u_1.2.2 ++ (landW Z2 cK f2 kv2 mv2 ++ (trW V Z cI (-1000000) (-1000000) (upd t_met 0 u_2) ++ R))) := hD
  rw [← ear_4] at hP hD
  have hP : va_P D vwCl (landW Z cK u_1.1 u_1.2.1 u_1.2.2 ++ (landW Z2 cK f2 kv2 mv2 ++ (trW V Z cI (-1000000) (-1000000) ar_4 ++ R))) H := hP
  have hD : va_D A (landW Z cK u_1.1 u_1.2.1 u_1.2.2 ++ (landW Z2 cK f2 kv2 mv2 ++ (trW V Z cI (-1000000) (-1000000) ar_4 ++ R))) := hD
  refine lv_iconst (v := 1) hx hb dX8_seekRound_33 (by decide) ?_
  refine lv_istore_n (lv' := [(2, .int 1), (0, .ref (V 0)), (1, .ref (Z2 0))]) hx hb dX8_seekRound_34 rfl hl (by decide) rfl (fun ls hl => ?_)
  have L_35 : ∀ (n : Nat) (x2_35 : Int32) (f_35 : Nat → Int32) (kv_35 : Nat → Nat → Int32) (mv_35 : Nat → Int32) (t_len2_35 : Int32) (t_end2_35 : Int32) (t_met2_35 : Nat → Int32) (H : Heap) (locs : List Loc) (ls : Array Slot), 0 ≤ x2_35.toInt → x2_35.toInt ≤ 61 → (61 : Int) < x2_35.toInt + ((n : Nat) : Int) → va_P D vwCl (landW Z cK f_35 kv_35 mv_35 ++ (landW Z2 cK f2 kv2 mv2 ++ (trW V Z cI t_len2_35 t_end2_35 t_met2_35 ++ R))) H → va_D A (landW Z cK f_35 kv_35 mv_35 ++ (landW Z2 cK f2 kv2 mv2 ++ (trW V Z cI t_len2_35 t_end2_35 t_met2_35 ++ R))) → va_S A s.heap H locs → lv_has ls 3 [(2, .int x2_35), (0, .ref (V 0))] → (∀ (u : Int32 × (Nat → Int32) × (Nat → Nat → Int32) × (Nat → Int32) × Int32 × Int32 × (Nat → Int32)) (H : Heap) (locs : List Loc) (ls : Array Slot), u = lX8_seekRound_35 n x2_35 f_35 kv_35 mv_35 t_len2_35 t_end2_35 t_met2_35 → va_P D vwCl (landW Z cK u.2.1 u.2.2.1 u.2.2.2.1 ++ (landW Z2 cK f2 kv2 mv2 ++ (trW V Z cI u.2.2.2.2.1 u.2.2.2.2.2.1 u.2.2.2.2.2.2 ++ R))) H → va_D A (landW Z cK u.2.1 u.2.2.1 u.2.2.2.1 ++ (landW Z2 cK f2 kv2 mv2 ++ (trW V Z cI u.2.2.2.2.1 u.2.2.2.2.2.1 u.2.2.2.2.2.2 ++ R))) → va_S A s.heap H locs → lv_has ls 3 [] → W p l e (rmX 5) s m ([.ref (V 0), .ref (Z2 0)] : List Value).toArray below meth c H locs 0 0 Qm (F0 m 108 ls [])) → W p l e (rmX 5) s m ([.ref (V 0), .ref (Z2 0)] : List Value).toArray below meth c H locs 0 0 Qm (F0 m 35 ls []) := by
    intro n
    induction n with
    | zero =>
      intro x2_35 f_35 kv_35 mv_35 t_len2_35 t_end2_35 t_met2_35 H locs ls iv_35_0 iv_35_1 iv_35_2 hP hD hS hl kont_35
      exfalso; omega
    | succ n ih_35 =>
      intro x2_35 f_35 kv_35 mv_35 t_len2_35 t_end2_35 t_met2_35 H locs ls iv_35_0 iv_35_1 iv_35_2 hP hD hS hl kont_35
      refine lv_iload_n hx hb dX8_seekRound_35 rfl (lv_at hl 0 rfl) ?_
      refine lv_aload_n hx hb dX8_seekRound_36 rfl (lv_at hl 1 rfl) ?_
      refine va_get (D := D) (ci := 7) (v := .ref (V 1)) (C := RX8) (T := TX8) (N := 4) hx hb hts iX8 hown hK hP 16 rfl rfl 1 (by decide) k18 (fun _ h9 => h9) rfl dX8_seekRound_37 ?_
      refine va_alen (v := 61) hx hb hK hP 17 0 rfl rfl rfl dX8_seekRound_40 ?_
      refine lv_icmp_ge (tgt := 108) hx hb dX8_seekRound_41 (by decide) (fun c_5 => ?_) (fun c_5 => ?_)
      · have d_5 := i_le (show (61 : Int32).toInt = 61 from by decide) rfl c_5
        exact kont_35 (x2_35, f_35, kv_35, mv_35, t_len2_35, t_end2_35, t_met2_35) H locs ls (show lX8_seekRound_35 (n + 1) x2_35 f_35 kv_35 mv_35 t_len2_35 t_end2_35 t_met2_35 = (x2_35, f_35, kv_35, mv_35, t_len2_35, t_end2_35, t_met2_35) from ((if_pos c_5).trans rfl)).symm  hP hD hS (lv_sub hl [] rfl)
      · have d_5 := i_len (show (61 : Int32).toInt = 61 from by decide) rfl c_5
        refine lv_aload_n hx hb dX8_seekRound_44 rfl (lv_at hl 1 rfl) ?_
        refine va_get (D := D) (ci := 7) (v := .int t_end2_35) (C := RX8) (T := TX8) (N := 4) hx hb hts iX8 hown hK hP 16 rfl rfl 3 (by decide) k27 (fun _ h9 => h9) rfl dX8_seekRound_45 ?_
        refine lv_ldc (v := (-1000000)) hx hb hown k22 dX8_seekRound_48 ?_
        refine lv_icmp_ne (tgt := 108) hx hb dX8_seekRound_50 (by decide) (fun c_6 => ?_) (fun c_6 => ?_)
        · have d_6 := i_eqn rfl (show ((-1000000) : Int32).toInt = (-1000000) from by decide) c_6
          exact kont_35 (x2_35, f_35, kv_35, mv_35, t_len2_35, t_end2_35, t_met2_35) H locs ls (show lX8_seekRound_35 (n + 1) x2_35 f_35 kv_35 mv_35 t_len2_35 t_end2_35 t_met2_35 = (x2_35, f_35, kv_35, mv_35, t_len2_35, t_end2_35, t_met2_35) from ((if_neg c_5).trans ((if_neg c_6).trans rfl))).symm  hP hD hS (lv_sub hl [] rfl)
        · have d_6 := i_eq rfl (show ((-1000000) : Int32).toInt = (-1000000) from by decide) c_6
          refine lv_aload_n hx hb dX8_seekRound_53 rfl (lv_at hl 1 rfl) ?_
          refine va_get (D := D) (ci := 7) (v := .ref (Z 0)) (C := RX8) (T := TX8) (N := 4) hx hb hts iX8 hown hK hP 16 rfl rfl 0 (by decide) k12 (fun _ h9 => h9) rfl dX8_seekRound_54 ?_
          refine mx_callV (As := []) (rest := []) ⟨hx, hb, hml, hown, hts⟩ (mtX2_liveYear l D cI cB cK cS Z (landW Z2 cK f2 kv2 mv2 ++ (trW V Z cI t_len2_35 t_end2_35 t_met2_35 ++ R)) f_35 kv_35 mv_35) (cwV 0 hts gX8_seekRound_X2_liveYear rfl rfl rfl (by decide +kernel) ⟨Nat.le_of_ble_eq_true rfl, Nat.le_of_ble_eq_true rfl⟩) pF0_ok trivial hK hP hD hS hA 5 rfl rfl rfl rfl hl.1 rfl (Nat.le_of_ble_eq_true rfl) dX8_seekRound_57 ⟨Nat.le_refl _, Nat.le_refl _⟩ (fun u_7 H locs eu_7 hP hD hS => ?_)
          refine W.eq (g2 := F0 m 60 ls [.int u_7.1]) rfl ?_
          have hP : va_P D vwCl (landW Z cK u_7.2.1 u_7.2.2.1 u_7.2.2.2 ++ (landW Z2 cK f2 kv2 mv2 ++ (trW V Z cI t_len2_35 t_end2_35 t_met2_35 ++ R))) H := hP
          have hD : va_D A (landW Z cK u_7.2.1 u_7.2.2.1 u_7.2.2.2 ++ (landW Z2 cK f2 kv2 mv2 ++ (trW V Z cI t_len2_35 t_end2_35 t_met2_35 ++ R))) := hD
          refine lv_pop hx hb dX8_seekRound_60 rfl ?_
          refine lv_aload_n hx hb dX8_seekRound_61 rfl (lv_at hl 1 rfl) ?_
          refine va_get (D := D) (ci := 7) (v := .ref (V 1)) (C := RX8) (T := TX8) (N := 4) hx hb hts iX8 hown hK hP 16 rfl rfl 1 (by decide) k18 (fun _ h9 => h9) rfl dX8_seekRound_62 ?_
          refine lv_iload_n hx hb dX8_seekRound_65 rfl (lv_at hl 0 rfl) ?_
          refine lv_aload_n hx hb dX8_seekRound_66 rfl (lv_at hl 1 rfl) ?_
          refine va_get (D := D) (ci := 7) (v := .ref (Z 0)) (C := RX8) (T := TX8) (N := 4) hx hb hts iX8 hown hK hP 16 rfl rfl 0 (by decide) k12 (fun _ h9 => h9) rfl dX8_seekRound_67 ?_
          refine mx_callV (As := []) (rest := [.int x2_35, .ref (V 1)]) ⟨hx, hb, hml, hown, hts⟩ (mtX2_likeness l D cI cB cK cS Z (landW Z2 cK f2 kv2 mv2 ++ (trW V Z cI t_len2_35 t_end2_35 t_met2_35 ++ R)) u_7.2.1 u_7.2.2.1 u_7.2.2.2) (cwV 0 hts gX8_seekRound_X2_likeness rfl rfl rfl (by decide +kernel) ⟨Nat.le_of_ble_eq_true rfl, Nat.le_of_ble_eq_true rfl⟩) pF0_ok trivial hK hP hD hS hA 5 rfl rfl rfl rfl hl.1 rfl (Nat.le_of_ble_eq_true rfl) dX8_seekRound_70 ⟨Nat.le_refl _, Nat.le_refl _⟩ (fun u_8 H locs eu_8 hP hD hS => ?_)
          refine W.eq (g2 := F0 m 73 ls [.int u_8, .int x2_35, .ref (V 1)]) rfl ?_
          have hP : va_P D vwCl (landW Z cK u_7.2.1 u_7.2.2.1 u_7.2.2.2 ++ (landW Z2 cK f2 kv2 mv2 ++ (trW V Z cI t_len2_35 t_end2_35 t_met2_35 ++ R))) H := hP
          have hD : va_D A (landW Z cK u_7.2.1 u_7.2.2.1 u_7.2.2.2 ++ (landW Z2 cK f2 kv2 mv2 ++ (trW V Z cI t_len2_35 t_end2_35 t_met2_35 ++ R))) := hD
          have q_9 : vp_in x2_35 61 := vp_in_iff.mpr ⟨by omega, by omega⟩
          refine va_iast hx hb hK hP hD hS 17 0 rfl rfl q_9 dX8_seekRound_73 (fun H locs hP hD hS => ?_)
          obtain ⟨ar_10, ear_10⟩ : ∃ z : Nat → Int32, z = upd t_met2_35 x2_35.toNatClampNeg u_8 := ⟨_, rfl⟩
          have hP : va_P D vwCl (landW Z cK u_7.2.1 u_7.2.2.1 u_7.2.2.2 ++ (landW Z2 cK f2 kv2 mv2 ++ (trW V Z cI t_len2_35 t_end2_35 (upd t_met2_35 x2_35.toNatClampNeg u_8) ++ R))) H := hP
          have hD : va_D A (landW Z cK u_7.2.1 u_7.2.2.1 u_7.2.2.2 ++ (landW Z2 cK f2 kv2 mv2 ++ (trW V Z cI t_len2_35 t_end2_35 (upd t_met2_35 x2_35.toNatClampNeg u_8) ++ R))) := hD
          rw [← ear_10] at hP hD
          have hP : va_P D vwCl (landW Z cK u_7.2.1 u_7.2.2.1 u_7.2.2.2 ++ (landW Z2 cK f2 kv2 mv2 ++ (trW V Z cI t_len2_35 t_end2_35 ar_10 ++ R))) H := hP
          have hD : va_D A (landW Z cK u_7.2.1 u_7.2.2.1 u_7.2.2.2 ++ (landW Z2 cK f2 kv2 mv2 ++ (trW V Z cI t_len2_35 t_end2_35 ar_10 ++ R))) := hD
          refine lv_aload_n hx hb dX8_seekRound_74 rfl (lv_at hl 1 rfl) ?_
          refine lv_aload_n hx hb dX8_seekRound_75 rfl (lv_at hl 1 rfl) ?_
          refine lv_iload_n hx hb dX8_seekRound_76 rfl (lv_at hl 0 rfl) ?_
          refine mx_callV (As := [.int x2_35]) (rest := [.ref (V 0)]) ⟨hx, hb, hml, hown, hts⟩ (mtX8_yearsSinceLike l D cI cB cK cS Z Z2 V R u_7.2.1 u_7.2.2.1 u_7.2.2.2 f2 kv2 mv2 t_len2_35 t_end2_35 ar_10 x2_35) (cwV 1 hts gX8_seekRound_X8_yearsSinceLike rfl rfl rfl (by decide +kernel) ⟨Nat.le_of_ble_eq_true rfl, Nat.le_of_ble_eq_true rfl⟩) pF0_ok trivial hK hP hD hS hA 16 rfl rfl rfl rfl hl.1 rfl (Nat.le_of_ble_eq_true rfl) dX8_seekRound_77 ⟨Nat.le_refl _, Nat.le_refl _⟩ (fun u_11 H locs eu_11 hP hD hS => ?_)
          refine W.eq (g2 := F0 m 80 ls [.int u_11, .ref (V 0)]) rfl ?_
          have hP : va_P D vwCl (landW Z cK u_7.2.1 u_7.2.2.1 u_7.2.2.2 ++ (landW Z2 cK f2 kv2 mv2 ++ (trW V Z cI t_len2_35 t_end2_35 ar_10 ++ R))) H := hP
          have hD : va_D A (landW Z cK u_7.2.1 u_7.2.2.1 u_7.2.2.2 ++ (landW Z2 cK f2 kv2 mv2 ++ (trW V Z cI t_len2_35 t_end2_35 ar_10 ++ R))) := hD
          refine va_put (D := D) (ci := 7) (v := .int u_11) (ty := .int) (C := RX8) (T := TX8) (N := 4) hx hb hts iX8 tyX8 tyX8_ok nmX8 hown hK hP hD hS 16 rfl rfl 2 (by decide) k23 (fun _ h9 => h9) rfl (by decide +kernel) rfl rfl (Nat.le_of_ble_eq_true rfl) dX8_seekRound_80 (fun H locs hP hD hS => ?_)
          have hP : va_P D vwCl (landW Z cK u_7.2.1 u_7.2.2.1 u_7.2.2.2 ++ (landW Z2 cK f2 kv2 mv2 ++ (trW V Z cI u_11 t_end2_35 ar_10 ++ R))) H := hP
          have hD : va_D A (landW Z cK u_7.2.1 u_7.2.2.1 u_7.2.2.2 ++ (landW Z2 cK f2 kv2 mv2 ++ (trW V Z cI u_11 t_end2_35 ar_10 ++ R))) := hD
          refine lv_aload_n hx hb dX8_seekRound_83 rfl (lv_at hl 1 rfl) ?_
          refine lv_aload_n hx hb dX8_seekRound_84 rfl (lv_at hl 1 rfl) ?_
          refine va_get (D := D) (ci := 7) (v := .int u_11) (C := RX8) (T := TX8) (N := 4) hx hb hts iX8 hown hK hP 16 rfl rfl 2 (by decide) k23 (fun _ h9 => h9) rfl dX8_seekRound_85 ?_
          refine lv_ldc (v := (-1000000)) hx hb hown k22 dX8_seekRound_88 ?_
          have J_12 : ∀ (y_12 : Int32) (H : Heap) (locs : List Loc) (ls : Array Slot), y_12 = (if u_11 = (-1000000) then ((-1000000)) else (x2_35)) → va_P D vwCl (landW Z cK u_7.2.1 u_7.2.2.1 u_7.2.2.2 ++ (landW Z2 cK f2 kv2 mv2 ++ (trW V Z cI u_11 t_end2_35 ar_10 ++ R))) H → va_D A (landW Z cK u_7.2.1 u_7.2.2.1 u_7.2.2.2 ++ (landW Z2 cK f2 kv2 mv2 ++ (trW V Z cI u_11 t_end2_35 ar_10 ++ R))) → va_S A s.heap H locs → lv_has ls 3 [(2, .int x2_35), (0, .ref (V 0))] → W p l e (rmX 5) s m ([.ref (V 0), .ref (Z2 0)] : List Value).toArray below meth c H locs 0 0 Qm (F0 m 99 ls [.int y_12, .ref (V 0)]) := by
            intro y_12 H locs ls ey_12 hP hD hS hl
            refine va_put (D := D) (ci := 7) (v := .int y_12) (ty := .int) (C := RX8) (T := TX8) (N := 4) hx hb hts iX8 tyX8 tyX8_ok nmX8 hown hK hP hD hS 16 rfl rfl 3 (by decide) k27 (fun _ h9 => h9) rfl (by decide +kernel) rfl rfl (Nat.le_of_ble_eq_true rfl) dX8_seekRound_99 (fun H locs hP hD hS => ?_)
            have hP : va_P D vwCl (landW Z cK u_7.2.1 u_7.2.2.1 u_7.2.2.2 ++ (landW Z2 cK f2 kv2 mv2 ++ (trW V Z cI u_11 y_12 ar_10 ++ R))) H := hP
            have hD : va_D A (landW Z cK u_7.2.1 u_7.2.2.1 u_7.2.2.2 ++ (landW Z2 cK f2 kv2 mv2 ++ (trW V Z cI u_11 y_12 ar_10 ++ R))) := hD
            obtain ⟨x_14, ex_14⟩ : ∃ z : Int32, z = x2_35 + 1 := ⟨_, rfl⟩
            refine lv_iinc (v := x_14) (lv' := [(2, .int x_14), (0, .ref (V 0))]) hx hb dX8_seekRound_102 hl (k := 0) rfl (by rw [ex_14]; rfl) (by decide) rfl (fun ls hl => ?_)
            refine lv_goto (tgt := 35) hx hb dX8_seekRound_105 (by decide) ?_
            try have tx_14 : x_14.toInt = x2_35.toInt + 1 := i_inc ex_14 (by decide) (by omega) (by omega)
            refine ih_35 x_14 u_7.2.1 u_7.2.2.1 u_7.2.2.2 u_11 y_12 ar_10 H locs ls (by first | omega | assumption) (by first | omega | assumption) (by first | omega | assumption) hP hD hS (lv_sub hl [0, 1] rfl) (fun u H locs ls eu  hP hD hS hl => ?_)
            exact kont_35 u H locs ls (eu.trans (show lX8_seekRound_35 (n + 1) x2_35 f_35 kv_35 mv_35 t_len2_35 t_end2_35 t_met2_35 = lX8_seekRound_35 n x_14 u_7.2.1 u_7.2.2.1 u_7.2.2.2 u_11 y_12 ar_10 from ((if_neg c_5).trans ((if_pos c_6).trans (lt_eq eu_7 (lt_eq eu_8 (lt_eq ear_10 (lt_eq eu_11 (lt_eq ey_12 (lt_eq ex_14 rfl))))))))).symm)  hP hD hS hl
          refine lv_icmp_ne (tgt := 98) hx hb dX8_seekRound_90 (by decide) (fun c_13 => ?_) (fun c_13 => ?_)
          · have d_13 := i_eqn rfl (show ((-1000000) : Int32).toInt = (-1000000) from by decide) c_13
            refine lv_iload_n hx hb dX8_seekRound_98 rfl (lv_at hl 0 rfl) ?_
            exact J_12 x2_35 H locs ls (Eq.symm ((if_neg c_13).trans rfl)) hP hD hS (lv_sub hl [0, 1] rfl)
          · have d_13 := i_eq rfl (show ((-1000000) : Int32).toInt = (-1000000) from by decide) c_13
            refine lv_ldc (v := (-1000000)) hx hb hown k22 dX8_seekRound_93 ?_
            refine lv_goto (tgt := 99) hx hb dX8_seekRound_95 (by decide) ?_
            exact J_12 (-1000000) H locs ls (Eq.symm ((if_pos c_13).trans rfl)) hP hD hS (lv_sub hl [0, 1] rfl)
  refine L_35 62 1 u_1.1 u_1.2.1 u_1.2.2 (-1000000) (-1000000) ar_4 H locs ls (by decide) (by decide) (by decide) hP hD hS (lv_sub hl [0, 1] rfl) (fun u_15 H locs ls eu_15  hP hD hS hl => ?_)
  have hP : va_P D vwCl (landW Z cK u_15.2.1 u_15.2.2.1 u_15.2.2.2.1 ++ (landW Z2 cK f2 kv2 mv2 ++ (trW V Z cI u_15.2.2.2.2.1 u_15.2.2.2.2.2.1 u_15.2.2.2.2.2.2 ++ R))) H := hP
  have hD : va_D A (landW Z cK u_15.2.1 u_15.2.2.1 u_15.2.2.2.1 ++ (landW Z2 cK f2 kv2 mv2 ++ (trW V Z cI u_15.2.2.2.2.1 u_15.2.2.2.2.2.1 u_15.2.2.2.2.2.2 ++ R))) := hD
  rw [hQm]
  exact mx_vret (u0 := sX8_seekRound f kv mv f2 kv2 mv2 t_met) (rv := (fun _ => none)) (w1 := (fun u => landW Z cK u.1 u.2.1 u.2.2.1 ++ (landW Z2 cK f2 kv2 mv2 ++ (trW V Z cI u.2.2.2.1 u.2.2.2.2.1 u.2.2.2.2.2 ++ R)))) (u := (u_15.2.1, u_15.2.2.1, u_15.2.2.2.1, u_15.2.2.2.2.1, u_15.2.2.2.2.2.1, u_15.2.2.2.2.2.2)) hx hb hr hlocks hK hS (lt_eq eu_1 (lt_eq eu_2 (lt_eq ear_4 (lt_eq eu_15 rfl)))) hP hD rfl dX8_seekRound_108

def lX8_gainsEnough_62 (nn : Int32) : Nat → Int32 → (Nat → Int32) → (Nat → Nat → Int32) → (Nat → Int32) → Int32 × (Nat → Int32) × (Nat → Nat → Int32) × (Nat → Int32)
  | 0, x8_62, f_62, kv_62, mv_62 => (x8_62, f_62, kv_62, mv_62)
  | n + 1, x8_62, f_62, kv_62, mv_62 => if nn ≤ x8_62 then ((x8_62, f_62, kv_62, mv_62)) else (lt (sX2_liveYear f_62 kv_62 mv_62) (fun u_11 : Int32 × (Nat → Int32) × (Nat → Nat → Int32) × (Nat → Int32) => lt (x8_62 + 1) (fun x_12 : Int32 => lX8_gainsEnough_62 nn n x_12 u_11.2.1 u_11.2.2.1 u_11.2.2.2)))

def sX8_gainsEnough (k : Int32) (a : Int32) (nn : Int32) (f : Nat → Int32) (kv : Nat → Nat → Int32) (mv : Nat → Int32) (f2 : Nat → Int32) (kv2 : Nat → Nat → Int32) (mv2 : Nat → Int32) : Int32 × (Nat → Int32) × (Nat → Nat → Int32) × (Nat → Int32) := lt (sX2_takeAll f kv mv f2 kv2 mv2) (fun u_1 : (Nat → Int32) × (Nat → Nat → Int32) × (Nat → Int32) => lt (sX2_kindAt k u_1.1) (fun u_2 : Option Nat => if u_2 = none then (lt (sX2_kindAt 0 u_1.1) (fun u_4 : Option Nat => if u_4 = none then ((0, u_1.1, u_1.2.1, u_1.2.2)) else ((0, u_1.1, u_1.2.1, u_1.2.2)))) else (lt (sX2_kindAt 0 u_1.1) (fun u_6 : Option Nat => if u_6 = none then ((0, u_1.1, u_1.2.1, u_1.2.2)) else (lt (va_up u_1.2.1 (u_2.getD 0) (upd (u_1.2.1 (u_2.getD 0)) 2 a)) (fun kv_8 : Nat → Nat → Int32 => lt (((kv_8 (u_2.getD 0)) 6) - ((kv_8 (u_6.getD 0)) 6)) (fun x_9 : Int32 => lt (lX8_gainsEnough_62 nn 31 0 u_1.1 kv_8 u_1.2.2) (fun u_13 : Int32 × (Nat → Int32) × (Nat → Nat → Int32) × (Nat → Int32) => if (((u_13.2.2.1 (u_2.getD 0)) 6) - ((u_13.2.2.1 (u_6.getD 0)) 6)) < x_9 then ((0, u_13.2.1, u_13.2.2.1, u_13.2.2.2)) else ((1, u_13.2.1, u_13.2.2.1, u_13.2.2.2))))))))))
set_option maxHeartbeats 4000000 in
set_option maxRecDepth 100000 in
theorem mtX8_gainsEnough (l : Launch) (D : va_G) (cI cB cK cS : ClassId) (Z Z2 V : Nat → Nat) (R : va_W) (f : Nat → Int32) (kv : Nat → Nat → Int32) (mv : Nat → Int32) (f2 : Nat → Int32) (kv2 : Nat → Nat → Int32) (mv2 : Nat → Int32) (t_len : Int32) (t_end : Int32) (t_met : Nat → Int32) (k : Int32) (a : Int32) (nn : Int32) (hz : ∀ j, j < 5 → kv2 j 7 = 0 ∨ kv2 j 7 = 1) (hn : nn.toInt ≤ 30) : MX l yX8_gainsEnough wsX8_gainsEnough (rmX 5) D (tyX cI cB cK cS) pF0 (landW Z cK f kv mv ++ (landW Z2 cK f2 kv2 mv2 ++ (trW V Z cI t_len t_end t_met ++ R))) [.ref (V 0), .ref (Z2 0), .int k, .int a, .int nn] (sX8_gainsEnough k a nn f kv mv f2 kv2 mv2) (fun u => some (.int u.1)) (fun u => landW Z cK u.2.1 u.2.2.1 u.2.2.2 ++ (landW Z2 cK f2 kv2 mv2 ++ (trW V Z cI t_len t_end t_met ++ R))) := by
  refine mx_intro (cc := cX8_gainsEnough) (maxL := 9) (ret := (some .boolean)) (by decide) rfl (Nat.le_of_ble_eq_true rfl) ?_
  intro p e s m below meth c A ls H locs Qm hQm hx hb hr hml hts hown hlocks hA hS hP hK hD hF hl
  have hown : s.vm.findClass RX8 = some m.cls := hown
  have hl : lv_has ls 9 [(0, .ref (V 0)), (1, .ref (Z2 0)), (2, .int k), (3, .int a), (4, .int nn)] := hl
  have k12 := hts (.fieldLink RX8 12 "PigRounds$Trials" "trial" "LPigRounds$Land;") (by decide +kernel)
  have k55 := hts (.fieldLink RX8 55 "PigRounds$Kind" "many" "I") (by decide +kernel)
  have k58 := hts (.fieldLink RX8 58 "PigRounds$Kind" "coin" "I") (by decide +kernel)
  have iX1 : ∀ w ∈ u_ws RX1 TX1 9, w ∈ wsX8_gainsEnough := by decide +kernel
  have iX8 : ∀ w ∈ u_ws RX8 TX8 4, w ∈ wsX8_gainsEnough := by decide +kernel
  refine lv_aload_n hx hb dX8_gainsEnough_0 rfl (lv_at hl 0 rfl) ?_
  refine va_get (D := D) (ci := 7) (v := .ref (Z 0)) (C := RX8) (T := TX8) (N := 4) hx hb hts iX8 hown hK hP 16 rfl rfl 0 (by decide) k12 (fun _ h9 => h9) rfl dX8_gainsEnough_1 ?_
  refine lv_aload_n hx hb dX8_gainsEnough_4 rfl (lv_at hl 1 rfl) ?_
  refine mx_callV (As := [.ref (Z2 0)]) (rest := []) ⟨hx, hb, hml, hown, hts⟩ (mtX2_takeAll l D cI cB cK cS Z Z2 (trW V Z cI t_len t_end t_met ++ R) f kv mv f2 kv2 mv2 (by first | assumption | omega)) (cwV 1 hts gX8_gainsEnough_X2_takeAll rfl rfl rfl (by decide +kernel) ⟨Nat.le_of_ble_eq_true rfl, Nat.le_of_ble_eq_true rfl⟩) pF0_ok trivial hK hP hD hS hA 5 rfl rfl rfl rfl hl.1 rfl (Nat.le_of_ble_eq_true rfl) dX8_gainsEnough_5 ⟨Nat.le_refl _, Nat.le_refl _⟩ (fun u_1 H locs eu_1 hP hD hS => ?_)
  refine W.eq (g2 := F0 m 8 ls []) rfl ?_
  have hP : va_P D vwCl (landW Z cK u_1.1 u_1.2.1 u_1.2.2 ++ (landW Z2 cK f2 kv2 mv2 ++ (trW V Z cI t_len t_end t_met ++ R))) H := hP
  have hD : va_D A (landW Z cK u_1.1 u_1.2.1 u_1.2.2 ++ (landW Z2 cK f2 kv2 mv2 ++ (trW V Z cI t_len t_end t_met ++ R))) := hD
  refine lv_aload_n hx hb dX8_gainsEnough_8 rfl (lv_at hl 0 rfl) ?_
  refine va_get (D := D) (ci := 7) (v := .ref (Z 0)) (C := RX8) (T := TX8) (N := 4) hx hb hts iX8 hown hK hP 16 rfl rfl 0 (by decide) k12 (fun _ h9 => h9) rfl dX8_gainsEnough_9 ?_
  refine lv_iload_n hx hb dX8_gainsEnough_12 rfl (lv_at hl 2 rfl) ?_
  refine mx_callV (As := [.int k]) (rest := []) ⟨hx, hb, hml, hown, hts⟩ (mtX2_kindAt l D cI cB cK cS Z (landW Z2 cK f2 kv2 mv2 ++ (trW V Z cI t_len t_end t_met ++ R)) u_1.1 u_1.2.1 u_1.2.2 k) (cwV 1 hts gX8_gainsEnough_X2_kindAt rfl rfl rfl (by decide +kernel) ⟨Nat.le_of_ble_eq_true rfl, Nat.le_of_ble_eq_true rfl⟩) pF0_ok trivial hK hP hD hS hA 5 rfl rfl rfl rfl hl.1 rfl (Nat.le_of_ble_eq_true rfl) dX8_gainsEnough_13 ⟨Nat.le_refl _, Nat.le_refl _⟩ (fun u_2 H locs eu_2 hP hD hS => ?_)
  have hP : va_P D vwCl (landW Z cK u_1.1 u_1.2.1 u_1.2.2 ++ (landW Z2 cK f2 kv2 mv2 ++ (trW V Z cI t_len t_end t_met ++ R))) H := hP
  have hD : va_D A (landW Z cK u_1.1 u_1.2.1 u_1.2.2 ++ (landW Z2 cK f2 kv2 mv2 ++ (trW V Z cI t_len t_end t_met ++ R))) := hD
  rcases Classical.em (u_2 = none) with c_3 | c_3
  · refine W.eq (g2 := F0 m 16 ls [.null]) (by rw [c_3]; rfl) ?_
    refine lv_astoreN (lv' := [(5, .null), (0, .ref (V 0)), (1, .ref (Z2 0)), (2, .int k), (3, .int a), (4, .int nn)]) hx hb dX8_gainsEnough_16 hl (by decide) rfl (fun ls hl => ?_)
    refine lv_aload_n hx hb dX8_gainsEnough_18 rfl (lv_at hl 1 rfl) ?_
    refine va_get (D := D) (ci := 7) (v := .ref (Z 0)) (C := RX8) (T := TX8) (N := 4) hx hb hts iX8 hown hK hP 16 rfl rfl 0 (by decide) k12 (fun _ h9 => h9) rfl dX8_gainsEnough_19 ?_
    refine lv_iconst (v := 0) hx hb dX8_gainsEnough_22 (by decide) ?_
    refine mx_callV (As := [.int 0]) (rest := []) ⟨hx, hb, hml, hown, hts⟩ (mtX2_kindAt l D cI cB cK cS Z (landW Z2 cK f2 kv2 mv2 ++ (trW V Z cI t_len t_end t_met ++ R)) u_1.1 u_1.2.1 u_1.2.2 0) (cwV 1 hts gX8_gainsEnough_X2_kindAt rfl rfl rfl (by decide +kernel) ⟨Nat.le_of_ble_eq_true rfl, Nat.le_of_ble_eq_true rfl⟩) pF0_ok trivial hK hP hD hS hA 5 rfl rfl rfl rfl hl.1 rfl (Nat.le_of_ble_eq_true rfl) dX8_gainsEnough_23 ⟨Nat.le_refl _, Nat.le_refl _⟩ (fun u_4 H locs eu_4 hP hD hS => ?_)
    have hP : va_P D vwCl (landW Z cK u_1.1 u_1.2.1 u_1.2.2 ++ (landW Z2 cK f2 kv2 mv2 ++ (trW V Z cI t_len t_end t_met ++ R))) H := hP
    have hD : va_D A (landW Z cK u_1.1 u_1.2.1 u_1.2.2 ++ (landW Z2 cK f2 kv2 mv2 ++ (trW V Z cI t_len t_end t_met ++ R))) := hD
    rcases Classical.em (u_4 = none) with c_5 | c_5
    · refine W.eq (g2 := F0 m 26 ls [.null]) (by rw [c_5]; rfl) ?_
      refine lv_astoreN (lv' := [(6, .null), (5, .null), (0, .ref (V 0)), (1, .ref (Z2 0)), (2, .int k), (3, .int a), (4, .int nn)]) hx hb dX8_gainsEnough_26 hl (by decide) rfl (fun ls hl => ?_)
      refine lv_aloadN hx hb dX8_gainsEnough_28 (lv_at hl 1 rfl) ?_
      refine lv_ifnullN (tgt := 38) hx hb dX8_gainsEnough_30 (by decide) ?_
      refine lv_iconst (v := 0) hx hb dX8_gainsEnough_38 (by decide) ?_
      rw [hQm]
      exact mx_zret (u0 := sX8_gainsEnough k a nn f kv mv f2 kv2 mv2) (rv := (fun u => some (.int u.1))) (w1 := (fun u => landW Z cK u.2.1 u.2.2.1 u.2.2.2 ++ (landW Z2 cK f2 kv2 mv2 ++ (trW V Z cI t_len t_end t_met ++ R)))) (u := (0, u_1.1, u_1.2.1, u_1.2.2)) hx hb hr hlocks hK hS (lt_eq eu_1 (lt_eq eu_2 ((if_pos c_3).trans (lt_eq eu_4 ((if_pos c_5).trans rfl))))) hP hD rfl rfl dX8_gainsEnough_39
    · have hj_5 : u_4.getD 0 < 5 := sX2_kindAt_lt eu_4 c_5
      refine W.eq (g2 := F0 m 26 ls [.ref (Z (3 + (u_4.getD 0)))]) (by rw [show u_4 = some (u_4.getD 0) from o_some c_5]; rfl) ?_
      refine lv_astore (lv' := [(6, .ref (Z (3 + (u_4.getD 0)))), (5, .null), (0, .ref (V 0)), (1, .ref (Z2 0)), (2, .int k), (3, .int a), (4, .int nn)]) hx hb dX8_gainsEnough_26 hl (by decide) rfl (fun ls hl => ?_)
      refine lv_aloadN hx hb dX8_gainsEnough_28 (lv_at hl 1 rfl) ?_
      refine lv_ifnullN (tgt := 38) hx hb dX8_gainsEnough_30 (by decide) ?_
      refine lv_iconst (v := 0) hx hb dX8_gainsEnough_38 (by decide) ?_
      rw [hQm]
      exact mx_zret (u0 := sX8_gainsEnough k a nn f kv mv f2 kv2 mv2) (rv := (fun u => some (.int u.1))) (w1 := (fun u => landW Z cK u.2.1 u.2.2.1 u.2.2.2 ++ (landW Z2 cK f2 kv2 mv2 ++ (trW V Z cI t_len t_end t_met ++ R)))) (u := (0, u_1.1, u_1.2.1, u_1.2.2)) hx hb hr hlocks hK hS (lt_eq eu_1 (lt_eq eu_2 ((if_pos c_3).trans (lt_eq eu_4 ((if_neg c_5).trans rfl))))) hP hD rfl rfl dX8_gainsEnough_39
  · have hj_3 : u_2.getD 0 < 5 := sX2_kindAt_lt eu_2 c_3
    refine W.eq (g2 := F0 m 16 ls [.ref (Z (3 + (u_2.getD 0)))]) (by rw [show u_2 = some (u_2.getD 0) from o_some c_3]; rfl) ?_
    refine lv_astore (lv' := [(5, .ref (Z (3 + (u_2.getD 0)))), (0, .ref (V 0)), (1, .ref (Z2 0)), (2, .int k), (3, .int a), (4, .int nn)]) hx hb dX8_gainsEnough_16 hl (by decide) rfl (fun ls hl => ?_)
    refine lv_aload_n hx hb dX8_gainsEnough_18 rfl (lv_at hl 1 rfl) ?_
    refine va_get (D := D) (ci := 7) (v := .ref (Z 0)) (C := RX8) (T := TX8) (N := 4) hx hb hts iX8 hown hK hP 16 rfl rfl 0 (by decide) k12 (fun _ h9 => h9) rfl dX8_gainsEnough_19 ?_
    refine lv_iconst (v := 0) hx hb dX8_gainsEnough_22 (by decide) ?_
    refine mx_callV (As := [.int 0]) (rest := []) ⟨hx, hb, hml, hown, hts⟩ (mtX2_kindAt l D cI cB cK cS Z (landW Z2 cK f2 kv2 mv2 ++ (trW V Z cI t_len t_end t_met ++ R)) u_1.1 u_1.2.1 u_1.2.2 0) (cwV 1 hts gX8_gainsEnough_X2_kindAt rfl rfl rfl (by decide +kernel) ⟨Nat.le_of_ble_eq_true rfl, Nat.le_of_ble_eq_true rfl⟩) pF0_ok trivial hK hP hD hS hA 5 rfl rfl rfl rfl hl.1 rfl (Nat.le_of_ble_eq_true rfl) dX8_gainsEnough_23 ⟨Nat.le_refl _, Nat.le_refl _⟩ (fun u_6 H locs eu_6 hP hD hS => ?_)
    have hP : va_P D vwCl (landW Z cK u_1.1 u_1.2.1 u_1.2.2 ++ (landW Z2 cK f2 kv2 mv2 ++ (trW V Z cI t_len t_end t_met ++ R))) H := hP
    have hD : va_D A (landW Z cK u_1.1 u_1.2.1 u_1.2.2 ++ (landW Z2 cK f2 kv2 mv2 ++ (trW V Z cI t_len t_end t_met ++ R))) := hD
    rcases Classical.em (u_6 = none) with c_7 | c_7
    · refine W.eq (g2 := F0 m 26 ls [.null]) (by rw [c_7]; rfl) ?_
      refine lv_astoreN (lv' := [(6, .null), (5, .ref (Z (3 + (u_2.getD 0)))), (0, .ref (V 0)), (1, .ref (Z2 0)), (2, .int k), (3, .int a), (4, .int nn)]) hx hb dX8_gainsEnough_26 hl (by decide) rfl (fun ls hl => ?_)
      refine lv_aload hx hb dX8_gainsEnough_28 (lv_at hl 1 rfl) ?_
      refine lv_ifnull hx hb dX8_gainsEnough_30 ?_
      refine lv_aloadN hx hb dX8_gainsEnough_33 (lv_at hl 0 rfl) ?_
      refine lv_ifnonnullN hx hb dX8_gainsEnough_35 ?_
      refine lv_iconst (v := 0) hx hb dX8_gainsEnough_38 (by decide) ?_
      rw [hQm]
      exact mx_zret (u0 := sX8_gainsEnough k a nn f kv mv f2 kv2 mv2) (rv := (fun u => some (.int u.1))) (w1 := (fun u => landW Z cK u.2.1 u.2.2.1 u.2.2.2 ++ (landW Z2 cK f2 kv2 mv2 ++ (trW V Z cI t_len t_end t_met ++ R)))) (u := (0, u_1.1, u_1.2.1, u_1.2.2)) hx hb hr hlocks hK hS (lt_eq eu_1 (lt_eq eu_2 ((if_neg c_3).trans (lt_eq eu_6 ((if_pos c_7).trans rfl))))) hP hD rfl rfl dX8_gainsEnough_39
    · have hj_7 : u_6.getD 0 < 5 := sX2_kindAt_lt eu_6 c_7
      refine W.eq (g2 := F0 m 26 ls [.ref (Z (3 + (u_6.getD 0)))]) (by rw [show u_6 = some (u_6.getD 0) from o_some c_7]; rfl) ?_
      refine lv_astore (lv' := [(6, .ref (Z (3 + (u_6.getD 0)))), (5, .ref (Z (3 + (u_2.getD 0)))), (0, .ref (V 0)), (1, .ref (Z2 0)), (2, .int k), (3, .int a), (4, .int nn)]) hx hb dX8_gainsEnough_26 hl (by decide) rfl (fun ls hl => ?_)
      refine lv_aload hx hb dX8_gainsEnough_28 (lv_at hl 1 rfl) ?_
      refine lv_ifnull hx hb dX8_gainsEnough_30 ?_
      refine lv_aload hx hb dX8_gainsEnough_33 (lv_at hl 0 rfl) ?_
      refine lv_ifnonnull (tgt := 40) hx hb dX8_gainsEnough_35 (by decide) ?_
      refine lv_aload hx hb dX8_gainsEnough_40 (lv_at hl 1 rfl) ?_
      refine lv_iload_n hx hb dX8_gainsEnough_42 rfl (lv_at hl 5 rfl) ?_
      refine va_put (D := D) (ci := 1) (v := .int a) (ty := .int) (C := RX1) (T := TX1) (N := 9) hx hb hts iX1 tyX1 tyX1_ok nmX1 hown hK hP hD hS (u_2.getD 0) (kk_get hj_3) rfl 2 (by decide) k55 (fun _ h9 => h9) rfl (by decide +kernel) rfl rfl (Nat.le_of_ble_eq_true rfl) dX8_gainsEnough_43 (fun H locs hP hD hS => ?_)
      have hP : va_P D vwCl ((landW Z cK u_1.1 u_1.2.1 u_1.2.2 ++ (landW Z2 cK f2 kv2 mv2 ++ (trW V Z cI t_len t_end t_met ++ R))).set (u_2.getD 0) (Z (3 + (u_2.getD 0)), .inr (1, kf (upd (u_1.2.1 (u_2.getD 0)) 2 a)))) H := hP
      rw [kk_set hj_3] at hP
      have hD : va_D A ((landW Z cK u_1.1 u_1.2.1 u_1.2.2 ++ (landW Z2 cK f2 kv2 mv2 ++ (trW V Z cI t_len t_end t_met ++ R))).set (u_2.getD 0) (Z (3 + (u_2.getD 0)), .inr (1, kf (upd (u_1.2.1 (u_2.getD 0)) 2 a)))) := hD
      rw [kk_set hj_3] at hD
      obtain ⟨kv_8, ekv_8⟩ : ∃ z : Nat → Nat → Int32, z = va_up u_1.2.1 (u_2.getD 0) (upd (u_1.2.1 (u_2.getD 0)) 2 a) := ⟨_, rfl⟩
      rw [← ekv_8] at hP hD
      have hP : va_P D vwCl (landW Z cK u_1.1 kv_8 u_1.2.2 ++ (landW Z2 cK f2 kv2 mv2 ++ (trW V Z cI t_len t_end t_met ++ R))) H := hP
      have hD : va_D A (landW Z cK u_1.1 kv_8 u_1.2.2 ++ (landW Z2 cK f2 kv2 mv2 ++ (trW V Z cI t_len t_end t_met ++ R))) := hD
      refine lv_aload hx hb dX8_gainsEnough_46 (lv_at hl 1 rfl) ?_
      refine va_get (D := D) (ci := 1) (v := .int ((kv_8 (u_2.getD 0)) 6)) (C := RX1) (T := TX1) (N := 9) hx hb hts iX1 hown hK hP (u_2.getD 0) (kk_get hj_3) rfl 6 (by decide) k58 (fun _ h9 => h9) rfl dX8_gainsEnough_48 ?_
      refine lv_aload hx hb dX8_gainsEnough_51 (lv_at hl 0 rfl) ?_
      refine va_get (D := D) (ci := 1) (v := .int ((kv_8 (u_6.getD 0)) 6)) (C := RX1) (T := TX1) (N := 9) hx hb hts iX1 hown hK hP (u_6.getD 0) (kk_get hj_7) rfl 6 (by decide) k58 (fun _ h9 => h9) rfl dX8_gainsEnough_53 ?_
      refine lv_isub hx hb dX8_gainsEnough_56 ?_
      refine lv_topi (fun x_9 ex_9 => ?_)
      refine lv_istore (lv' := [(7, .int x_9), (6, .ref (Z (3 + (u_6.getD 0)))), (5, .ref (Z (3 + (u_2.getD 0)))), (0, .ref (V 0)), (1, .ref (Z2 0)), (2, .int k), (3, .int a), (4, .int nn)]) hx hb dX8_gainsEnough_57 hl (by decide) rfl (fun ls hl => ?_)
      refine lv_iconst (v := 0) hx hb dX8_gainsEnough_59 (by decide) ?_
      refine lv_istore (lv' := [(8, .int 0), (7, .int x_9), (6, .ref (Z (3 + (u_6.getD 0)))), (5, .ref (Z (3 + (u_2.getD 0)))), (0, .ref (V 0)), (1, .ref (Z2 0)), (2, .int k), (3, .int a), (4, .int nn)]) hx hb dX8_gainsEnough_60 hl (by decide) rfl (fun ls hl => ?_)
      have L_62 : ∀ (n : Nat) (x8_62 : Int32) (f_62 : Nat → Int32) (kv_62 : Nat → Nat → Int32) (mv_62 : Nat → Int32) (H : Heap) (locs : List Loc) (ls : Array Slot), 0 ≤ x8_62.toInt → x8_62.toInt ≤ 30 → (30 : Int) < x8_62.toInt + ((n : Nat) : Int) → va_P D vwCl (landW Z cK f_62 kv_62 mv_62 ++ (landW Z2 cK f2 kv2 mv2 ++ (trW V Z cI t_len t_end t_met ++ R))) H → va_D A (landW Z cK f_62 kv_62 mv_62 ++ (landW Z2 cK f2 kv2 mv2 ++ (trW V Z cI t_len t_end t_met ++ R))) → va_S A s.heap H locs → lv_has ls 9 [(8, .int x8_62), (7, .int x_9), (6, .ref (Z (3 + (u_6.getD 0)))), (5, .ref (Z (3 + (u_2.getD 0)))), (0, .ref (V 0)), (4, .int nn)] → (∀ (u : Int32 × (Nat → Int32) × (Nat → Nat → Int32) × (Nat → Int32)) (H : Heap) (locs : List Loc) (ls : Array Slot), u = lX8_gainsEnough_62 nn n x8_62 f_62 kv_62 mv_62 → va_P D vwCl (landW Z cK u.2.1 u.2.2.1 u.2.2.2 ++ (landW Z2 cK f2 kv2 mv2 ++ (trW V Z cI t_len t_end t_met ++ R))) H → va_D A (landW Z cK u.2.1 u.2.2.1 u.2.2.2 ++ (landW Z2 cK f2 kv2 mv2 ++ (trW V Z cI t_len t_end t_met ++ R))) → va_S A s.heap H locs → lv_has ls 9 [(7, .int x_9), (6, .ref (Z (3 + (u_6.getD 0)))), (5, .ref (Z (3 + (u_2.getD 0))))] → W p l e (rmX 5) s m ([.ref (V 0), .ref (Z2 0), .int k, .int a, .int nn] : List Value).toArray below meth c H locs 0 0 Qm (F0 m 83 ls [])) → W p l e (rmX 5) s m ([.ref (V 0), .ref (Z2 0), .int k, .int a, .int nn] : List Value).toArray below meth c H locs 0 0 Qm (F0 m 62 ls []) := by
        intro n
        induction n with
        | zero =>
          intro x8_62 f_62 kv_62 mv_62 H locs ls iv_62_0 iv_62_1 iv_62_2 hP hD hS hl kont_62
          exfalso; omega
        | succ n ih_62 =>
          intro x8_62 f_62 kv_62 mv_62 H locs ls iv_62_0 iv_62_1 iv_62_2 hP hD hS hl kont_62
          refine lv_iload hx hb dX8_gainsEnough_62 (lv_at hl 0 rfl) ?_
          refine lv_iload hx hb dX8_gainsEnough_64 (lv_at hl 5 rfl) ?_
          refine lv_icmp_ge (tgt := 83) hx hb dX8_gainsEnough_66 (by decide) (fun c_10 => ?_) (fun c_10 => ?_)
          · have d_10 := i_le rfl rfl c_10
            exact kont_62 (x8_62, f_62, kv_62, mv_62) H locs ls (show lX8_gainsEnough_62 nn (n + 1) x8_62 f_62 kv_62 mv_62 = (x8_62, f_62, kv_62, mv_62) from ((if_pos c_10).trans rfl)).symm  hP hD hS (lv_sub hl [1, 2, 3] rfl)
          · have d_10 := i_len rfl rfl c_10
            refine lv_aload_n hx hb dX8_gainsEnough_69 rfl (lv_at hl 4 rfl) ?_
            refine va_get (D := D) (ci := 7) (v := .ref (Z 0)) (C := RX8) (T := TX8) (N := 4) hx hb hts iX8 hown hK hP 16 rfl rfl 0 (by decide) k12 (fun _ h9 => h9) rfl dX8_gainsEnough_70 ?_
            refine mx_callV (As := []) (rest := []) ⟨hx, hb, hml, hown, hts⟩ (mtX2_liveYear l D cI cB cK cS Z (landW Z2 cK f2 kv2 mv2 ++ (trW V Z cI t_len t_end t_met ++ R)) f_62 kv_62 mv_62) (cwV 0 hts gX8_gainsEnough_X2_liveYear rfl rfl rfl (by decide +kernel) ⟨Nat.le_of_ble_eq_true rfl, Nat.le_of_ble_eq_true rfl⟩) pF0_ok trivial hK hP hD hS hA 5 rfl rfl rfl rfl hl.1 rfl (Nat.le_of_ble_eq_true rfl) dX8_gainsEnough_73 ⟨Nat.le_refl _, Nat.le_refl _⟩ (fun u_11 H locs eu_11 hP hD hS => ?_)
            refine W.eq (g2 := F0 m 76 ls [.int u_11.1]) rfl ?_
            have hP : va_P D vwCl (landW Z cK u_11.2.1 u_11.2.2.1 u_11.2.2.2 ++ (landW Z2 cK f2 kv2 mv2 ++ (trW V Z cI t_len t_end t_met ++ R))) H := hP
            have hD : va_D A (landW Z cK u_11.2.1 u_11.2.2.1 u_11.2.2.2 ++ (landW Z2 cK f2 kv2 mv2 ++ (trW V Z cI t_len t_end t_met ++ R))) := hD
            refine lv_pop hx hb dX8_gainsEnough_76 rfl ?_
            obtain ⟨x_12, ex_12⟩ : ∃ z : Int32, z = x8_62 + 1 := ⟨_, rfl⟩
            refine lv_iinc (v := x_12) (lv' := [(8, .int x_12), (7, .int x_9), (6, .ref (Z (3 + (u_6.getD 0)))), (5, .ref (Z (3 + (u_2.getD 0)))), (0, .ref (V 0)), (4, .int nn)]) hx hb dX8_gainsEnough_77 hl (k := 0) rfl (by rw [ex_12]; rfl) (by decide) rfl (fun ls hl => ?_)
            refine lv_goto (tgt := 62) hx hb dX8_gainsEnough_80 (by decide) ?_
            try have tx_12 : x_12.toInt = x8_62.toInt + 1 := i_inc ex_12 (by decide) (by omega) (by omega)
            refine ih_62 x_12 u_11.2.1 u_11.2.2.1 u_11.2.2.2 H locs ls (by first | omega | assumption) (by first | omega | assumption) (by first | omega | assumption) hP hD hS (lv_sub hl [0, 1, 2, 3, 4, 5] rfl) (fun u H locs ls eu  hP hD hS hl => ?_)
            exact kont_62 u H locs ls (eu.trans (show lX8_gainsEnough_62 nn (n + 1) x8_62 f_62 kv_62 mv_62 = lX8_gainsEnough_62 nn n x_12 u_11.2.1 u_11.2.2.1 u_11.2.2.2 from ((if_neg c_10).trans (lt_eq eu_11 (lt_eq ex_12 rfl)))).symm)  hP hD hS hl
      refine L_62 31 0 u_1.1 kv_8 u_1.2.2 H locs ls (by decide) (by decide) (by decide) hP hD hS (lv_sub hl [0, 1, 2, 3, 4, 8] rfl) (fun u_13 H locs ls eu_13  hP hD hS hl => ?_)
      have hP : va_P D vwCl (landW Z cK u_13.2.1 u_13.2.2.1 u_13.2.2.2 ++ (landW Z2 cK f2 kv2 mv2 ++ (trW V Z cI t_len t_end t_met ++ R))) H := hP
      have hD : va_D A (landW Z cK u_13.2.1 u_13.2.2.1 u_13.2.2.2 ++ (landW Z2 cK f2 kv2 mv2 ++ (trW V Z cI t_len t_end t_met ++ R))) := hD
      refine lv_aload hx hb dX8_gainsEnough_83 (lv_at hl 2 rfl) ?_
      refine va_get (D := D) (ci := 1) (v := .int ((u_13.2.2.1 (u_2.getD 0)) 6)) (C := RX1) (T := TX1) (N := 9) hx hb hts iX1 hown hK hP (u_2.getD 0) (kk_get hj_3) rfl 6 (by decide) k58 (fun _ h9 => h9) rfl dX8_gainsEnough_85 ?_
      refine lv_aload hx hb dX8_gainsEnough_88 (lv_at hl 1 rfl) ?_
      refine va_get (D := D) (ci := 1) (v := .int ((u_13.2.2.1 (u_6.getD 0)) 6)) (C := RX1) (T := TX1) (N := 9) hx hb hts iX1 hown hK hP (u_6.getD 0) (kk_get hj_7) rfl 6 (by decide) k58 (fun _ h9 => h9) rfl dX8_gainsEnough_90 ?_
      refine lv_isub hx hb dX8_gainsEnough_93 ?_
      refine lv_iload hx hb dX8_gainsEnough_94 (lv_at hl 0 rfl) ?_
      refine lv_icmp_lt (tgt := 103) hx hb dX8_gainsEnough_96 (by decide) (fun c_14 => ?_) (fun c_14 => ?_)
      · have d_14 := i_lt rfl rfl c_14
        refine lv_iconst (v := 0) hx hb dX8_gainsEnough_103 (by decide) ?_
        rw [hQm]
        exact mx_zret (u0 := sX8_gainsEnough k a nn f kv mv f2 kv2 mv2) (rv := (fun u => some (.int u.1))) (w1 := (fun u => landW Z cK u.2.1 u.2.2.1 u.2.2.2 ++ (landW Z2 cK f2 kv2 mv2 ++ (trW V Z cI t_len t_end t_met ++ R)))) (u := (0, u_13.2.1, u_13.2.2.1, u_13.2.2.2)) hx hb hr hlocks hK hS (lt_eq eu_1 (lt_eq eu_2 ((if_neg c_3).trans (lt_eq eu_6 ((if_neg c_7).trans (lt_eq ekv_8 (lt_eq ex_9 (lt_eq eu_13 ((if_pos c_14).trans rfl))))))))) hP hD rfl rfl dX8_gainsEnough_104
      · have d_14 := i_ltn rfl rfl c_14
        refine lv_iconst (v := 1) hx hb dX8_gainsEnough_99 (by decide) ?_
        refine lv_goto (tgt := 104) hx hb dX8_gainsEnough_100 (by decide) ?_
        rw [hQm]
        exact mx_zret (u0 := sX8_gainsEnough k a nn f kv mv f2 kv2 mv2) (rv := (fun u => some (.int u.1))) (w1 := (fun u => landW Z cK u.2.1 u.2.2.1 u.2.2.2 ++ (landW Z2 cK f2 kv2 mv2 ++ (trW V Z cI t_len t_end t_met ++ R)))) (u := (1, u_13.2.1, u_13.2.2.1, u_13.2.2.2)) hx hb hr hlocks hK hS (lt_eq eu_1 (lt_eq eu_2 ((if_neg c_3).trans (lt_eq eu_6 ((if_neg c_7).trans (lt_eq ekv_8 (lt_eq ex_9 (lt_eq eu_13 ((if_neg c_14).trans rfl))))))))) hP hD rfl rfl dX8_gainsEnough_104

def lX8_mostBorne_3 (k : Int32) (nn : Int32) (f2 : Nat → Int32) (kv2 : Nat → Nat → Int32) (mv2 : Nat → Int32) : Nat → Int32 → (Nat → Int32) → (Nat → Nat → Int32) → (Nat → Int32) → Int32 × (Nat → Int32) × (Nat → Nat → Int32) × (Nat → Int32)
  | 0, x4_3, f_3, kv_3, mv_3 => (x4_3, f_3, kv_3, mv_3)
  | n + 1, x4_3, f_3, kv_3, mv_3 => if 40 ≤ x4_3 then ((x4_3, f_3, kv_3, mv_3)) else (lt (sX8_gainsEnough k (x4_3 + 1) nn f_3 kv_3 mv_3 f2 kv2 mv2) (fun u_2 : Int32 × (Nat → Int32) × (Nat → Nat → Int32) × (Nat → Int32) => if u_2.1 = 0 then ((x4_3, u_2.2.1, u_2.2.2.1, u_2.2.2.2)) else (lt (x4_3 + 1) (fun x_4 : Int32 => lX8_mostBorne_3 k nn f2 kv2 mv2 n x_4 u_2.2.1 u_2.2.2.1 u_2.2.2.2))))

def sX8_mostBorne (k : Int32) (nn : Int32) (f : Nat → Int32) (kv : Nat → Nat → Int32) (mv : Nat → Int32) (f2 : Nat → Int32) (kv2 : Nat → Nat → Int32) (mv2 : Nat → Int32) : Int32 × (Nat → Int32) × (Nat → Nat → Int32) × (Nat → Int32) := lt (lX8_mostBorne_3 k nn f2 kv2 mv2 41 0 f kv mv) (fun u_5 : Int32 × (Nat → Int32) × (Nat → Nat → Int32) × (Nat → Int32) => (u_5.1, u_5.2.1, u_5.2.2.1, u_5.2.2.2))
set_option maxHeartbeats 4000000 in
set_option maxRecDepth 100000 in
theorem mtX8_mostBorne (l : Launch) (D : va_G) (cI cB cK cS : ClassId) (Z Z2 V : Nat → Nat) (R : va_W) (f : Nat → Int32) (kv : Nat → Nat → Int32) (mv : Nat → Int32) (f2 : Nat → Int32) (kv2 : Nat → Nat → Int32) (mv2 : Nat → Int32) (t_len : Int32) (t_end : Int32) (t_met : Nat → Int32) (k : Int32) (nn : Int32) (hz : ∀ j, j < 5 → kv2 j 7 = 0 ∨ kv2 j 7 = 1) (hn : nn.toInt ≤ 30) : MX l yX8_mostBorne wsX8_mostBorne (rmX 6) D (tyX cI cB cK cS) pF0 (landW Z cK f kv mv ++ (landW Z2 cK f2 kv2 mv2 ++ (trW V Z cI t_len t_end t_met ++ R))) [.ref (V 0), .ref (Z2 0), .int k, .int nn] (sX8_mostBorne k nn f kv mv f2 kv2 mv2) (fun u => some (.int u.1)) (fun u => landW Z cK u.2.1 u.2.2.1 u.2.2.2 ++ (landW Z2 cK f2 kv2 mv2 ++ (trW V Z cI t_len t_end t_met ++ R))) := by
  refine mx_intro (cc := cX8_mostBorne) (maxL := 5) (ret := (some .int)) (by decide) rfl (Nat.le_of_ble_eq_true rfl) ?_
  intro p e s m below meth c A ls H locs Qm hQm hx hb hr hml hts hown hlocks hA hS hP hK hD hF hl
  have hown : s.vm.findClass RX8 = some m.cls := hown
  have hl : lv_has ls 5 [(0, .ref (V 0)), (1, .ref (Z2 0)), (2, .int k), (3, .int nn)] := hl
  refine lv_iconst (v := 0) hx hb dX8_mostBorne_0 (by decide) ?_
  refine lv_istore (lv' := [(4, .int 0), (0, .ref (V 0)), (1, .ref (Z2 0)), (2, .int k), (3, .int nn)]) hx hb dX8_mostBorne_1 hl (by decide) rfl (fun ls hl => ?_)
  have L_3 : ∀ (n : Nat) (x4_3 : Int32) (f_3 : Nat → Int32) (kv_3 : Nat → Nat → Int32) (mv_3 : Nat → Int32) (H : Heap) (locs : List Loc) (ls : Array Slot), 0 ≤ x4_3.toInt → x4_3.toInt ≤ 40 → (40 : Int) < x4_3.toInt + ((n : Nat) : Int) → va_P D vwCl (landW Z cK f_3 kv_3 mv_3 ++ (landW Z2 cK f2 kv2 mv2 ++ (trW V Z cI t_len t_end t_met ++ R))) H → va_D A (landW Z cK f_3 kv_3 mv_3 ++ (landW Z2 cK f2 kv2 mv2 ++ (trW V Z cI t_len t_end t_met ++ R))) → va_S A s.heap H locs → lv_has ls 5 [(4, .int x4_3), (0, .ref (V 0)), (1, .ref (Z2 0)), (2, .int k), (3, .int nn)] → (∀ (u : Int32 × (Nat → Int32) × (Nat → Nat → Int32) × (Nat → Int32)) (H : Heap) (locs : List Loc) (ls : Array Slot), u = lX8_mostBorne_3 k nn f2 kv2 mv2 n x4_3 f_3 kv_3 mv_3 → va_P D vwCl (landW Z cK u.2.1 u.2.2.1 u.2.2.2 ++ (landW Z2 cK f2 kv2 mv2 ++ (trW V Z cI t_len t_end t_met ++ R))) H → va_D A (landW Z cK u.2.1 u.2.2.1 u.2.2.2 ++ (landW Z2 cK f2 kv2 mv2 ++ (trW V Z cI t_len t_end t_met ++ R))) → va_S A s.heap H locs → lv_has ls 5 [(4, .int u.1)] → W p l e (rmX 6) s m ([.ref (V 0), .ref (Z2 0), .int k, .int nn] : List Value).toArray below meth c H locs 0 0 Qm (F0 m 30 ls [])) → W p l e (rmX 6) s m ([.ref (V 0), .ref (Z2 0), .int k, .int nn] : List Value).toArray below meth c H locs 0 0 Qm (F0 m 3 ls []) := by
    intro n
    induction n with
    | zero =>
      intro x4_3 f_3 kv_3 mv_3 H locs ls iv_3_0 iv_3_1 iv_3_2 hP hD hS hl kont_3
      exfalso; omega
    | succ n ih_3 =>
      intro x4_3 f_3 kv_3 mv_3 H locs ls iv_3_0 iv_3_1 iv_3_2 hP hD hS hl kont_3
      refine lv_iload hx hb dX8_mostBorne_3 (lv_at hl 0 rfl) ?_
      refine lv_bipush (v := 40) hx hb dX8_mostBorne_5 (by decide) ?_
      refine lv_icmp_ge (tgt := 30) hx hb dX8_mostBorne_7 (by decide) (fun c_1 => ?_) (fun c_1 => ?_)
      · have d_1 := i_le (show (40 : Int32).toInt = 40 from by decide) rfl c_1
        exact kont_3 (x4_3, f_3, kv_3, mv_3) H locs ls (show lX8_mostBorne_3 k nn f2 kv2 mv2 (n + 1) x4_3 f_3 kv_3 mv_3 = (x4_3, f_3, kv_3, mv_3) from ((if_pos c_1).trans rfl)).symm  hP hD hS (lv_sub hl [0] rfl)
      · have d_1 := i_len (show (40 : Int32).toInt = 40 from by decide) rfl c_1
        refine lv_aload_n hx hb dX8_mostBorne_10 rfl (lv_at hl 1 rfl) ?_
        refine lv_aload_n hx hb dX8_mostBorne_11 rfl (lv_at hl 2 rfl) ?_
        refine lv_iload_n hx hb dX8_mostBorne_12 rfl (lv_at hl 3 rfl) ?_
        refine lv_iload hx hb dX8_mostBorne_13 (lv_at hl 0 rfl) ?_
        refine lv_iconst (v := 1) hx hb dX8_mostBorne_15 (by decide) ?_
        refine lv_iadd hx hb dX8_mostBorne_16 ?_
        refine lv_iload_n hx hb dX8_mostBorne_17 rfl (lv_at hl 4 rfl) ?_
        refine mx_callV (As := [.ref (Z2 0), .int k, .int (x4_3 + 1), .int nn]) (rest := []) ⟨hx, hb, hml, hown, hts⟩ (mtX8_gainsEnough l D cI cB cK cS Z Z2 V R f_3 kv_3 mv_3 f2 kv2 mv2 t_len t_end t_met k (x4_3 + 1) nn (by first | assumption | omega) (by first | assumption | omega)) (cwV 4 hts gX8_mostBorne_X8_gainsEnough rfl rfl rfl (by decide +kernel) ⟨Nat.le_of_ble_eq_true rfl, Nat.le_of_ble_eq_true rfl⟩) pF0_ok trivial hK hP hD hS hA 16 rfl rfl rfl rfl hl.1 rfl (Nat.le_of_ble_eq_true rfl) dX8_mostBorne_18 ⟨Nat.le_refl _, Nat.le_refl _⟩ (fun u_2 H locs eu_2 hP hD hS => ?_)
        refine W.eq (g2 := F0 m 21 ls [.int u_2.1]) rfl ?_
        have hP : va_P D vwCl (landW Z cK u_2.2.1 u_2.2.2.1 u_2.2.2.2 ++ (landW Z2 cK f2 kv2 mv2 ++ (trW V Z cI t_len t_end t_met ++ R))) H := hP
        have hD : va_D A (landW Z cK u_2.2.1 u_2.2.2.1 u_2.2.2.2 ++ (landW Z2 cK f2 kv2 mv2 ++ (trW V Z cI t_len t_end t_met ++ R))) := hD
        refine lv_if_eq (tgt := 30) hx hb dX8_mostBorne_21 (by decide) (fun c_3 => ?_) (fun c_3 => ?_)
        · have d_3 := i_eq rfl (show (0 : Int32).toInt = 0 from by decide) c_3
          exact kont_3 (x4_3, u_2.2.1, u_2.2.2.1, u_2.2.2.2) H locs ls (show lX8_mostBorne_3 k nn f2 kv2 mv2 (n + 1) x4_3 f_3 kv_3 mv_3 = (x4_3, u_2.2.1, u_2.2.2.1, u_2.2.2.2) from ((if_neg c_1).trans (lt_eq eu_2 ((if_pos c_3).trans rfl)))).symm  hP hD hS (lv_sub hl [0] rfl)
        · have d_3 := i_eqn rfl (show (0 : Int32).toInt = 0 from by decide) c_3
          obtain ⟨x_4, ex_4⟩ : ∃ z : Int32, z = x4_3 + 1 := ⟨_, rfl⟩
          refine lv_iinc (v := x_4) (lv' := [(4, .int x_4), (0, .ref (V 0)), (1, .ref (Z2 0)), (2, .int k), (3, .int nn)]) hx hb dX8_mostBorne_24 hl (k := 0) rfl (by rw [ex_4]; rfl) (by decide) rfl (fun ls hl => ?_)
          refine lv_goto (tgt := 3) hx hb dX8_mostBorne_27 (by decide) ?_
          try have tx_4 : x_4.toInt = x4_3.toInt + 1 := i_inc ex_4 (by decide) (by omega) (by omega)
          refine ih_3 x_4 u_2.2.1 u_2.2.2.1 u_2.2.2.2 H locs ls (by first | omega | assumption) (by first | omega | assumption) (by first | omega | assumption) hP hD hS (lv_sub hl [0, 1, 2, 3, 4] rfl) (fun u H locs ls eu  hP hD hS hl => ?_)
          exact kont_3 u H locs ls (eu.trans (show lX8_mostBorne_3 k nn f2 kv2 mv2 (n + 1) x4_3 f_3 kv_3 mv_3 = lX8_mostBorne_3 k nn f2 kv2 mv2 n x_4 u_2.2.1 u_2.2.2.1 u_2.2.2.2 from ((if_neg c_1).trans (lt_eq eu_2 ((if_neg c_3).trans (lt_eq ex_4 rfl))))).symm)  hP hD hS hl
  refine L_3 41 0 f kv mv H locs ls (by decide) (by decide) (by decide) hP hD hS (lv_sub hl [0, 1, 2, 3, 4] rfl) (fun u_5 H locs ls eu_5  hP hD hS hl => ?_)
  have hP : va_P D vwCl (landW Z cK u_5.2.1 u_5.2.2.1 u_5.2.2.2 ++ (landW Z2 cK f2 kv2 mv2 ++ (trW V Z cI t_len t_end t_met ++ R))) H := hP
  have hD : va_D A (landW Z cK u_5.2.1 u_5.2.2.1 u_5.2.2.2 ++ (landW Z2 cK f2 kv2 mv2 ++ (trW V Z cI t_len t_end t_met ++ R))) := hD
  refine lv_iload hx hb dX8_mostBorne_30 (lv_at hl 0 rfl) ?_
  rw [hQm]
  exact mx_iret (u0 := sX8_mostBorne k nn f kv mv f2 kv2 mv2) (rv := (fun u => some (.int u.1))) (w1 := (fun u => landW Z cK u.2.1 u.2.2.1 u.2.2.2 ++ (landW Z2 cK f2 kv2 mv2 ++ (trW V Z cI t_len t_end t_met ++ R)))) (u := (u_5.1, u_5.2.1, u_5.2.2.1, u_5.2.2.2)) hx hb hr hlocks hK hS (lt_eq eu_5 rfl) hP hD rfl dX8_mostBorne_32

def lX8_truePrint_5 (k : Int32) (f2 : Nat → Int32) (kv2 : Nat → Nat → Int32) (mv2 : Nat → Int32) : Nat → Int32 → Int32 → (Nat → Int32) → (Nat → Nat → Int32) → (Nat → Int32) → Int32 × (Nat → Int32) × (Nat → Nat → Int32) × (Nat → Int32)
  | 0, x4_5, x3_5, f_5, kv_5, mv_5 => (0, f_5, kv_5, mv_5)
  | n + 1, x4_5, x3_5, f_5, kv_5, mv_5 => if 99 < x4_5 then (if k = (-1) then ((x3_5, f_5, kv_5, mv_5)) else (((-1000000), f_5, kv_5, mv_5))) else (lt (sX2_takeAll f_5 kv_5 mv_5 f2 kv2 mv2) (fun u_3 : (Nat → Int32) × (Nat → Nat → Int32) × (Nat → Int32) => lt (sX2_liveYear (upd u_3.1 9 x4_5) u_3.2.1 u_3.2.2) (fun u_4 : Int32 × (Nat → Int32) × (Nat → Nat → Int32) × (Nat → Int32) => if u_4.1 = x4_5 then (if x3_5 = k then ((x4_5, u_4.2.1, u_4.2.2.1, u_4.2.2.2)) else (lt (x3_5 + 1) (fun x_8 : Int32 => lt (x4_5 + 1) (fun x_9 : Int32 => lX8_truePrint_5 k f2 kv2 mv2 n x_9 x_8 u_4.2.1 u_4.2.2.1 u_4.2.2.2)))) else (lt (x4_5 + 1) (fun x_6 : Int32 => lX8_truePrint_5 k f2 kv2 mv2 n x_6 x3_5 u_4.2.1 u_4.2.2.1 u_4.2.2.2)))))

def sX8_truePrint (k : Int32) (f : Nat → Int32) (kv : Nat → Nat → Int32) (mv : Nat → Int32) (f2 : Nat → Int32) (kv2 : Nat → Nat → Int32) (mv2 : Nat → Int32) : Int32 × (Nat → Int32) × (Nat → Nat → Int32) × (Nat → Int32) := lX8_truePrint_5 k f2 kv2 mv2 101 0 0 f kv mv
set_option maxHeartbeats 4000000 in
set_option maxRecDepth 100000 in
theorem mtX8_truePrint (l : Launch) (D : va_G) (cI cB cK cS : ClassId) (Z Z2 V : Nat → Nat) (R : va_W) (f : Nat → Int32) (kv : Nat → Nat → Int32) (mv : Nat → Int32) (f2 : Nat → Int32) (kv2 : Nat → Nat → Int32) (mv2 : Nat → Int32) (t_len : Int32) (t_end : Int32) (t_met : Nat → Int32) (k : Int32) (hz : ∀ j, j < 5 → kv2 j 7 = 0 ∨ kv2 j 7 = 1) : MX l yX8_truePrint wsX8_truePrint (rmX 5) D (tyX cI cB cK cS) pF0 (landW Z cK f kv mv ++ (landW Z2 cK f2 kv2 mv2 ++ (trW V Z cI t_len t_end t_met ++ R))) [.ref (V 0), .ref (Z2 0), .int k] (sX8_truePrint k f kv mv f2 kv2 mv2) (fun u => some (.int u.1)) (fun u => landW Z cK u.2.1 u.2.2.1 u.2.2.2 ++ (landW Z2 cK f2 kv2 mv2 ++ (trW V Z cI t_len t_end t_met ++ R))) := by
  refine mx_intro (cc := cX8_truePrint) (maxL := 5) (ret := (some .int)) (by decide) rfl (Nat.le_of_ble_eq_true rfl) ?_
  intro p e s m below meth c A ls H locs Qm hQm hx hb hr hml hts hown hlocks hA hS hP hK hD hF hl
  have hown : s.vm.findClass RX8 = some m.cls := hown
  have hl : lv_has ls 5 [(0, .ref (V 0)), (1, .ref (Z2 0)), (2, .int k)] := hl
  have k22 := hts (.constant RX8 22 (-1000000)) (by decide +kernel)
  have k12 := hts (.fieldLink RX8 12 "PigRounds$Trials" "trial" "LPigRounds$Land;") (by decide +kernel)
  have k61 := hts (.fieldLink RX8 61 "PigRounds$Land" "printed" "I") (by decide +kernel)
  have iX2 : ∀ w ∈ u_ws RX2 TX2 12, w ∈ wsX8_truePrint := by decide +kernel
  have iX8 : ∀ w ∈ u_ws RX8 TX8 4, w ∈ wsX8_truePrint := by decide +kernel
  refine lv_iconst (v := 0) hx hb dX8_truePrint_0 (by decide) ?_
  refine lv_istore_n (lv' := [(3, .int 0), (0, .ref (V 0)), (1, .ref (Z2 0)), (2, .int k)]) hx hb dX8_truePrint_1 rfl hl (by decide) rfl (fun ls hl => ?_)
  refine lv_iconst (v := 0) hx hb dX8_truePrint_2 (by decide) ?_
  refine lv_istore (lv' := [(4, .int 0), (3, .int 0), (0, .ref (V 0)), (1, .ref (Z2 0)), (2, .int k)]) hx hb dX8_truePrint_3 hl (by decide) rfl (fun ls hl => ?_)
  have L_5 : ∀ (n : Nat) (x4_5 : Int32) (x3_5 : Int32) (f_5 : Nat → Int32) (kv_5 : Nat → Nat → Int32) (mv_5 : Nat → Int32) (H : Heap) (locs : List Loc) (ls : Array Slot), 0 ≤ x4_5.toInt → x4_5.toInt ≤ 100 → (100 : Int) < x4_5.toInt + ((n : Nat) : Int) → (sX8_truePrint k f kv mv f2 kv2 mv2 = lX8_truePrint_5 k f2 kv2 mv2 n x4_5 x3_5 f_5 kv_5 mv_5) → va_P D vwCl (landW Z cK f_5 kv_5 mv_5 ++ (landW Z2 cK f2 kv2 mv2 ++ (trW V Z cI t_len t_end t_met ++ R))) H → va_D A (landW Z cK f_5 kv_5 mv_5 ++ (landW Z2 cK f2 kv2 mv2 ++ (trW V Z cI t_len t_end t_met ++ R))) → va_S A s.heap H locs → lv_has ls 5 [(4, .int x4_5), (3, .int x3_5), (0, .ref (V 0)), (1, .ref (Z2 0)), (2, .int k)] → W p l e (rmX 5) s m ([.ref (V 0), .ref (Z2 0), .int k] : List Value).toArray below meth c H locs 0 0 Qm (F0 m 5 ls []) := by
    intro n
    induction n with
    | zero =>
      intro x4_5 x3_5 f_5 kv_5 mv_5 H locs ls iv_5_0 iv_5_1 iv_5_2 hT_5 hP hD hS hl
      exfalso; omega
    | succ n ih_5 =>
      intro x4_5 x3_5 f_5 kv_5 mv_5 H locs ls iv_5_0 iv_5_1 iv_5_2 hT_5 hP hD hS hl
      refine lv_iload hx hb dX8_truePrint_5 (lv_at hl 0 rfl) ?_
      refine lv_bipush (v := 99) hx hb dX8_truePrint_7 (by decide) ?_
      refine lv_icmp_gt (tgt := 58) hx hb dX8_truePrint_9 (by decide) (fun c_1 => ?_) (fun c_1 => ?_)
      · have d_1 := i_lt (show (99 : Int32).toInt = 99 from by decide) rfl c_1
        refine lv_iload_n hx hb dX8_truePrint_58 rfl (lv_at hl 4 rfl) ?_
        refine lv_iconst (v := (-1)) hx hb dX8_truePrint_59 (by decide) ?_
        refine lv_icmp_ne (tgt := 67) hx hb dX8_truePrint_60 (by decide) (fun c_2 => ?_) (fun c_2 => ?_)
        · have d_2 := i_eqn rfl (show ((-1) : Int32).toInt = (-1) from by decide) c_2
          refine lv_ldc (v := (-1000000)) hx hb hown k22 dX8_truePrint_67 ?_
          rw [hQm]
          exact mx_iret (u0 := sX8_truePrint k f kv mv f2 kv2 mv2) (rv := (fun u => some (.int u.1))) (w1 := (fun u => landW Z cK u.2.1 u.2.2.1 u.2.2.2 ++ (landW Z2 cK f2 kv2 mv2 ++ (trW V Z cI t_len t_end t_met ++ R)))) (u := ((-1000000), f_5, kv_5, mv_5)) hx hb hr hlocks hK hS (hT_5.trans ((if_pos c_1).trans ((if_neg c_2).trans rfl))) hP hD rfl dX8_truePrint_69
        · have d_2 := i_eq rfl (show ((-1) : Int32).toInt = (-1) from by decide) c_2
          refine lv_iload_n hx hb dX8_truePrint_63 rfl (lv_at hl 1 rfl) ?_
          refine lv_goto (tgt := 69) hx hb dX8_truePrint_64 (by decide) ?_
          rw [hQm]
          exact mx_iret (u0 := sX8_truePrint k f kv mv f2 kv2 mv2) (rv := (fun u => some (.int u.1))) (w1 := (fun u => landW Z cK u.2.1 u.2.2.1 u.2.2.2 ++ (landW Z2 cK f2 kv2 mv2 ++ (trW V Z cI t_len t_end t_met ++ R)))) (u := (x3_5, f_5, kv_5, mv_5)) hx hb hr hlocks hK hS (hT_5.trans ((if_pos c_1).trans ((if_pos c_2).trans rfl))) hP hD rfl dX8_truePrint_69
      · have d_1 := i_ltn (show (99 : Int32).toInt = 99 from by decide) rfl c_1
        refine lv_aload_n hx hb dX8_truePrint_12 rfl (lv_at hl 2 rfl) ?_
        refine va_get (D := D) (ci := 7) (v := .ref (Z 0)) (C := RX8) (T := TX8) (N := 4) hx hb hts iX8 hown hK hP 16 rfl rfl 0 (by decide) k12 (fun _ h9 => h9) rfl dX8_truePrint_13 ?_
        refine lv_aload_n hx hb dX8_truePrint_16 rfl (lv_at hl 3 rfl) ?_
        refine mx_callV (As := [.ref (Z2 0)]) (rest := []) ⟨hx, hb, hml, hown, hts⟩ (mtX2_takeAll l D cI cB cK cS Z Z2 (trW V Z cI t_len t_end t_met ++ R) f_5 kv_5 mv_5 f2 kv2 mv2 (by first | assumption | omega)) (cwV 1 hts gX8_truePrint_X2_takeAll rfl rfl rfl (by decide +kernel) ⟨Nat.le_of_ble_eq_true rfl, Nat.le_of_ble_eq_true rfl⟩) pF0_ok trivial hK hP hD hS hA 5 rfl rfl rfl rfl hl.1 rfl (Nat.le_of_ble_eq_true rfl) dX8_truePrint_17 ⟨Nat.le_refl _, Nat.le_refl _⟩ (fun u_3 H locs eu_3 hP hD hS => ?_)
        refine W.eq (g2 := F0 m 20 ls []) rfl ?_
        have hP : va_P D vwCl (landW Z cK u_3.1 u_3.2.1 u_3.2.2 ++ (landW Z2 cK f2 kv2 mv2 ++ (trW V Z cI t_len t_end t_met ++ R))) H := hP
        have hD : va_D A (landW Z cK u_3.1 u_3.2.1 u_3.2.2 ++ (landW Z2 cK f2 kv2 mv2 ++ (trW V Z cI t_len t_end t_met ++ R))) := hD
        refine lv_aload_n hx hb dX8_truePrint_20 rfl (lv_at hl 2 rfl) ?_
        refine va_get (D := D) (ci := 7) (v := .ref (Z 0)) (C := RX8) (T := TX8) (N := 4) hx hb hts iX8 hown hK hP 16 rfl rfl 0 (by decide) k12 (fun _ h9 => h9) rfl dX8_truePrint_21 ?_
        refine lv_iload hx hb dX8_truePrint_24 (lv_at hl 0 rfl) ?_
        refine va_put (D := D) (ci := 2) (v := .int x4_5) (ty := .int) (C := RX2) (T := TX2) (N := 12) hx hb hts iX2 tyX2 tyX2_ok nmX2 hown hK hP hD hS 5 rfl rfl 9 (by decide) k61 (fun _ h9 => h9) rfl (by decide +kernel) rfl rfl (Nat.le_of_ble_eq_true rfl) dX8_truePrint_26 (fun H locs hP hD hS => ?_)
        have hP : va_P D vwCl (landW Z cK (upd u_3.1 9 x4_5) u_3.2.1 u_3.2.2 ++ (landW Z2 cK f2 kv2 mv2 ++ (trW V Z cI t_len t_end t_met ++ R))) H := hP
        have hD : va_D A (landW Z cK (upd u_3.1 9 x4_5) u_3.2.1 u_3.2.2 ++ (landW Z2 cK f2 kv2 mv2 ++ (trW V Z cI t_len t_end t_met ++ R))) := hD
        refine lv_aload_n hx hb dX8_truePrint_29 rfl (lv_at hl 2 rfl) ?_
        refine va_get (D := D) (ci := 7) (v := .ref (Z 0)) (C := RX8) (T := TX8) (N := 4) hx hb hts iX8 hown hK hP 16 rfl rfl 0 (by decide) k12 (fun _ h9 => h9) rfl dX8_truePrint_30 ?_
        refine mx_callV (As := []) (rest := []) ⟨hx, hb, hml, hown, hts⟩ (mtX2_liveYear l D cI cB cK cS Z (landW Z2 cK f2 kv2 mv2 ++ (trW V Z cI t_len t_end t_met ++ R)) (upd u_3.1 9 x4_5) u_3.2.1 u_3.2.2) (cwV 0 hts gX8_truePrint_X2_liveYear rfl rfl rfl (by decide +kernel) ⟨Nat.le_of_ble_eq_true rfl, Nat.le_of_ble_eq_true rfl⟩) pF0_ok trivial hK hP hD hS hA 5 rfl rfl rfl rfl hl.1 rfl (Nat.le_of_ble_eq_true rfl) dX8_truePrint_33 ⟨Nat.le_refl _, Nat.le_refl _⟩ (fun u_4 H locs eu_4 hP hD hS => ?_)
        refine W.eq (g2 := F0 m 36 ls [.int u_4.1]) rfl ?_
        have hP : va_P D vwCl (landW Z cK u_4.2.1 u_4.2.2.1 u_4.2.2.2 ++ (landW Z2 cK f2 kv2 mv2 ++ (trW V Z cI t_len t_end t_met ++ R))) H := hP
        have hD : va_D A (landW Z cK u_4.2.1 u_4.2.2.1 u_4.2.2.2 ++ (landW Z2 cK f2 kv2 mv2 ++ (trW V Z cI t_len t_end t_met ++ R))) := hD
        refine lv_iload hx hb dX8_truePrint_36 (lv_at hl 0 rfl) ?_
        refine lv_icmp_ne (tgt := 52) hx hb dX8_truePrint_38 (by decide) (fun c_5 => ?_) (fun c_5 => ?_)
        · have d_5 := i_eqn rfl rfl c_5
          obtain ⟨x_6, ex_6⟩ : ∃ z : Int32, z = x4_5 + 1 := ⟨_, rfl⟩
          refine lv_iinc (v := x_6) (lv' := [(4, .int x_6), (3, .int x3_5), (0, .ref (V 0)), (1, .ref (Z2 0)), (2, .int k)]) hx hb dX8_truePrint_52 hl (k := 0) rfl (by rw [ex_6]; rfl) (by decide) rfl (fun ls hl => ?_)
          refine lv_goto (tgt := 5) hx hb dX8_truePrint_55 (by decide) ?_
          try have tx_6 : x_6.toInt = x4_5.toInt + 1 := i_inc ex_6 (by decide) (by omega) (by omega)
          exact ih_5 x_6 x3_5 u_4.2.1 u_4.2.2.1 u_4.2.2.2 H locs ls (by first | omega | assumption) (by first | omega | assumption) (by first | omega | assumption) (hT_5.trans ((if_neg c_1).trans (lt_eq eu_3 (lt_eq eu_4 ((if_neg c_5).trans (lt_eq ex_6 rfl)))))) hP hD hS (lv_sub hl [0, 1, 2, 3, 4] rfl)
        · have d_5 := i_eq rfl rfl c_5
          refine lv_iload_n hx hb dX8_truePrint_41 rfl (lv_at hl 1 rfl) ?_
          refine lv_iload_n hx hb dX8_truePrint_42 rfl (lv_at hl 4 rfl) ?_
          refine lv_icmp_ne (tgt := 49) hx hb dX8_truePrint_43 (by decide) (fun c_7 => ?_) (fun c_7 => ?_)
          · have d_7 := i_eqn rfl rfl c_7
            obtain ⟨x_8, ex_8⟩ : ∃ z : Int32, z = x3_5 + 1 := ⟨_, rfl⟩
            refine lv_iinc (v := x_8) (lv' := [(3, .int x_8), (4, .int x4_5), (0, .ref (V 0)), (1, .ref (Z2 0)), (2, .int k)]) hx hb dX8_truePrint_49 hl (k := 1) rfl (by rw [ex_8]; rfl) (by decide) rfl (fun ls hl => ?_)
            obtain ⟨x_9, ex_9⟩ : ∃ z : Int32, z = x4_5 + 1 := ⟨_, rfl⟩
            refine lv_iinc (v := x_9) (lv' := [(4, .int x_9), (3, .int x_8), (0, .ref (V 0)), (1, .ref (Z2 0)), (2, .int k)]) hx hb dX8_truePrint_52 hl (k := 1) rfl (by rw [ex_9]; rfl) (by decide) rfl (fun ls hl => ?_)
            refine lv_goto (tgt := 5) hx hb dX8_truePrint_55 (by decide) ?_
            try have tx_9 : x_9.toInt = x4_5.toInt + 1 := i_inc ex_9 (by decide) (by omega) (by omega)
            try have tx_8 : x_8.toInt = x3_5.toInt + 1 := i_inc ex_8 (by decide) (by omega) (by omega)
            exact ih_5 x_9 x_8 u_4.2.1 u_4.2.2.1 u_4.2.2.2 H locs ls (by first | omega | assumption) (by first | omega | assumption) (by first | omega | assumption) (hT_5.trans ((if_neg c_1).trans (lt_eq eu_3 (lt_eq eu_4 ((if_pos c_5).trans ((if_neg c_7).trans (lt_eq ex_8 (lt_eq ex_9 rfl)))))))) hP hD hS (lv_sub hl [0, 1, 2, 3, 4] rfl)
          · have d_7 := i_eq rfl rfl c_7
            refine lv_iload hx hb dX8_truePrint_46 (lv_at hl 0 rfl) ?_
            rw [hQm]
            exact mx_iret (u0 := sX8_truePrint k f kv mv f2 kv2 mv2) (rv := (fun u => some (.int u.1))) (w1 := (fun u => landW Z cK u.2.1 u.2.2.1 u.2.2.2 ++ (landW Z2 cK f2 kv2 mv2 ++ (trW V Z cI t_len t_end t_met ++ R)))) (u := (x4_5, u_4.2.1, u_4.2.2.1, u_4.2.2.2)) hx hb hr hlocks hK hS (hT_5.trans ((if_neg c_1).trans (lt_eq eu_3 (lt_eq eu_4 ((if_pos c_5).trans ((if_pos c_7).trans rfl)))))) hP hD rfl dX8_truePrint_48
  exact L_5 101 0 0 f kv mv H locs ls (by decide) (by decide) (by decide) rfl hP hD hS (lv_sub hl [0, 1, 2, 3, 4] rfl)

def lX8_spreadUnder_42 (nn : Int32) : Nat → Int32 → Int32 → Int32 → (Nat → Int32) → (Nat → Nat → Int32) → (Nat → Int32) → Int32 × Int32 × Int32 × (Nat → Int32) × (Nat → Nat → Int32) × (Nat → Int32)
  | 0, x8_42, x7_42, x6_42, f_42, kv_42, mv_42 => (x8_42, x7_42, x6_42, f_42, kv_42, mv_42)
  | n + 1, x8_42, x7_42, x6_42, f_42, kv_42, mv_42 => if nn ≤ x8_42 then ((x8_42, x7_42, x6_42, f_42, kv_42, mv_42)) else (lt (sX2_liveYear f_42 kv_42 mv_42) (fun u_5 : Int32 × (Nat → Int32) × (Nat → Nat → Int32) × (Nat → Int32) => lt (if u_5.1 < x6_42 then u_5.1 else x6_42) (fun x_6 : Int32 => lt (if x7_42 < u_5.1 then u_5.1 else x7_42) (fun x_7 : Int32 => lt (x8_42 + 1) (fun x_8 : Int32 => lX8_spreadUnder_42 nn n x_8 x_7 x_6 u_5.2.1 u_5.2.2.1 u_5.2.2.2)))))

def sX8_spreadUnder (a : Int32) (b : Int32) (d : Int32) (nn : Int32) (f : Nat → Int32) (kv : Nat → Nat → Int32) (mv : Nat → Int32) (f2 : Nat → Int32) (kv2 : Nat → Nat → Int32) (mv2 : Nat → Int32) : Int32 × (Nat → Int32) × (Nat → Nat → Int32) × (Nat → Int32) := lt (sX2_takeAll f kv mv f2 kv2 mv2) (fun u_1 : (Nat → Int32) × (Nat → Nat → Int32) × (Nat → Int32) => lt (sX3_forget u_1.2.2) (fun u_2 : (Nat → Int32) => lt (sX3_order a b d u_2) (fun u_3 : (Nat → Int32) => lt (lX8_spreadUnder_42 nn 31 0 0 99 u_1.1 u_1.2.1 u_3) (fun u_9 : Int32 × Int32 × Int32 × (Nat → Int32) × (Nat → Nat → Int32) × (Nat → Int32) => (u_9.2.1 - u_9.2.2.1, u_9.2.2.2.1, u_9.2.2.2.2.1, u_9.2.2.2.2.2)))))
set_option maxHeartbeats 4000000 in
set_option maxRecDepth 100000 in
theorem mtX8_spreadUnder (l : Launch) (D : va_G) (cI cB cK cS : ClassId) (Z Z2 V : Nat → Nat) (R : va_W) (f : Nat → Int32) (kv : Nat → Nat → Int32) (mv : Nat → Int32) (f2 : Nat → Int32) (kv2 : Nat → Nat → Int32) (mv2 : Nat → Int32) (t_len : Int32) (t_end : Int32) (t_met : Nat → Int32) (a : Int32) (b : Int32) (d : Int32) (nn : Int32) (hz : ∀ j, j < 5 → kv2 j 7 = 0 ∨ kv2 j 7 = 1) (hn : nn.toInt ≤ 30) : MX l yX8_spreadUnder wsX8_spreadUnder (rmX 5) D (tyX cI cB cK cS) pF0 (landW Z cK f kv mv ++ (landW Z2 cK f2 kv2 mv2 ++ (trW V Z cI t_len t_end t_met ++ R))) [.ref (V 0), .ref (Z2 0), .int a, .int b, .int d, .int nn] (sX8_spreadUnder a b d nn f kv mv f2 kv2 mv2) (fun u => some (.int u.1)) (fun u => landW Z cK u.2.1 u.2.2.1 u.2.2.2 ++ (landW Z2 cK f2 kv2 mv2 ++ (trW V Z cI t_len t_end t_met ++ R))) := by
  refine mx_intro (cc := cX8_spreadUnder) (maxL := 10) (ret := (some .int)) (by decide) rfl (Nat.le_of_ble_eq_true rfl) ?_
  intro p e s m below meth c A ls H locs Qm hQm hx hb hr hml hts hown hlocks hA hS hP hK hD hF hl
  have hown : s.vm.findClass RX8 = some m.cls := hown
  have hl : lv_has ls 10 [(0, .ref (V 0)), (1, .ref (Z2 0)), (2, .int a), (3, .int b), (4, .int d), (5, .int nn)] := hl
  have k12 := hts (.fieldLink RX8 12 "PigRounds$Trials" "trial" "LPigRounds$Land;") (by decide +kernel)
  have k68 := hts (.fieldLink RX8 68 "PigRounds$Land" "ministry" "LPigRounds$Ministry;") (by decide +kernel)
  have k84 := hts (.methodLink RX8 84 Lib.Math.min.name) (by decide +kernel)
  have kS_min := hts (.static Lib.Math.min.name) (by decide +kernel)
  have kI_math := hts (.initialized "java/lang/Math") (by decide +kernel)
  have kC_min := hts (.code Lib.Math.min.name Lib.Math.min.code 2 (some .int)) (by decide +kernel)
  have k90 := hts (.methodLink RX8 90 Lib.Math.max.name) (by decide +kernel)
  have kS_max := hts (.static Lib.Math.max.name) (by decide +kernel)
  have kC_max := hts (.code Lib.Math.max.name Lib.Math.max.code 2 (some .int)) (by decide +kernel)
  have iX2 : ∀ w ∈ u_ws RX2 TX2 12, w ∈ wsX8_spreadUnder := by decide +kernel
  have iX8 : ∀ w ∈ u_ws RX8 TX8 4, w ∈ wsX8_spreadUnder := by decide +kernel
  refine lv_aload_n hx hb dX8_spreadUnder_0 rfl (lv_at hl 0 rfl) ?_
  refine va_get (D := D) (ci := 7) (v := .ref (Z 0)) (C := RX8) (T := TX8) (N := 4) hx hb hts iX8 hown hK hP 16 rfl rfl 0 (by decide) k12 (fun _ h9 => h9) rfl dX8_spreadUnder_1 ?_
  refine lv_aload_n hx hb dX8_spreadUnder_4 rfl (lv_at hl 1 rfl) ?_
  refine mx_callV (As := [.ref (Z2 0)]) (rest := []) ⟨hx, hb, hml, hown, hts⟩ (mtX2_takeAll l D cI cB cK cS Z Z2 (trW V Z cI t_len t_end t_met ++ R) f kv mv f2 kv2 mv2 (by first | assumption | omega)) (cwV 1 hts gX8_spreadUnder_X2_takeAll rfl rfl rfl (by decide +kernel) ⟨Nat.le_of_ble_eq_true rfl, Nat.le_of_ble_eq_true rfl⟩) pF0_ok trivial hK hP hD hS hA 5 rfl rfl rfl rfl hl.1 rfl (Nat.le_of_ble_eq_true rfl) dX8_spreadUnder_5 ⟨Nat.le_refl _, Nat.le_refl _⟩ (fun u_1 H locs eu_1 hP hD hS => ?_)
  refine W.eq (g2 := F0 m 8 ls []) rfl ?_
  have hP : va_P D vwCl (landW Z cK u_1.1 u_1.2.1 u_1.2.2 ++ (landW Z2 cK f2 kv2 mv2 ++ (trW V Z cI t_len t_end t_met ++ R))) H := hP
  have hD : va_D A (landW Z cK u_1.1 u_1.2.1 u_1.2.2 ++ (landW Z2 cK f2 kv2 mv2 ++ (trW V Z cI t_len t_end t_met ++ R))) := hD
  refine lv_aload_n hx hb dX8_spreadUnder_8 rfl (lv_at hl 0 rfl) ?_
  refine va_get (D := D) (ci := 7) (v := .ref (Z 0)) (C := RX8) (T := TX8) (N := 4) hx hb hts iX8 hown hK hP 16 rfl rfl 0 (by decide) k12 (fun _ h9 => h9) rfl dX8_spreadUnder_9 ?_
  refine va_get (D := D) (ci := 2) (v := .ref (Z 2)) (C := RX2) (T := TX2) (N := 12) hx hb hts iX2 hown hK hP 5 rfl rfl 1 (by decide) k68 (fun _ h9 => h9) rfl dX8_spreadUnder_12 ?_
  refine mx_callV (As := []) (rest := []) ⟨hx, hb, hml, hown, hts⟩ (mtX3_forget l D cI cB cK cS (landW Z cK u_1.1 u_1.2.1 u_1.2.2 ++ (landW Z2 cK f2 kv2 mv2 ++ (trW V Z cI t_len t_end t_met ++ R))) (Z 2) 7 u_1.2.2 rfl) (cwV 0 hts gX8_spreadUnder_X3_forget rfl rfl rfl (by decide +kernel) ⟨Nat.le_of_ble_eq_true rfl, Nat.le_of_ble_eq_true rfl⟩) pF0_ok trivial hK hP hD hS hA 7 rfl rfl rfl rfl hl.1 rfl (Nat.le_of_ble_eq_true rfl) dX8_spreadUnder_15 ⟨Nat.le_refl _, Nat.le_refl _⟩ (fun u_2 H locs eu_2 hP hD hS => ?_)
  refine W.eq (g2 := F0 m 18 ls []) rfl ?_
  have hP : va_P D vwCl (landW Z cK u_1.1 u_1.2.1 u_2 ++ (landW Z2 cK f2 kv2 mv2 ++ (trW V Z cI t_len t_end t_met ++ R))) H := hP
  have hD : va_D A (landW Z cK u_1.1 u_1.2.1 u_2 ++ (landW Z2 cK f2 kv2 mv2 ++ (trW V Z cI t_len t_end t_met ++ R))) := hD
  refine lv_aload_n hx hb dX8_spreadUnder_18 rfl (lv_at hl 0 rfl) ?_
  refine va_get (D := D) (ci := 7) (v := .ref (Z 0)) (C := RX8) (T := TX8) (N := 4) hx hb hts iX8 hown hK hP 16 rfl rfl 0 (by decide) k12 (fun _ h9 => h9) rfl dX8_spreadUnder_19 ?_
  refine va_get (D := D) (ci := 2) (v := .ref (Z 2)) (C := RX2) (T := TX2) (N := 12) hx hb hts iX2 hown hK hP 5 rfl rfl 1 (by decide) k68 (fun _ h9 => h9) rfl dX8_spreadUnder_22 ?_
  refine lv_iload_n hx hb dX8_spreadUnder_25 rfl (lv_at hl 2 rfl) ?_
  refine lv_iload_n hx hb dX8_spreadUnder_26 rfl (lv_at hl 3 rfl) ?_
  refine lv_iload hx hb dX8_spreadUnder_27 (lv_at hl 4 rfl) ?_
  refine mx_callV (As := [.int a, .int b, .int d]) (rest := []) ⟨hx, hb, hml, hown, hts⟩ (mtX3_order l D cI cB cK cS (landW Z cK u_1.1 u_1.2.1 u_2 ++ (landW Z2 cK f2 kv2 mv2 ++ (trW V Z cI t_len t_end t_met ++ R))) (Z 2) 7 u_2 a b d rfl) (cwV 3 hts gX8_spreadUnder_X3_order rfl rfl rfl (by decide +kernel) ⟨Nat.le_of_ble_eq_true rfl, Nat.le_of_ble_eq_true rfl⟩) pF0_ok trivial hK hP hD hS hA 7 rfl rfl rfl rfl hl.1 rfl (Nat.le_of_ble_eq_true rfl) dX8_spreadUnder_29 ⟨Nat.le_refl _, Nat.le_refl _⟩ (fun u_3 H locs eu_3 hP hD hS => ?_)
  refine W.eq (g2 := F0 m 32 ls []) rfl ?_
  have hP : va_P D vwCl (landW Z cK u_1.1 u_1.2.1 u_3 ++ (landW Z2 cK f2 kv2 mv2 ++ (trW V Z cI t_len t_end t_met ++ R))) H := hP
  have hD : va_D A (landW Z cK u_1.1 u_1.2.1 u_3 ++ (landW Z2 cK f2 kv2 mv2 ++ (trW V Z cI t_len t_end t_met ++ R))) := hD
  refine lv_bipush (v := 99) hx hb dX8_spreadUnder_32 (by decide) ?_
  refine lv_istore (lv' := [(6, .int 99), (0, .ref (V 0)), (1, .ref (Z2 0)), (2, .int a), (3, .int b), (4, .int d), (5, .int nn)]) hx hb dX8_spreadUnder_34 hl (by decide) rfl (fun ls hl => ?_)
  refine lv_iconst (v := 0) hx hb dX8_spreadUnder_36 (by decide) ?_
  refine lv_istore (lv' := [(7, .int 0), (6, .int 99), (0, .ref (V 0)), (1, .ref (Z2 0)), (2, .int a), (3, .int b), (4, .int d), (5, .int nn)]) hx hb dX8_spreadUnder_37 hl (by decide) rfl (fun ls hl => ?_)
  refine lv_iconst (v := 0) hx hb dX8_spreadUnder_39 (by decide) ?_
  refine lv_istore (lv' := [(8, .int 0), (7, .int 0), (6, .int 99), (0, .ref (V 0)), (1, .ref (Z2 0)), (2, .int a), (3, .int b), (4, .int d), (5, .int nn)]) hx hb dX8_spreadUnder_40 hl (by decide) rfl (fun ls hl => ?_)
  have L_42 : ∀ (n : Nat) (x8_42 : Int32) (x7_42 : Int32) (x6_42 : Int32) (f_42 : Nat → Int32) (kv_42 : Nat → Nat → Int32) (mv_42 : Nat → Int32) (H : Heap) (locs : List Loc) (ls : Array Slot), 0 ≤ x8_42.toInt → x8_42.toInt ≤ 30 → (30 : Int) < x8_42.toInt + ((n : Nat) : Int) → va_P D vwCl (landW Z cK f_42 kv_42 mv_42 ++ (landW Z2 cK f2 kv2 mv2 ++ (trW V Z cI t_len t_end t_met ++ R))) H → va_D A (landW Z cK f_42 kv_42 mv_42 ++ (landW Z2 cK f2 kv2 mv2 ++ (trW V Z cI t_len t_end t_met ++ R))) → va_S A s.heap H locs → lv_has ls 10 [(8, .int x8_42), (7, .int x7_42), (6, .int x6_42), (0, .ref (V 0)), (5, .int nn)] → (∀ (u : Int32 × Int32 × Int32 × (Nat → Int32) × (Nat → Nat → Int32) × (Nat → Int32)) (H : Heap) (locs : List Loc) (ls : Array Slot), u = lX8_spreadUnder_42 nn n x8_42 x7_42 x6_42 f_42 kv_42 mv_42 → va_P D vwCl (landW Z cK u.2.2.2.1 u.2.2.2.2.1 u.2.2.2.2.2 ++ (landW Z2 cK f2 kv2 mv2 ++ (trW V Z cI t_len t_end t_met ++ R))) H → va_D A (landW Z cK u.2.2.2.1 u.2.2.2.2.1 u.2.2.2.2.2 ++ (landW Z2 cK f2 kv2 mv2 ++ (trW V Z cI t_len t_end t_met ++ R))) → va_S A s.heap H locs → lv_has ls 10 [(7, .int u.2.1), (6, .int u.2.2.1)] → W p l e (rmX 5) s m ([.ref (V 0), .ref (Z2 0), .int a, .int b, .int d, .int nn] : List Value).toArray below meth c H locs 0 0 Qm (F0 m 82 ls [])) → W p l e (rmX 5) s m ([.ref (V 0), .ref (Z2 0), .int a, .int b, .int d, .int nn] : List Value).toArray below meth c H locs 0 0 Qm (F0 m 42 ls []) := by
    intro n
    induction n with
    | zero =>
      intro x8_42 x7_42 x6_42 f_42 kv_42 mv_42 H locs ls iv_42_0 iv_42_1 iv_42_2 hP hD hS hl kont_42
      exfalso; omega
    | succ n ih_42 =>
      intro x8_42 x7_42 x6_42 f_42 kv_42 mv_42 H locs ls iv_42_0 iv_42_1 iv_42_2 hP hD hS hl kont_42
      refine lv_iload hx hb dX8_spreadUnder_42 (lv_at hl 0 rfl) ?_
      refine lv_iload hx hb dX8_spreadUnder_44 (lv_at hl 4 rfl) ?_
      refine lv_icmp_ge (tgt := 82) hx hb dX8_spreadUnder_46 (by decide) (fun c_4 => ?_) (fun c_4 => ?_)
      · have d_4 := i_le rfl rfl c_4
        exact kont_42 (x8_42, x7_42, x6_42, f_42, kv_42, mv_42) H locs ls (show lX8_spreadUnder_42 nn (n + 1) x8_42 x7_42 x6_42 f_42 kv_42 mv_42 = (x8_42, x7_42, x6_42, f_42, kv_42, mv_42) from ((if_pos c_4).trans rfl)).symm  hP hD hS (lv_sub hl [1, 2] rfl)
      · have d_4 := i_len rfl rfl c_4
        refine lv_aload_n hx hb dX8_spreadUnder_49 rfl (lv_at hl 3 rfl) ?_
        refine va_get (D := D) (ci := 7) (v := .ref (Z 0)) (C := RX8) (T := TX8) (N := 4) hx hb hts iX8 hown hK hP 16 rfl rfl 0 (by decide) k12 (fun _ h9 => h9) rfl dX8_spreadUnder_50 ?_
        refine mx_callV (As := []) (rest := []) ⟨hx, hb, hml, hown, hts⟩ (mtX2_liveYear l D cI cB cK cS Z (landW Z2 cK f2 kv2 mv2 ++ (trW V Z cI t_len t_end t_met ++ R)) f_42 kv_42 mv_42) (cwV 0 hts gX8_spreadUnder_X2_liveYear rfl rfl rfl (by decide +kernel) ⟨Nat.le_of_ble_eq_true rfl, Nat.le_of_ble_eq_true rfl⟩) pF0_ok trivial hK hP hD hS hA 5 rfl rfl rfl rfl hl.1 rfl (Nat.le_of_ble_eq_true rfl) dX8_spreadUnder_53 ⟨Nat.le_refl _, Nat.le_refl _⟩ (fun u_5 H locs eu_5 hP hD hS => ?_)
        refine W.eq (g2 := F0 m 56 ls [.int u_5.1]) rfl ?_
        have hP : va_P D vwCl (landW Z cK u_5.2.1 u_5.2.2.1 u_5.2.2.2 ++ (landW Z2 cK f2 kv2 mv2 ++ (trW V Z cI t_len t_end t_met ++ R))) H := hP
        have hD : va_D A (landW Z cK u_5.2.1 u_5.2.2.1 u_5.2.2.2 ++ (landW Z2 cK f2 kv2 mv2 ++ (trW V Z cI t_len t_end t_met ++ R))) := hD
        refine lv_istore (lv' := [(9, .int u_5.1), (8, .int x8_42), (7, .int x7_42), (6, .int x6_42), (0, .ref (V 0)), (5, .int nn)]) hx hb dX8_spreadUnder_56 hl (by decide) rfl (fun ls hl => ?_)
        refine lv_iload hx hb dX8_spreadUnder_58 (lv_at hl 3 rfl) ?_
        refine lv_iload hx hb dX8_spreadUnder_60 (lv_at hl 0 rfl) ?_
        refine va_mmin hx hb (by rw [hml]; exact hl.1.symm) hown k84 kS_min kI_math kC_min (Nat.le_of_ble_eq_true rfl) (Nat.le_of_ble_eq_true rfl) (Nat.le_refl _) (Nat.le_refl _) dX8_spreadUnder_62 ?_
        refine lv_topi (fun x_6 ex_6 => ?_)
        refine lv_istore (lv' := [(6, .int x_6), (9, .int u_5.1), (8, .int x8_42), (7, .int x7_42), (0, .ref (V 0)), (5, .int nn)]) hx hb dX8_spreadUnder_65 hl (by decide) rfl (fun ls hl => ?_)
        refine lv_iload hx hb dX8_spreadUnder_67 (lv_at hl 3 rfl) ?_
        refine lv_iload hx hb dX8_spreadUnder_69 (lv_at hl 1 rfl) ?_
        refine va_mmax hx hb (by rw [hml]; exact hl.1.symm) hown k90 kS_max kI_math kC_max (Nat.le_of_ble_eq_true rfl) (Nat.le_of_ble_eq_true rfl) (Nat.le_refl _) (Nat.le_refl _) dX8_spreadUnder_71 ?_
        refine lv_topi (fun x_7 ex_7 => ?_)
        refine lv_istore (lv' := [(7, .int x_7), (6, .int x_6), (9, .int u_5.1), (8, .int x8_42), (0, .ref (V 0)), (5, .int nn)]) hx hb dX8_spreadUnder_74 hl (by decide) rfl (fun ls hl => ?_)
        obtain ⟨x_8, ex_8⟩ : ∃ z : Int32, z = x8_42 + 1 := ⟨_, rfl⟩
        refine lv_iinc (v := x_8) (lv' := [(8, .int x_8), (7, .int x_7), (6, .int x_6), (9, .int u_5.1), (0, .ref (V 0)), (5, .int nn)]) hx hb dX8_spreadUnder_76 hl (k := 3) rfl (by rw [ex_8]; rfl) (by decide) rfl (fun ls hl => ?_)
        refine lv_goto (tgt := 42) hx hb dX8_spreadUnder_79 (by decide) ?_
        try have tx_8 : x_8.toInt = x8_42.toInt + 1 := i_inc ex_8 (by decide) (by omega) (by omega)
        refine ih_42 x_8 x_7 x_6 u_5.2.1 u_5.2.2.1 u_5.2.2.2 H locs ls (by first | omega | assumption) (by first | omega | assumption) (by first | omega | assumption) hP hD hS (lv_sub hl [0, 1, 2, 4, 5] rfl) (fun u H locs ls eu  hP hD hS hl => ?_)
        exact kont_42 u H locs ls (eu.trans (show lX8_spreadUnder_42 nn (n + 1) x8_42 x7_42 x6_42 f_42 kv_42 mv_42 = lX8_spreadUnder_42 nn n x_8 x_7 x_6 u_5.2.1 u_5.2.2.1 u_5.2.2.2 from ((if_neg c_4).trans (lt_eq eu_5 (lt_eq ex_6 (lt_eq ex_7 (lt_eq ex_8 rfl)))))).symm)  hP hD hS hl
  refine L_42 31 0 0 99 u_1.1 u_1.2.1 u_3 H locs ls (by decide) (by decide) (by decide) hP hD hS (lv_sub hl [0, 1, 2, 3, 8] rfl) (fun u_9 H locs ls eu_9  hP hD hS hl => ?_)
  have hP : va_P D vwCl (landW Z cK u_9.2.2.2.1 u_9.2.2.2.2.1 u_9.2.2.2.2.2 ++ (landW Z2 cK f2 kv2 mv2 ++ (trW V Z cI t_len t_end t_met ++ R))) H := hP
  have hD : va_D A (landW Z cK u_9.2.2.2.1 u_9.2.2.2.2.1 u_9.2.2.2.2.2 ++ (landW Z2 cK f2 kv2 mv2 ++ (trW V Z cI t_len t_end t_met ++ R))) := hD
  refine lv_iload hx hb dX8_spreadUnder_82 (lv_at hl 0 rfl) ?_
  refine lv_iload hx hb dX8_spreadUnder_84 (lv_at hl 1 rfl) ?_
  refine lv_isub hx hb dX8_spreadUnder_86 ?_
  rw [hQm]
  exact mx_iret (u0 := sX8_spreadUnder a b d nn f kv mv f2 kv2 mv2) (rv := (fun u => some (.int u.1))) (w1 := (fun u => landW Z cK u.2.1 u.2.2.1 u.2.2.2 ++ (landW Z2 cK f2 kv2 mv2 ++ (trW V Z cI t_len t_end t_met ++ R)))) (u := (u_9.2.1 - u_9.2.2.1, u_9.2.2.2.1, u_9.2.2.2.2.1, u_9.2.2.2.2.2)) hx hb hr hlocks hK hS (lt_eq eu_1 (lt_eq eu_2 (lt_eq eu_3 (lt_eq eu_9 rfl)))) hP hD rfl dX8_spreadUnder_87

def lX8_cheapestCalm_31 (nn : Int32) (w : Int32) (f2 : Nat → Int32) (kv2 : Nat → Nat → Int32) (mv2 : Nat → Int32) (x6_11 : Int32) (x7_21 : Int32) : Nat → Int32 → Int32 → Int32 → (Nat → Int32) → (Nat → Nat → Int32) → (Nat → Int32) → Int32 × Int32 × Int32 × (Nat → Int32) × (Nat → Nat → Int32) × (Nat → Int32)
  | 0, x8_31, x5_31, x4_31, f_31, kv_31, mv_31 => (x8_31, x5_31, x4_31, f_31, kv_31, mv_31)
  | n + 1, x8_31, x5_31, x4_31, f_31, kv_31, mv_31 => if x7_21 ≤ x8_31 then ((x8_31, x5_31, x4_31, f_31, kv_31, mv_31)) else (lt (sX8_spreadUnder x8_31 x7_21 x6_11 nn f_31 kv_31 mv_31 f2 kv2 mv2) (fun u_4 : Int32 × (Nat → Int32) × (Nat → Nat → Int32) × (Nat → Int32) => lt (if w < u_4.1 then (0) else (1)) (fun y_5 : Int32 => lt (if y_5 = 0 then ((x5_31, x4_31)) else (if x4_31 = (-1000000) then (lt (((10000 * x6_11) + (100 * x7_21)) + x8_31) (fun x_10 : Int32 => ((u_4.2.2.2 4), x_10))) else (if x5_31 ≤ (u_4.2.2.2 4) then ((x5_31, x4_31)) else (lt (((10000 * x6_11) + (100 * x7_21)) + x8_31) (fun x_12 : Int32 => ((u_4.2.2.2 4), x_12)))))) (fun y_7 : Int32 × Int32 => lt (x8_31 + 5) (fun x_13 : Int32 => lX8_cheapestCalm_31 nn w f2 kv2 mv2 x6_11 x7_21 n x_13 y_7.1 y_7.2 u_4.2.1 u_4.2.2.1 u_4.2.2.2)))))

def lX8_cheapestCalm_21 (nn : Int32) (w : Int32) (f2 : Nat → Int32) (kv2 : Nat → Nat → Int32) (mv2 : Nat → Int32) (x6_11 : Int32) : Nat → Int32 → Int32 → Int32 → (Nat → Int32) → (Nat → Nat → Int32) → (Nat → Int32) → Int32 × Int32 × Int32 × (Nat → Int32) × (Nat → Nat → Int32) × (Nat → Int32)
  | 0, x7_21, x5_21, x4_21, f_21, kv_21, mv_21 => (x7_21, x5_21, x4_21, f_21, kv_21, mv_21)
  | n + 1, x7_21, x5_21, x4_21, f_21, kv_21, mv_21 => if 50 < x7_21 then ((x7_21, x5_21, x4_21, f_21, kv_21, mv_21)) else (lt (lX8_cheapestCalm_31 nn w f2 kv2 mv2 x6_11 x7_21 13 0 x5_21 x4_21 f_21 kv_21 mv_21) (fun u_14 : Int32 × Int32 × Int32 × (Nat → Int32) × (Nat → Nat → Int32) × (Nat → Int32) => lt (x7_21 + 5) (fun x_15 : Int32 => lX8_cheapestCalm_21 nn w f2 kv2 mv2 x6_11 n x_15 u_14.2.1 u_14.2.2.1 u_14.2.2.2.1 u_14.2.2.2.2.1 u_14.2.2.2.2.2)))

def lX8_cheapestCalm_11 (nn : Int32) (w : Int32) (f2 : Nat → Int32) (kv2 : Nat → Nat → Int32) (mv2 : Nat → Int32) : Nat → Int32 → Int32 → Int32 → (Nat → Int32) → (Nat → Nat → Int32) → (Nat → Int32) → Int32 × Int32 × Int32 × (Nat → Int32) × (Nat → Nat → Int32) × (Nat → Int32)
  | 0, x6_11, x5_11, x4_11, f_11, kv_11, mv_11 => (x6_11, x5_11, x4_11, f_11, kv_11, mv_11)
  | n + 1, x6_11, x5_11, x4_11, f_11, kv_11, mv_11 => if 30 < x6_11 then ((x6_11, x5_11, x4_11, f_11, kv_11, mv_11)) else (lt (lX8_cheapestCalm_21 nn w f2 kv2 mv2 x6_11 11 5 x5_11 x4_11 f_11 kv_11 mv_11) (fun u_16 : Int32 × Int32 × Int32 × (Nat → Int32) × (Nat → Nat → Int32) × (Nat → Int32) => lt (x6_11 + 10) (fun x_17 : Int32 => lX8_cheapestCalm_11 nn w f2 kv2 mv2 n x_17 u_16.2.1 u_16.2.2.1 u_16.2.2.2.1 u_16.2.2.2.2.1 u_16.2.2.2.2.2)))

def sX8_cheapestCalm (nn : Int32) (w : Int32) (f : Nat → Int32) (kv : Nat → Nat → Int32) (mv : Nat → Int32) (f2 : Nat → Int32) (kv2 : Nat → Nat → Int32) (mv2 : Nat → Int32) : Int32 × (Nat → Int32) × (Nat → Nat → Int32) × (Nat → Int32) := lt (lX8_cheapestCalm_11 nn w f2 kv2 mv2 4 10 0 (-1000000) f kv mv) (fun u_18 : Int32 × Int32 × Int32 × (Nat → Int32) × (Nat → Nat → Int32) × (Nat → Int32) => (u_18.2.2.1, u_18.2.2.2.1, u_18.2.2.2.2.1, u_18.2.2.2.2.2))
set_option maxHeartbeats 4000000 in
set_option maxRecDepth 100000 in
theorem mtX8_cheapestCalm (l : Launch) (D : va_G) (cI cB cK cS : ClassId) (Z Z2 V : Nat → Nat) (R : va_W) (f : Nat → Int32) (kv : Nat → Nat → Int32) (mv : Nat → Int32) (f2 : Nat → Int32) (kv2 : Nat → Nat → Int32) (mv2 : Nat → Int32) (t_len : Int32) (t_end : Int32) (t_met : Nat → Int32) (nn : Int32) (w : Int32) (hz : ∀ j, j < 5 → kv2 j 7 = 0 ∨ kv2 j 7 = 1) (hn : nn.toInt ≤ 30) : MX l yX8_cheapestCalm wsX8_cheapestCalm (rmX 6) D (tyX cI cB cK cS) pF0 (landW Z cK f kv mv ++ (landW Z2 cK f2 kv2 mv2 ++ (trW V Z cI t_len t_end t_met ++ R))) [.ref (V 0), .ref (Z2 0), .int nn, .int w] (sX8_cheapestCalm nn w f kv mv f2 kv2 mv2) (fun u => some (.int u.1)) (fun u => landW Z cK u.2.1 u.2.2.1 u.2.2.2 ++ (landW Z2 cK f2 kv2 mv2 ++ (trW V Z cI t_len t_end t_met ++ R))) := by
  refine mx_intro (cc := cX8_cheapestCalm) (maxL := 10) (ret := (some .int)) (by decide) rfl (Nat.le_of_ble_eq_true rfl) ?_
  intro p e s m below meth c A ls H locs Qm hQm hx hb hr hml hts hown hlocks hA hS hP hK hD hF hl
  have hown : s.vm.findClass RX8 = some m.cls := hown
  have hl : lv_has ls 10 [(0, .ref (V 0)), (1, .ref (Z2 0)), (2, .int nn), (3, .int w)] := hl
  have k22 := hts (.constant RX8 22 (-1000000)) (by decide +kernel)
  have k12 := hts (.fieldLink RX8 12 "PigRounds$Trials" "trial" "LPigRounds$Land;") (by decide +kernel)
  have k68 := hts (.fieldLink RX8 68 "PigRounds$Land" "ministry" "LPigRounds$Ministry;") (by decide +kernel)
  have k72 := hts (.fieldLink RX8 72 "PigRounds$Ministry" "cost" "I") (by decide +kernel)
  have iX2 : ∀ w ∈ u_ws RX2 TX2 12, w ∈ wsX8_cheapestCalm := by decide +kernel
  have iX3 : ∀ w ∈ u_ws RX3 TX3 5, w ∈ wsX8_cheapestCalm := by decide +kernel
  have iX8 : ∀ w ∈ u_ws RX8 TX8 4, w ∈ wsX8_cheapestCalm := by decide +kernel
  refine lv_ldc (v := (-1000000)) hx hb hown k22 dX8_cheapestCalm_0 ?_
  refine lv_istore (lv' := [(4, .int (-1000000)), (0, .ref (V 0)), (1, .ref (Z2 0)), (2, .int nn), (3, .int w)]) hx hb dX8_cheapestCalm_2 hl (by decide) rfl (fun ls hl => ?_)
  refine lv_iconst (v := 0) hx hb dX8_cheapestCalm_4 (by decide) ?_
  refine lv_istore (lv' := [(5, .int 0), (4, .int (-1000000)), (0, .ref (V 0)), (1, .ref (Z2 0)), (2, .int nn), (3, .int w)]) hx hb dX8_cheapestCalm_5 hl (by decide) rfl (fun ls hl => ?_)
  refine lv_bipush (v := 10) hx hb dX8_cheapestCalm_7 (by decide) ?_
  refine lv_istore (lv' := [(6, .int 10), (5, .int 0), (4, .int (-1000000)), (0, .ref (V 0)), (1, .ref (Z2 0)), (2, .int nn), (3, .int w)]) hx hb dX8_cheapestCalm_9 hl (by decide) rfl (fun ls hl => ?_)
  have L_11 : ∀ (n : Nat) (x6_11 : Int32) (x5_11 : Int32) (x4_11 : Int32) (f_11 : Nat → Int32) (kv_11 : Nat → Nat → Int32) (mv_11 : Nat → Int32) (H : Heap) (locs : List Loc) (ls : Array Slot), 0 ≤ x6_11.toInt → x6_11.toInt ≤ 40 → (40 : Int) < x6_11.toInt + 10 * ((n : Nat) : Int) → va_P D vwCl (landW Z cK f_11 kv_11 mv_11 ++ (landW Z2 cK f2 kv2 mv2 ++ (trW V Z cI t_len t_end t_met ++ R))) H → va_D A (landW Z cK f_11 kv_11 mv_11 ++ (landW Z2 cK f2 kv2 mv2 ++ (trW V Z cI t_len t_end t_met ++ R))) → va_S A s.heap H locs → lv_has ls 10 [(6, .int x6_11), (5, .int x5_11), (4, .int x4_11), (0, .ref (V 0)), (1, .ref (Z2 0)), (2, .int nn), (3, .int w)] → (∀ (u : Int32 × Int32 × Int32 × (Nat → Int32) × (Nat → Nat → Int32) × (Nat → Int32)) (H : Heap) (locs : List Loc) (ls : Array Slot), u = lX8_cheapestCalm_11 nn w f2 kv2 mv2 n x6_11 x5_11 x4_11 f_11 kv_11 mv_11 → va_P D vwCl (landW Z cK u.2.2.2.1 u.2.2.2.2.1 u.2.2.2.2.2 ++ (landW Z2 cK f2 kv2 mv2 ++ (trW V Z cI t_len t_end t_met ++ R))) H → va_D A (landW Z cK u.2.2.2.1 u.2.2.2.2.1 u.2.2.2.2.2 ++ (landW Z2 cK f2 kv2 mv2 ++ (trW V Z cI t_len t_end t_met ++ R))) → va_S A s.heap H locs → lv_has ls 10 [(4, .int u.2.2.1)] → W p l e (rmX 6) s m ([.ref (V 0), .ref (Z2 0), .int nn, .int w] : List Value).toArray below meth c H locs 0 0 Qm (F0 m 135 ls [])) → W p l e (rmX 6) s m ([.ref (V 0), .ref (Z2 0), .int nn, .int w] : List Value).toArray below meth c H locs 0 0 Qm (F0 m 11 ls []) := by
    intro n
    induction n with
    | zero =>
      intro x6_11 x5_11 x4_11 f_11 kv_11 mv_11 H locs ls iv_11_0 iv_11_1 iv_11_2 hP hD hS hl kont_11
      exfalso; omega
    | succ n ih_11 =>
      intro x6_11 x5_11 x4_11 f_11 kv_11 mv_11 H locs ls iv_11_0 iv_11_1 iv_11_2 hP hD hS hl kont_11
      refine lv_iload hx hb dX8_cheapestCalm_11 (lv_at hl 0 rfl) ?_
      refine lv_bipush (v := 30) hx hb dX8_cheapestCalm_13 (by decide) ?_
      refine lv_icmp_gt (tgt := 135) hx hb dX8_cheapestCalm_15 (by decide) (fun c_1 => ?_) (fun c_1 => ?_)
      · have d_1 := i_lt (show (30 : Int32).toInt = 30 from by decide) rfl c_1
        exact kont_11 (x6_11, x5_11, x4_11, f_11, kv_11, mv_11) H locs ls (show lX8_cheapestCalm_11 nn w f2 kv2 mv2 (n + 1) x6_11 x5_11 x4_11 f_11 kv_11 mv_11 = (x6_11, x5_11, x4_11, f_11, kv_11, mv_11) from ((if_pos c_1).trans rfl)).symm  hP hD hS (lv_sub hl [2] rfl)
      · have d_1 := i_ltn (show (30 : Int32).toInt = 30 from by decide) rfl c_1
        refine lv_iconst (v := 5) hx hb dX8_cheapestCalm_18 (by decide) ?_
        refine lv_istore (lv' := [(7, .int 5), (6, .int x6_11), (5, .int x5_11), (4, .int x4_11), (0, .ref (V 0)), (1, .ref (Z2 0)), (2, .int nn), (3, .int w)]) hx hb dX8_cheapestCalm_19 hl (by decide) rfl (fun ls hl => ?_)
        have L_21 : ∀ (n : Nat) (x7_21 : Int32) (x5_21 : Int32) (x4_21 : Int32) (f_21 : Nat → Int32) (kv_21 : Nat → Nat → Int32) (mv_21 : Nat → Int32) (H : Heap) (locs : List Loc) (ls : Array Slot), 0 ≤ x7_21.toInt → x7_21.toInt ≤ 55 → (55 : Int) < x7_21.toInt + 5 * ((n : Nat) : Int) → va_P D vwCl (landW Z cK f_21 kv_21 mv_21 ++ (landW Z2 cK f2 kv2 mv2 ++ (trW V Z cI t_len t_end t_met ++ R))) H → va_D A (landW Z cK f_21 kv_21 mv_21 ++ (landW Z2 cK f2 kv2 mv2 ++ (trW V Z cI t_len t_end t_met ++ R))) → va_S A s.heap H locs → lv_has ls 10 [(7, .int x7_21), (6, .int x6_11), (5, .int x5_21), (4, .int x4_21), (0, .ref (V 0)), (1, .ref (Z2 0)), (2, .int nn), (3, .int w)] → (∀ (u : Int32 × Int32 × Int32 × (Nat → Int32) × (Nat → Nat → Int32) × (Nat → Int32)) (H : Heap) (locs : List Loc) (ls : Array Slot), u = lX8_cheapestCalm_21 nn w f2 kv2 mv2 x6_11 n x7_21 x5_21 x4_21 f_21 kv_21 mv_21 → va_P D vwCl (landW Z cK u.2.2.2.1 u.2.2.2.2.1 u.2.2.2.2.2 ++ (landW Z2 cK f2 kv2 mv2 ++ (trW V Z cI t_len t_end t_met ++ R))) H → va_D A (landW Z cK u.2.2.2.1 u.2.2.2.2.1 u.2.2.2.2.2 ++ (landW Z2 cK f2 kv2 mv2 ++ (trW V Z cI t_len t_end t_met ++ R))) → va_S A s.heap H locs → lv_has ls 10 [(6, .int x6_11), (5, .int u.2.1), (4, .int u.2.2.1), (0, .ref (V 0)), (1, .ref (Z2 0)), (2, .int nn), (3, .int w)] → W p l e (rmX 6) s m ([.ref (V 0), .ref (Z2 0), .int nn, .int w] : List Value).toArray below meth c H locs 0 0 Qm (F0 m 129 ls [])) → W p l e (rmX 6) s m ([.ref (V 0), .ref (Z2 0), .int nn, .int w] : List Value).toArray below meth c H locs 0 0 Qm (F0 m 21 ls []) := by
          intro n
          induction n with
          | zero =>
            intro x7_21 x5_21 x4_21 f_21 kv_21 mv_21 H locs ls iv_21_0 iv_21_1 iv_21_2 hP hD hS hl kont_21
            exfalso; omega
          | succ n ih_21 =>
            intro x7_21 x5_21 x4_21 f_21 kv_21 mv_21 H locs ls iv_21_0 iv_21_1 iv_21_2 hP hD hS hl kont_21
            refine lv_iload hx hb dX8_cheapestCalm_21 (lv_at hl 0 rfl) ?_
            refine lv_bipush (v := 50) hx hb dX8_cheapestCalm_23 (by decide) ?_
            refine lv_icmp_gt (tgt := 129) hx hb dX8_cheapestCalm_25 (by decide) (fun c_2 => ?_) (fun c_2 => ?_)
            · have d_2 := i_lt (show (50 : Int32).toInt = 50 from by decide) rfl c_2
              exact kont_21 (x7_21, x5_21, x4_21, f_21, kv_21, mv_21) H locs ls (show lX8_cheapestCalm_21 nn w f2 kv2 mv2 x6_11 (n + 1) x7_21 x5_21 x4_21 f_21 kv_21 mv_21 = (x7_21, x5_21, x4_21, f_21, kv_21, mv_21) from ((if_pos c_2).trans rfl)).symm  hP hD hS (lv_sub hl [1, 2, 3, 4, 5, 6, 7] rfl)
            · have d_2 := i_ltn (show (50 : Int32).toInt = 50 from by decide) rfl c_2
              refine lv_iconst (v := 0) hx hb dX8_cheapestCalm_28 (by decide) ?_
              refine lv_istore (lv' := [(8, .int 0), (7, .int x7_21), (6, .int x6_11), (5, .int x5_21), (4, .int x4_21), (0, .ref (V 0)), (1, .ref (Z2 0)), (2, .int nn), (3, .int w)]) hx hb dX8_cheapestCalm_29 hl (by decide) rfl (fun ls hl => ?_)
              have L_31 : ∀ (n : Nat) (x8_31 : Int32) (x5_31 : Int32) (x4_31 : Int32) (f_31 : Nat → Int32) (kv_31 : Nat → Nat → Int32) (mv_31 : Nat → Int32) (H : Heap) (locs : List Loc) (ls : Array Slot), 0 ≤ x8_31.toInt → x8_31.toInt ≤ 60 → (60 : Int) < x8_31.toInt + 5 * ((n : Nat) : Int) → va_P D vwCl (landW Z cK f_31 kv_31 mv_31 ++ (landW Z2 cK f2 kv2 mv2 ++ (trW V Z cI t_len t_end t_met ++ R))) H → va_D A (landW Z cK f_31 kv_31 mv_31 ++ (landW Z2 cK f2 kv2 mv2 ++ (trW V Z cI t_len t_end t_met ++ R))) → va_S A s.heap H locs → lv_has ls 10 [(8, .int x8_31), (7, .int x7_21), (6, .int x6_11), (5, .int x5_31), (4, .int x4_31), (0, .ref (V 0)), (1, .ref (Z2 0)), (2, .int nn), (3, .int w)] → (∀ (u : Int32 × Int32 × Int32 × (Nat → Int32) × (Nat → Nat → Int32) × (Nat → Int32)) (H : Heap) (locs : List Loc) (ls : Array Slot), u = lX8_cheapestCalm_31 nn w f2 kv2 mv2 x6_11 x7_21 n x8_31 x5_31 x4_31 f_31 kv_31 mv_31 → va_P D vwCl (landW Z cK u.2.2.2.1 u.2.2.2.2.1 u.2.2.2.2.2 ++ (landW Z2 cK f2 kv2 mv2 ++ (trW V Z cI t_len t_end t_met ++ R))) H → va_D A (landW Z cK u.2.2.2.1 u.2.2.2.2.1 u.2.2.2.2.2 ++ (landW Z2 cK f2 kv2 mv2 ++ (trW V Z cI t_len t_end t_met ++ R))) → va_S A s.heap H locs → lv_has ls 10 [(7, .int x7_21), (6, .int x6_11), (5, .int u.2.1), (4, .int u.2.2.1), (0, .ref (V 0)), (1, .ref (Z2 0)), (2, .int nn), (3, .int w)] → W p l e (rmX 6) s m ([.ref (V 0), .ref (Z2 0), .int nn, .int w] : List Value).toArray below meth c H locs 0 0 Qm (F0 m 123 ls [])) → W p l e (rmX 6) s m ([.ref (V 0), .ref (Z2 0), .int nn, .int w] : List Value).toArray below meth c H locs 0 0 Qm (F0 m 31 ls []) := by
                intro n
                induction n with
                | zero =>
                  intro x8_31 x5_31 x4_31 f_31 kv_31 mv_31 H locs ls iv_31_0 iv_31_1 iv_31_2 hP hD hS hl kont_31
                  exfalso; omega
                | succ n ih_31 =>
                  intro x8_31 x5_31 x4_31 f_31 kv_31 mv_31 H locs ls iv_31_0 iv_31_1 iv_31_2 hP hD hS hl kont_31
                  refine lv_iload hx hb dX8_cheapestCalm_31 (lv_at hl 0 rfl) ?_
                  refine lv_iload hx hb dX8_cheapestCalm_33 (lv_at hl 1 rfl) ?_
                  refine lv_icmp_ge (tgt := 123) hx hb dX8_cheapestCalm_35 (by decide) (fun c_3 => ?_) (fun c_3 => ?_)
                  · have d_3 := i_le rfl rfl c_3
                    exact kont_31 (x8_31, x5_31, x4_31, f_31, kv_31, mv_31) H locs ls (show lX8_cheapestCalm_31 nn w f2 kv2 mv2 x6_11 x7_21 (n + 1) x8_31 x5_31 x4_31 f_31 kv_31 mv_31 = (x8_31, x5_31, x4_31, f_31, kv_31, mv_31) from ((if_pos c_3).trans rfl)).symm  hP hD hS (lv_sub hl [1, 2, 3, 4, 5, 6, 7, 8] rfl)
                  · have d_3 := i_len rfl rfl c_3
                    refine lv_aload_n hx hb dX8_cheapestCalm_38 rfl (lv_at hl 5 rfl) ?_
                    refine lv_aload_n hx hb dX8_cheapestCalm_39 rfl (lv_at hl 6 rfl) ?_
                    refine lv_iload hx hb dX8_cheapestCalm_40 (lv_at hl 0 rfl) ?_
                    refine lv_iload hx hb dX8_cheapestCalm_42 (lv_at hl 1 rfl) ?_
                    refine lv_iload hx hb dX8_cheapestCalm_44 (lv_at hl 2 rfl) ?_
                    refine lv_iload_n hx hb dX8_cheapestCalm_46 rfl (lv_at hl 7 rfl) ?_
                    refine mx_callV (As := [.ref (Z2 0), .int x8_31, .int x7_21, .int x6_11, .int nn]) (rest := []) ⟨hx, hb, hml, hown, hts⟩ (mtX8_spreadUnder l D cI cB cK cS Z Z2 V R f_31 kv_31 mv_31 f2 kv2 mv2 t_len t_end t_met x8_31 x7_21 x6_11 nn (by first | assumption | omega) (by first | assumption | omega)) (cwV 5 hts gX8_cheapestCalm_X8_spreadUnder rfl rfl rfl (by decide +kernel) ⟨Nat.le_of_ble_eq_true rfl, Nat.le_of_ble_eq_true rfl⟩) pF0_ok trivial hK hP hD hS hA 16 rfl rfl rfl rfl hl.1 rfl (Nat.le_of_ble_eq_true rfl) dX8_cheapestCalm_47 ⟨Nat.le_refl _, Nat.le_refl _⟩ (fun u_4 H locs eu_4 hP hD hS => ?_)
                    refine W.eq (g2 := F0 m 50 ls [.int u_4.1]) rfl ?_
                    have hP : va_P D vwCl (landW Z cK u_4.2.1 u_4.2.2.1 u_4.2.2.2 ++ (landW Z2 cK f2 kv2 mv2 ++ (trW V Z cI t_len t_end t_met ++ R))) H := hP
                    have hD : va_D A (landW Z cK u_4.2.1 u_4.2.2.1 u_4.2.2.2 ++ (landW Z2 cK f2 kv2 mv2 ++ (trW V Z cI t_len t_end t_met ++ R))) := hD
                    refine lv_iload_n hx hb dX8_cheapestCalm_50 rfl (lv_at hl 8 rfl) ?_
                    have J_5 : ∀ (y_5 : Int32) (H : Heap) (locs : List Loc) (ls : Array Slot), y_5 = (if w < u_4.1 then (0) else (1)) → va_P D vwCl (landW Z cK u_4.2.1 u_4.2.2.1 u_4.2.2.2 ++ (landW Z2 cK f2 kv2 mv2 ++ (trW V Z cI t_len t_end t_met ++ R))) H → va_D A (landW Z cK u_4.2.1 u_4.2.2.1 u_4.2.2.2 ++ (landW Z2 cK f2 kv2 mv2 ++ (trW V Z cI t_len t_end t_met ++ R))) → va_S A s.heap H locs → lv_has ls 10 [(8, .int x8_31), (7, .int x7_21), (6, .int x6_11), (5, .int x5_31), (4, .int x4_31), (0, .ref (V 0)), (1, .ref (Z2 0)), (2, .int nn), (3, .int w)] → W p l e (rmX 6) s m ([.ref (V 0), .ref (Z2 0), .int nn, .int w] : List Value).toArray below meth c H locs 0 0 Qm (F0 m 59 ls [.int y_5]) := by
                      intro y_5 H locs ls ey_5 hP hD hS hl
                      refine lv_istore (lv' := [(9, .int y_5), (8, .int x8_31), (7, .int x7_21), (6, .int x6_11), (5, .int x5_31), (4, .int x4_31), (0, .ref (V 0)), (1, .ref (Z2 0)), (2, .int nn), (3, .int w)]) hx hb dX8_cheapestCalm_59 hl (by decide) rfl (fun ls hl => ?_)
                      refine lv_iload hx hb dX8_cheapestCalm_61 (lv_at hl 0 rfl) ?_
                      have J_7 : ∀ (y_7 : Int32 × Int32) (H : Heap) (locs : List Loc) (ls : Array Slot), y_7 = (if y_5 = 0 then ((x5_31, x4_31)) else (if x4_31 = (-1000000) then (lt (((10000 * x6_11) + (100 * x7_21)) + x8_31) (fun x_10 : Int32 => ((u_4.2.2.2 4), x_10))) else (if x5_31 ≤ (u_4.2.2.2 4) then ((x5_31, x4_31)) else (lt (((10000 * x6_11) + (100 * x7_21)) + x8_31) (fun x_12 : Int32 => ((u_4.2.2.2 4), x_12)))))) → va_P D vwCl (landW Z cK u_4.2.1 u_4.2.2.1 u_4.2.2.2 ++ (landW Z2 cK f2 kv2 mv2 ++ (trW V Z cI t_len t_end t_met ++ R))) H → va_D A (landW Z cK u_4.2.1 u_4.2.2.1 u_4.2.2.2 ++ (landW Z2 cK f2 kv2 mv2 ++ (trW V Z cI t_len t_end t_met ++ R))) → va_S A s.heap H locs → lv_has ls 10 [(8, .int x8_31), (7, .int x7_21), (6, .int x6_11), (5, .int y_7.1), (4, .int y_7.2), (0, .ref (V 0)), (1, .ref (Z2 0)), (2, .int nn), (3, .int w)] → W p l e (rmX 6) s m ([.ref (V 0), .ref (Z2 0), .int nn, .int w] : List Value).toArray below meth c H locs 0 0 Qm (F0 m 117 ls []) := by
                        intro y_7 H locs ls ey_7 hP hD hS hl
                        obtain ⟨x_13, ex_13⟩ : ∃ z : Int32, z = x8_31 + 5 := ⟨_, rfl⟩
                        refine lv_iinc (v := x_13) (lv' := [(8, .int x_13), (7, .int x7_21), (6, .int x6_11), (5, .int y_7.1), (4, .int y_7.2), (0, .ref (V 0)), (1, .ref (Z2 0)), (2, .int nn), (3, .int w)]) hx hb dX8_cheapestCalm_117 hl (k := 0) rfl (by rw [ex_13]; rfl) (by decide) rfl (fun ls hl => ?_)
                        refine lv_goto (tgt := 31) hx hb dX8_cheapestCalm_120 (by decide) ?_
                        try have tx_13 : x_13.toInt = x8_31.toInt + 5 := i_inc ex_13 (by decide) (by omega) (by omega)
                        refine ih_31 x_13 y_7.1 y_7.2 u_4.2.1 u_4.2.2.1 u_4.2.2.2 H locs ls (by first | omega | assumption) (by first | omega | assumption) (by first | omega | assumption) hP hD hS (lv_sub hl [0, 1, 2, 3, 4, 5, 6, 7, 8] rfl) (fun u H locs ls eu  hP hD hS hl => ?_)
                        exact kont_31 u H locs ls (eu.trans (show lX8_cheapestCalm_31 nn w f2 kv2 mv2 x6_11 x7_21 (n + 1) x8_31 x5_31 x4_31 f_31 kv_31 mv_31 = lX8_cheapestCalm_31 nn w f2 kv2 mv2 x6_11 x7_21 n x_13 y_7.1 y_7.2 u_4.2.1 u_4.2.2.1 u_4.2.2.2 from ((if_neg c_3).trans (lt_eq eu_4 (lt_eq ey_5 (lt_eq ey_7 (lt_eq ex_13 rfl)))))).symm)  hP hD hS hl
                      refine lv_if_eq (tgt := 117) hx hb dX8_cheapestCalm_63 (by decide) (fun c_8 => ?_) (fun c_8 => ?_)
                      · have d_8 := i_eq rfl (show (0 : Int32).toInt = 0 from by decide) c_8
                        exact J_7 (x5_31, x4_31) H locs ls (Eq.symm ((if_pos c_8).trans rfl)) hP hD hS (lv_sub hl [1, 2, 3, 4, 5, 6, 7, 8, 9] rfl)
                      · have d_8 := i_eqn rfl (show (0 : Int32).toInt = 0 from by decide) c_8
                        refine lv_iload hx hb dX8_cheapestCalm_66 (lv_at hl 5 rfl) ?_
                        refine lv_ldc (v := (-1000000)) hx hb hown k22 dX8_cheapestCalm_68 ?_
                        refine lv_icmp_eq (tgt := 88) hx hb dX8_cheapestCalm_70 (by decide) (fun c_9 => ?_) (fun c_9 => ?_)
                        · have d_9 := i_eq rfl (show ((-1000000) : Int32).toInt = (-1000000) from by decide) c_9
                          refine lv_sipush (v := 10000) hx hb dX8_cheapestCalm_88 (by decide) ?_
                          refine lv_iload hx hb dX8_cheapestCalm_91 (lv_at hl 3 rfl) ?_
                          refine lv_imul hx hb dX8_cheapestCalm_93 ?_
                          refine lv_bipush (v := 100) hx hb dX8_cheapestCalm_94 (by decide) ?_
                          refine lv_iload hx hb dX8_cheapestCalm_96 (lv_at hl 2 rfl) ?_
                          refine lv_imul hx hb dX8_cheapestCalm_98 ?_
                          refine lv_iadd hx hb dX8_cheapestCalm_99 ?_
                          refine lv_iload hx hb dX8_cheapestCalm_100 (lv_at hl 1 rfl) ?_
                          refine lv_iadd hx hb dX8_cheapestCalm_102 ?_
                          refine lv_topi (fun x_10 ex_10 => ?_)
                          refine lv_istore (lv' := [(4, .int x_10), (9, .int y_5), (8, .int x8_31), (7, .int x7_21), (6, .int x6_11), (5, .int x5_31), (0, .ref (V 0)), (1, .ref (Z2 0)), (2, .int nn), (3, .int w)]) hx hb dX8_cheapestCalm_103 hl (by decide) rfl (fun ls hl => ?_)
                          refine lv_aload_n hx hb dX8_cheapestCalm_105 rfl (lv_at hl 6 rfl) ?_
                          refine va_get (D := D) (ci := 7) (v := .ref (Z 0)) (C := RX8) (T := TX8) (N := 4) hx hb hts iX8 hown hK hP 16 rfl rfl 0 (by decide) k12 (fun _ h9 => h9) rfl dX8_cheapestCalm_106 ?_
                          refine va_get (D := D) (ci := 2) (v := .ref (Z 2)) (C := RX2) (T := TX2) (N := 12) hx hb hts iX2 hown hK hP 5 rfl rfl 1 (by decide) k68 (fun _ h9 => h9) rfl dX8_cheapestCalm_109 ?_
                          refine va_get (D := D) (ci := 3) (v := .int (u_4.2.2.2 4)) (C := RX3) (T := TX3) (N := 5) hx hb hts iX3 hown hK hP 7 rfl rfl 4 (by decide) k72 (fun _ h9 => h9) rfl dX8_cheapestCalm_112 ?_
                          refine lv_istore (lv' := [(5, .int (u_4.2.2.2 4)), (4, .int x_10), (9, .int y_5), (8, .int x8_31), (7, .int x7_21), (6, .int x6_11), (0, .ref (V 0)), (1, .ref (Z2 0)), (2, .int nn), (3, .int w)]) hx hb dX8_cheapestCalm_115 hl (by decide) rfl (fun ls hl => ?_)
                          exact J_7 ((u_4.2.2.2 4), x_10) H locs ls (Eq.symm ((if_neg c_8).trans ((if_pos c_9).trans (lt_eq ex_10 rfl)))) hP hD hS (lv_sub hl [3, 4, 5, 0, 1, 6, 7, 8, 9] rfl)
                        · have d_9 := i_eqn rfl (show ((-1000000) : Int32).toInt = (-1000000) from by decide) c_9
                          refine lv_aload_n hx hb dX8_cheapestCalm_73 rfl (lv_at hl 6 rfl) ?_
                          refine va_get (D := D) (ci := 7) (v := .ref (Z 0)) (C := RX8) (T := TX8) (N := 4) hx hb hts iX8 hown hK hP 16 rfl rfl 0 (by decide) k12 (fun _ h9 => h9) rfl dX8_cheapestCalm_74 ?_
                          refine va_get (D := D) (ci := 2) (v := .ref (Z 2)) (C := RX2) (T := TX2) (N := 12) hx hb hts iX2 hown hK hP 5 rfl rfl 1 (by decide) k68 (fun _ h9 => h9) rfl dX8_cheapestCalm_77 ?_
                          refine va_get (D := D) (ci := 3) (v := .int (u_4.2.2.2 4)) (C := RX3) (T := TX3) (N := 5) hx hb hts iX3 hown hK hP 7 rfl rfl 4 (by decide) k72 (fun _ h9 => h9) rfl dX8_cheapestCalm_80 ?_
                          refine lv_iload hx hb dX8_cheapestCalm_83 (lv_at hl 4 rfl) ?_
                          refine lv_icmp_ge (tgt := 117) hx hb dX8_cheapestCalm_85 (by decide) (fun c_11 => ?_) (fun c_11 => ?_)
                          · have d_11 := i_le rfl rfl c_11
                            exact J_7 (x5_31, x4_31) H locs ls (Eq.symm ((if_neg c_8).trans ((if_neg c_9).trans ((if_pos c_11).trans rfl)))) hP hD hS (lv_sub hl [1, 2, 3, 4, 5, 6, 7, 8, 9] rfl)
                          · have d_11 := i_len rfl rfl c_11
                            refine lv_sipush (v := 10000) hx hb dX8_cheapestCalm_88 (by decide) ?_
                            refine lv_iload hx hb dX8_cheapestCalm_91 (lv_at hl 3 rfl) ?_
                            refine lv_imul hx hb dX8_cheapestCalm_93 ?_
                            refine lv_bipush (v := 100) hx hb dX8_cheapestCalm_94 (by decide) ?_
                            refine lv_iload hx hb dX8_cheapestCalm_96 (lv_at hl 2 rfl) ?_
                            refine lv_imul hx hb dX8_cheapestCalm_98 ?_
                            refine lv_iadd hx hb dX8_cheapestCalm_99 ?_
                            refine lv_iload hx hb dX8_cheapestCalm_100 (lv_at hl 1 rfl) ?_
                            refine lv_iadd hx hb dX8_cheapestCalm_102 ?_
                            refine lv_topi (fun x_12 ex_12 => ?_)
                            refine lv_istore (lv' := [(4, .int x_12), (9, .int y_5), (8, .int x8_31), (7, .int x7_21), (6, .int x6_11), (5, .int x5_31), (0, .ref (V 0)), (1, .ref (Z2 0)), (2, .int nn), (3, .int w)]) hx hb dX8_cheapestCalm_103 hl (by decide) rfl (fun ls hl => ?_)
                            refine lv_aload_n hx hb dX8_cheapestCalm_105 rfl (lv_at hl 6 rfl) ?_
                            refine va_get (D := D) (ci := 7) (v := .ref (Z 0)) (C := RX8) (T := TX8) (N := 4) hx hb hts iX8 hown hK hP 16 rfl rfl 0 (by decide) k12 (fun _ h9 => h9) rfl dX8_cheapestCalm_106 ?_
                            refine va_get (D := D) (ci := 2) (v := .ref (Z 2)) (C := RX2) (T := TX2) (N := 12) hx hb hts iX2 hown hK hP 5 rfl rfl 1 (by decide) k68 (fun _ h9 => h9) rfl dX8_cheapestCalm_109 ?_
                            refine va_get (D := D) (ci := 3) (v := .int (u_4.2.2.2 4)) (C := RX3) (T := TX3) (N := 5) hx hb hts iX3 hown hK hP 7 rfl rfl 4 (by decide) k72 (fun _ h9 => h9) rfl dX8_cheapestCalm_112 ?_
                            refine lv_istore (lv' := [(5, .int (u_4.2.2.2 4)), (4, .int x_12), (9, .int y_5), (8, .int x8_31), (7, .int x7_21), (6, .int x6_11), (0, .ref (V 0)), (1, .ref (Z2 0)), (2, .int nn), (3, .int w)]) hx hb dX8_cheapestCalm_115 hl (by decide) rfl (fun ls hl => ?_)
                            exact J_7 ((u_4.2.2.2 4), x_12) H locs ls (Eq.symm ((if_neg c_8).trans ((if_neg c_9).trans ((if_neg c_11).trans (lt_eq ex_12 rfl))))) hP hD hS (lv_sub hl [3, 4, 5, 0, 1, 6, 7, 8, 9] rfl)
                    refine lv_icmp_gt (tgt := 58) hx hb dX8_cheapestCalm_51 (by decide) (fun c_6 => ?_) (fun c_6 => ?_)
                    · have d_6 := i_lt rfl rfl c_6
                      refine lv_iconst (v := 0) hx hb dX8_cheapestCalm_58 (by decide) ?_
                      exact J_5 0 H locs ls (Eq.symm ((if_pos c_6).trans rfl)) hP hD hS (lv_sub hl [0, 1, 2, 3, 4, 5, 6, 7, 8] rfl)
                    · have d_6 := i_ltn rfl rfl c_6
                      refine lv_iconst (v := 1) hx hb dX8_cheapestCalm_54 (by decide) ?_
                      refine lv_goto (tgt := 59) hx hb dX8_cheapestCalm_55 (by decide) ?_
                      exact J_5 1 H locs ls (Eq.symm ((if_neg c_6).trans rfl)) hP hD hS (lv_sub hl [0, 1, 2, 3, 4, 5, 6, 7, 8] rfl)
              refine L_31 13 0 x5_21 x4_21 f_21 kv_21 mv_21 H locs ls (by decide) (by decide) (by decide) hP hD hS (lv_sub hl [0, 1, 2, 3, 4, 5, 6, 7, 8] rfl) (fun u_14 H locs ls eu_14  hP hD hS hl => ?_)
              have hP : va_P D vwCl (landW Z cK u_14.2.2.2.1 u_14.2.2.2.2.1 u_14.2.2.2.2.2 ++ (landW Z2 cK f2 kv2 mv2 ++ (trW V Z cI t_len t_end t_met ++ R))) H := hP
              have hD : va_D A (landW Z cK u_14.2.2.2.1 u_14.2.2.2.2.1 u_14.2.2.2.2.2 ++ (landW Z2 cK f2 kv2 mv2 ++ (trW V Z cI t_len t_end t_met ++ R))) := hD
              obtain ⟨x_15, ex_15⟩ : ∃ z : Int32, z = x7_21 + 5 := ⟨_, rfl⟩
              refine lv_iinc (v := x_15) (lv' := [(7, .int x_15), (6, .int x6_11), (5, .int u_14.2.1), (4, .int u_14.2.2.1), (0, .ref (V 0)), (1, .ref (Z2 0)), (2, .int nn), (3, .int w)]) hx hb dX8_cheapestCalm_123 hl (k := 0) rfl (by rw [ex_15]; rfl) (by decide) rfl (fun ls hl => ?_)
              refine lv_goto (tgt := 21) hx hb dX8_cheapestCalm_126 (by decide) ?_
              try have tx_15 : x_15.toInt = x7_21.toInt + 5 := i_inc ex_15 (by decide) (by omega) (by omega)
              refine ih_21 x_15 u_14.2.1 u_14.2.2.1 u_14.2.2.2.1 u_14.2.2.2.2.1 u_14.2.2.2.2.2 H locs ls (by first | omega | assumption) (by first | omega | assumption) (by first | omega | assumption) hP hD hS (lv_sub hl [0, 1, 2, 3, 4, 5, 6, 7] rfl) (fun u H locs ls eu  hP hD hS hl => ?_)
              exact kont_21 u H locs ls (eu.trans (show lX8_cheapestCalm_21 nn w f2 kv2 mv2 x6_11 (n + 1) x7_21 x5_21 x4_21 f_21 kv_21 mv_21 = lX8_cheapestCalm_21 nn w f2 kv2 mv2 x6_11 n x_15 u_14.2.1 u_14.2.2.1 u_14.2.2.2.1 u_14.2.2.2.2.1 u_14.2.2.2.2.2 from ((if_neg c_2).trans (lt_eq eu_14 (lt_eq ex_15 rfl)))).symm)  hP hD hS hl
        refine L_21 11 5 x5_11 x4_11 f_11 kv_11 mv_11 H locs ls (by decide) (by decide) (by decide) hP hD hS (lv_sub hl [0, 1, 2, 3, 4, 5, 6, 7] rfl) (fun u_16 H locs ls eu_16  hP hD hS hl => ?_)
        have hP : va_P D vwCl (landW Z cK u_16.2.2.2.1 u_16.2.2.2.2.1 u_16.2.2.2.2.2 ++ (landW Z2 cK f2 kv2 mv2 ++ (trW V Z cI t_len t_end t_met ++ R))) H := hP
        have hD : va_D A (landW Z cK u_16.2.2.2.1 u_16.2.2.2.2.1 u_16.2.2.2.2.2 ++ (landW Z2 cK f2 kv2 mv2 ++ (trW V Z cI t_len t_end t_met ++ R))) := hD
        obtain ⟨x_17, ex_17⟩ : ∃ z : Int32, z = x6_11 + 10 := ⟨_, rfl⟩
        refine lv_iinc (v := x_17) (lv' := [(6, .int x_17), (5, .int u_16.2.1), (4, .int u_16.2.2.1), (0, .ref (V 0)), (1, .ref (Z2 0)), (2, .int nn), (3, .int w)]) hx hb dX8_cheapestCalm_129 hl (k := 0) rfl (by rw [ex_17]; rfl) (by decide) rfl (fun ls hl => ?_)
        refine lv_goto (tgt := 11) hx hb dX8_cheapestCalm_132 (by decide) ?_
        try have tx_17 : x_17.toInt = x6_11.toInt + 10 := i_inc ex_17 (by decide) (by omega) (by omega)
        refine ih_11 x_17 u_16.2.1 u_16.2.2.1 u_16.2.2.2.1 u_16.2.2.2.2.1 u_16.2.2.2.2.2 H locs ls (by first | omega | assumption) (by first | omega | assumption) (by first | omega | assumption) hP hD hS (lv_sub hl [0, 1, 2, 3, 4, 5, 6] rfl) (fun u H locs ls eu  hP hD hS hl => ?_)
        exact kont_11 u H locs ls (eu.trans (show lX8_cheapestCalm_11 nn w f2 kv2 mv2 (n + 1) x6_11 x5_11 x4_11 f_11 kv_11 mv_11 = lX8_cheapestCalm_11 nn w f2 kv2 mv2 n x_17 u_16.2.1 u_16.2.2.1 u_16.2.2.2.1 u_16.2.2.2.2.1 u_16.2.2.2.2.2 from ((if_neg c_1).trans (lt_eq eu_16 (lt_eq ex_17 rfl)))).symm)  hP hD hS hl
  refine L_11 4 10 0 (-1000000) f kv mv H locs ls (by decide) (by decide) (by decide) hP hD hS (lv_sub hl [0, 1, 2, 3, 4, 5, 6] rfl) (fun u_18 H locs ls eu_18  hP hD hS hl => ?_)
  have hP : va_P D vwCl (landW Z cK u_18.2.2.2.1 u_18.2.2.2.2.1 u_18.2.2.2.2.2 ++ (landW Z2 cK f2 kv2 mv2 ++ (trW V Z cI t_len t_end t_met ++ R))) H := hP
  have hD : va_D A (landW Z cK u_18.2.2.2.1 u_18.2.2.2.2.1 u_18.2.2.2.2.2 ++ (landW Z2 cK f2 kv2 mv2 ++ (trW V Z cI t_len t_end t_met ++ R))) := hD
  refine lv_iload hx hb dX8_cheapestCalm_135 (lv_at hl 0 rfl) ?_
  rw [hQm]
  exact mx_iret (u0 := sX8_cheapestCalm nn w f kv mv f2 kv2 mv2) (rv := (fun u => some (.int u.1))) (w1 := (fun u => landW Z cK u.2.1 u.2.2.1 u.2.2.2 ++ (landW Z2 cK f2 kv2 mv2 ++ (trW V Z cI t_len t_end t_met ++ R)))) (u := (u_18.2.2.1, u_18.2.2.2.1, u_18.2.2.2.2.1, u_18.2.2.2.2.2)) hx hb hr hlocks hK hS (lt_eq eu_18 rfl) hP hD rfl dX8_cheapestCalm_137
