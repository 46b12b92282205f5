/-! what nobody writes: the class's own rows of numbers, the words of the text -/
def tbL : Nat → List Int32 := fun k => match k with
  | 0 => [-1, 0, 1, 1, 3, 0, 5]
  | 1 => [10, 11, 0, 12, 13, 0, 14]
  | 2 => [20, 0, 21, 0, 0, 22, 23]
  | 3 => [1, 1, 0]
  | 4 => [99, 20, 20]
  | 5 => [0, 0, 0]
  | 6 => [99, 99, 99]
  | 7 => [1, 0, 0, 0, 0]
  | _ => [40, 9, 20, 99, 999]
def tbN (k : Nat) : Nat := (tbL k).length
def tbF (k j : Nat) : Int32 := (tbL k).getD j 0
def tbC : Nat → String × String := fun k => match k with
  | 0 => ("PigRounds$Way", "IS_ALSO")
  | 1 => ("PigRounds$Asker", "SIZE_BODIES")
  | 2 => ("PigRounds$Asker", "MARK_BODIES")
  | 3 => ("PigRounds$Reader", "LEAST_OF_MARKET")
  | 4 => ("PigRounds$Reader", "MOST_OF_MARKET")
  | 5 => ("PigRounds$Reader", "LEAST_OF_START")
  | 6 => ("PigRounds$Reader", "MOST_OF_START")
  | 7 => ("PigRounds$Reader", "LEAST_OF_KIND")
  | _ => ("PigRounds$Reader", "MOST_OF_KIND")
def wdT : Nat → Nat × String := fun k => match k with
  | 0 => (53, "market")
  | 1 => (78, "start")
  | 2 => (97, "kind")
  | 3 => (151, "last")
  | 4 => (155, "mean")
  | 5 => (157, "trend")
  | 6 => (159, "contrary")
  | 7 => (161, "told")
  | _ => (163, "wise")
def wdB : List (List Int32) := [[109, 97, 114, 107, 101, 116], [115, 116, 97, 114, 116], [107, 105, 110, 100], [108, 97, 115, 116], [109, 101, 97, 110], [116, 114, 101, 110, 100], [99, 111, 110, 116, 114, 97, 114, 121], [116, 111, 108, 100], [119, 105, 115, 101]]
def wdN : List Nat := [6, 5, 4, 4, 4, 5, 8, 4, 4]
def pFs (t ks kb : Nat → Nat) : (Nat → Prop) → State → Prop := fun A U =>
  (∀ k, k < 9 → va_Z (tbC k).1 (tbC k).2 "[I" (.ref (t k)) A U U.heap ∧ va_T .int (t k) (tbN k) (fun j => .int (tbF k j)) A U U.heap) ∧ va_Z "java/lang/String" "COMPACT_STRINGS" "Z" (.int 1) A U U.heap ∧ va_Zq "jdk/internal/util/Preconditions" "SIOOBE_FORMATTER" "Ljava/util/function/BiFunction;" A U U.heap ∧ vk_S 9 wdN wdB ks kb A U U.heap ∧ ∀ i, i < 9 → vk_R "PigRounds$Reader" (wdT i).1 (wdT i).2 (ks i) U
theorem pFs_ok {t ks kb : Nat → Nat} : pF_ok (pFs t ks kb) := by
  refine ⟨?_, ?_⟩
  · intro A B s U hAB hW hk h
    obtain ⟨h1, h2, h3, h4, h5⟩ := h
    refine ⟨fun k hk9 => ⟨?_, ?_⟩, ?_, ?_, ?_, fun i hi => vk_R.warm hW (h5 i hi)⟩
    · exact ((va_Z.moved hW.alike (h1 k hk9).1).kept hk).narrow hAB
    · exact ((va_T.moved hW.alike (h1 k hk9).2).kept hk).narrow hAB
    · exact ((va_Z.moved hW.alike h2).kept hk).narrow hAB
    · exact ((va_Zq.moved hW.alike h3).kept hk).narrow hAB
    · exact ((vk_S.moved hW.alike h4).kept hk).narrow hAB
  · intro A u U hv hh h
    obtain ⟨h1, h2, h3, h4, h5⟩ := h
    have ha : u.vm.Alike U.vm := by rw [hv]; exact Vm.Alike.refl u.vm
    have hk : ∀ a : Nat, a < u.heap.size → ¬ A a → U.heap[a]? = u.heap[a]? := fun a _ _ => by rw [hh]
    refine ⟨fun k hk9 => ⟨?_, ?_⟩, ?_, ?_, ?_, fun i hi => vk_R.same hv (h5 i hi)⟩
    · exact (va_Z.moved ha (h1 k hk9).1).kept hk
    · exact (va_T.moved ha (h1 k hk9).2).kept hk
    · exact (va_Z.moved ha h2).kept hk
    · exact (va_Zq.moved ha h3).kept hk
    · exact (vk_S.moved ha h4).kept hk
def sX9_alsoOf (k : Int32) : Int32 := if k < 0 then (((-1))) else (if 7 ≤ k then (((-1))) else (((tbF 0 k.toNatClampNeg))))
set_option maxHeartbeats 4000000 in
set_option maxRecDepth 100000 in
theorem mtX9_alsoOf (l : Launch) (D : va_G) (cI cB cK cS : ClassId) (ws : va_W) (t ks kb : Nat → Nat)  (k : Int32) : MX l yX9_alsoOf wsX9_alsoOf (rmX 1) D (tyX cI cB cK cS) (pFs t ks kb) (ws) [.int k] (sX9_alsoOf k) (fun u => some (.int u)) (fun _ => ws) := by
  refine mx_intro (cc := cX9_alsoOf) (maxL := 1) (ret := (some .int)) (by decide) rfl (Nat.le_of_ble_eq_true rfl) ?_
  intro p e s m below meth c A ls H locs Qm hQm hx hb hr hml hts hown hlocks hA hS hP hK hD hF hl
  have hown : s.vm.findClass RX9 = some m.cls := hown
  have hl : lv_has ls 1 [(0, .int k)] := hl
  have k9 := hts (.fieldLink RX9 9 "PigRounds$Way" "IS_ALSO" "[I") (by decide +kernel)
  refine lv_iload_n hx hb dX9_alsoOf_0 rfl (lv_at hl 0 rfl) ?_
  refine lv_if_lt (tgt := 20) hx hb dX9_alsoOf_1 (by decide) (fun c_1 => ?_) (fun c_1 => ?_)
  · have d_1 := i_lt rfl (show (0 : Int32).toInt = 0 from by decide) c_1
    refine lv_iconst (v := (-1)) hx hb dX9_alsoOf_20 (by decide) ?_
    rw [hQm]
    exact mx_iret (u0 := sX9_alsoOf k) (rv := (fun u => some (.int u))) (w1 := (fun _ => ws)) (u := ((-1))) hx hb hr hlocks hK hS ((if_pos c_1).trans rfl) hP hD rfl dX9_alsoOf_21
  · have d_1 := i_ltn rfl (show (0 : Int32).toInt = 0 from by decide) c_1
    refine lv_iload_n hx hb dX9_alsoOf_4 rfl (lv_at hl 0 rfl) ?_
    refine va_gets (v := .ref (t 0)) hx hb (hF.1 0 (by decide)).1 hS hown k9 (fun _ h9 => h9) dX9_alsoOf_5 ?_
    refine va_tlen (v := 7) hx hb (hF.1 0 (by first | decide | assumption)).2 hS rfl dX9_alsoOf_8 ?_
    refine lv_icmp_ge (tgt := 20) hx hb dX9_alsoOf_9 (by decide) (fun c_2 => ?_) (fun c_2 => ?_)
    · have d_2 := i_le (show (7 : Int32).toInt = 7 from by decide) rfl c_2
      refine lv_iconst (v := (-1)) hx hb dX9_alsoOf_20 (by decide) ?_
      rw [hQm]
      exact mx_iret (u0 := sX9_alsoOf k) (rv := (fun u => some (.int u))) (w1 := (fun _ => ws)) (u := ((-1))) hx hb hr hlocks hK hS ((if_neg c_1).trans ((if_pos c_2).trans rfl)) hP hD rfl dX9_alsoOf_21
    · have d_2 := i_len (show (7 : Int32).toInt = 7 from by decide) rfl c_2
      refine va_gets (v := .ref (t 0)) hx hb (hF.1 0 (by decide)).1 hS hown k9 (fun _ h9 => h9) dX9_alsoOf_12 ?_
      refine lv_iload_n hx hb dX9_alsoOf_15 rfl (lv_at hl 0 rfl) ?_
      have q_3 : vp_in k 7 := vp_in_iff.mpr ⟨by omega, by omega⟩
      refine va_ti (v := .int (tbF 0 k.toNatClampNeg)) hx hb (hF.1 0 (by first | decide | assumption)).2 hS q_3 rfl dX9_alsoOf_16 ?_
      refine lv_goto (tgt := 21) hx hb dX9_alsoOf_17 (by decide) ?_
      rw [hQm]
      exact mx_iret (u0 := sX9_alsoOf k) (rv := (fun u => some (.int u))) (w1 := (fun _ => ws)) (u := ((tbF 0 k.toNatClampNeg))) hx hb hr hlocks hK hS ((if_neg c_1).trans ((if_neg c_2).trans rfl)) hP hD rfl dX9_alsoOf_21

def lX9_isOne_4 (a : Int32) : Nat → Int32 → Int32 → Int32
  | 0, x3_4, x2_4 => (0)
  | n + 1, x3_4, x2_4 => if 7 ≤ x3_4 then ((0)) else (if x2_4 = (-1) then ((0)) else (if x2_4 = a then ((1)) else (lt (sX9_alsoOf x2_4) (fun u_4 : Int32 => lt (x3_4 + 1) (fun x_5 : Int32 => lX9_isOne_4 a n x_5 u_4)))))

def sX9_isOne (k : Int32) (a : Int32) : Int32 := lX9_isOne_4 a 8 0 k
set_option maxHeartbeats 4000000 in
set_option maxRecDepth 100000 in
theorem mtX9_isOne (l : Launch) (D : va_G) (cI cB cK cS : ClassId) (ws : va_W) (t ks kb : Nat → Nat)  (k : Int32) (a : Int32) : MX l yX9_isOne wsX9_isOne (rmX 2) D (tyX cI cB cK cS) (pFs t ks kb) (ws) [.int k, .int a] (sX9_isOne k a) (fun u => some (.int u)) (fun _ => ws) := by
  refine mx_intro (cc := cX9_isOne) (maxL := 4) (ret := (some .boolean)) (by decide) rfl (Nat.le_of_ble_eq_true rfl) ?_
  intro p e s m below meth c A ls H locs Qm hQm hx hb hr hml hts hown hlocks hA hS hP hK hD hF hl
  have hown : s.vm.findClass RX9 = some m.cls := hown
  have hl : lv_has ls 4 [(0, .int k), (1, .int a)] := hl
  have k9 := hts (.fieldLink RX9 9 "PigRounds$Way" "IS_ALSO" "[I") (by decide +kernel)
  refine lv_iload_n hx hb dX9_isOne_0 rfl (lv_at hl 0 rfl) ?_
  refine lv_istore_n (lv' := [(2, .int k), (0, .int k), (1, .int a)]) hx hb dX9_isOne_1 rfl hl (by decide) rfl (fun ls hl => ?_)
  refine lv_iconst (v := 0) hx hb dX9_isOne_2 (by decide) ?_
  refine lv_istore_n (lv' := [(3, .int 0), (2, .int k), (0, .int k), (1, .int a)]) hx hb dX9_isOne_3 rfl hl (by decide) rfl (fun ls hl => ?_)
  have L_4 : ∀ (n : Nat) (x3_4 : Int32) (x2_4 : Int32) (H : Heap) (locs : List Loc) (ls : Array Slot), 0 ≤ x3_4.toInt → x3_4.toInt ≤ 7 → (7 : Int) < x3_4.toInt + ((n : Nat) : Int) → (sX9_isOne k a = lX9_isOne_4 a n x3_4 x2_4) → va_P D vwCl (ws) H → va_D A (ws) → va_S A s.heap H locs → lv_has ls 4 [(3, .int x3_4), (2, .int x2_4), (1, .int a)] → W p l e (rmX 2) s m ([.int k, .int a] : List Value).toArray below meth c H locs 0 0 Qm (F0 m 4 ls []) := by
    intro n
    induction n with
    | zero =>
      intro x3_4 x2_4 H locs ls iv_4_0 iv_4_1 iv_4_2 hT_4 hP hD hS hl
      exfalso; omega
    | succ n ih_4 =>
      intro x3_4 x2_4 H locs ls iv_4_0 iv_4_1 iv_4_2 hT_4 hP hD hS hl
      refine lv_iload_n hx hb dX9_isOne_4 rfl (lv_at hl 0 rfl) ?_
      refine va_gets (v := .ref (t 0)) hx hb (hF.1 0 (by decide)).1 hS hown k9 (fun _ h9 => h9) dX9_isOne_5 ?_
      refine va_tlen (v := 7) hx hb (hF.1 0 (by first | decide | assumption)).2 hS rfl dX9_isOne_8 ?_
      refine lv_icmp_ge (tgt := 35) hx hb dX9_isOne_9 (by decide) (fun c_1 => ?_) (fun c_1 => ?_)
      · have d_1 := i_le (show (7 : Int32).toInt = 7 from by decide) rfl c_1
        refine lv_iconst (v := 0) hx hb dX9_isOne_35 (by decide) ?_
        rw [hQm]
        exact mx_zret (u0 := sX9_isOne k a) (rv := (fun u => some (.int u))) (w1 := (fun _ => ws)) (u := (0)) hx hb hr hlocks hK hS (hT_4.trans ((if_pos c_1).trans rfl)) hP hD rfl rfl dX9_isOne_36
      · have d_1 := i_len (show (7 : Int32).toInt = 7 from by decide) rfl c_1
        refine lv_iload_n hx hb dX9_isOne_12 rfl (lv_at hl 1 rfl) ?_
        refine lv_iconst (v := (-1)) hx hb dX9_isOne_13 (by decide) ?_
        refine lv_icmp_eq (tgt := 35) hx hb dX9_isOne_14 (by decide) (fun c_2 => ?_) (fun c_2 => ?_)
        · have d_2 := i_eq rfl (show ((-1) : Int32).toInt = (-1) from by decide) c_2
          refine lv_iconst (v := 0) hx hb dX9_isOne_35 (by decide) ?_
          rw [hQm]
          exact mx_zret (u0 := sX9_isOne k a) (rv := (fun u => some (.int u))) (w1 := (fun _ => ws)) (u := (0)) hx hb hr hlocks hK hS (hT_4.trans ((if_neg c_1).trans ((if_pos c_2).trans rfl))) hP hD rfl rfl dX9_isOne_36
        · have d_2 := i_eqn rfl (show ((-1) : Int32).toInt = (-1) from by decide) c_2
          refine lv_iload_n hx hb dX9_isOne_17 rfl (lv_at hl 1 rfl) ?_
          refine lv_iload_n hx hb dX9_isOne_18 rfl (lv_at hl 2 rfl) ?_
          refine lv_icmp_ne (tgt := 24) hx hb dX9_isOne_19 (by decide) (fun c_3 => ?_) (fun c_3 => ?_)
          · have d_3 := i_eqn rfl rfl c_3
            refine lv_iload_n hx hb dX9_isOne_24 rfl (lv_at hl 1 rfl) ?_
            refine mx_callS (As := [.int x2_4]) (rest := []) ⟨hx, hb, hml, hown, hts⟩ (mtX9_alsoOf l D cI cB cK cS (ws) t ks kb x2_4) (va_cwS 1 hts gX9_isOne_X9_alsoOf rfl rfl rfl (by decide +kernel) ⟨Nat.le_of_ble_eq_true rfl, Nat.le_of_ble_eq_true rfl⟩) pFs_ok hF hK hP hD hS hA rfl hl.1 rfl (Nat.le_of_ble_eq_true rfl) dX9_isOne_25 ⟨Nat.le_refl _, Nat.le_refl _⟩ (fun u_4 H locs eu_4 hP hD hS => ?_)
            refine W.eq (g2 := F0 m 28 ls [.int u_4]) rfl ?_
            have hP : va_P D vwCl (ws) H := hP
            have hD : va_D A (ws) := hD
            refine lv_istore_n (lv' := [(2, .int u_4), (3, .int x3_4), (1, .int a)]) hx hb dX9_isOne_28 rfl hl (by decide) rfl (fun ls hl => ?_)
            obtain ⟨x_5, ex_5⟩ : ∃ z : Int32, z = x3_4 + 1 := ⟨_, rfl⟩
            refine lv_iinc (v := x_5) (lv' := [(3, .int x_5), (2, .int u_4), (1, .int a)]) hx hb dX9_isOne_29 hl (k := 1) rfl (by rw [ex_5]; rfl) (by decide) rfl (fun ls hl => ?_)
            refine lv_goto (tgt := 4) hx hb dX9_isOne_32 (by decide) ?_
            try have tx_5 : x_5.toInt = x3_4.toInt + 1 := i_inc ex_5 (by decide) (by omega) (by omega)
            exact ih_4 x_5 u_4 H locs ls (by first | omega | assumption) (by first | omega | assumption) (by first | omega | assumption) (hT_4.trans ((if_neg c_1).trans ((if_neg c_2).trans ((if_neg c_3).trans (lt_eq eu_4 (lt_eq ex_5 rfl)))))) hP hD hS (lv_sub hl [0, 1, 2] rfl)
          · have d_3 := i_eq rfl rfl c_3
            refine lv_iconst (v := 1) hx hb dX9_isOne_22 (by decide) ?_
            rw [hQm]
            exact mx_zret (u0 := sX9_isOne k a) (rv := (fun u => some (.int u))) (w1 := (fun _ => ws)) (u := (1)) hx hb hr hlocks hK hS (hT_4.trans ((if_neg c_1).trans ((if_neg c_2).trans ((if_pos c_3).trans rfl)))) hP hD rfl rfl dX9_isOne_23
  exact L_4 8 0 k H locs ls (by decide) (by decide) (by decide) rfl hP hD hS (lv_sub hl [0, 1, 3] rfl)
def sX10_as (k : Int32) (a : Int32) (f2 : Nat → Int32) (kv2 : Nat → Nat → Int32) (g_find : Int32) : Int32 × (Int32) := lt (sX10_kindOf k f2) (fun u_1 : Option Nat => if u_1 = none then (((-1000001), g_find)) else (if a < 0 then (((-1000001), g_find)) else (if a ≤ 6 then (lt (sX9_isOne ((kv2 (u_1.getD 0)) 0) a) (fun u_5 : Int32 => if u_5 = 0 then (lt (sX10_found 3) (fun u_7 : Int32 × (Int32) => (u_7.1, u_7.2))) else (lt (sX10_foundNone ((kv2 (u_1.getD 0)) 2)) (fun u_8 : Int32 × (Int32) => (u_8.1, u_8.2))))) else (((-1000001), g_find)))))
set_option maxHeartbeats 4000000 in
set_option maxRecDepth 100000 in
theorem mtX10_as (l : Launch) (D : va_G) (cI cB cK cS : ClassId) (t ks kb : Nat → Nat) (B S U Q V K Z2 Z3 : Nat → Nat) (R : va_W) (f2 : Nat → Int32) (kv2 : Nat → Nat → Int32) (mv2 : Nat → Int32) (g_landed : Int32) (g_fault : Int32) (g_find : Int32) (k : Int32) (a : Int32) : MX l yX10_as wsX10_as (rmX 3) D (tyX cI cB cK cS) (pFs t ks kb) (landW Z2 cK f2 kv2 mv2 ++ (pigW B S U Q V K Z2 Z3 g_landed g_fault g_find ++ R)) [.ref (B 0), .int k, .int a] (sX10_as k a f2 kv2 g_find) (fun u => some (.int u.1)) (fun u => landW Z2 cK f2 kv2 mv2 ++ (pigW B S U Q V K Z2 Z3 g_landed g_fault u.2 ++ R)) := by
  refine mx_intro (cc := cX10_as) (maxL := 4) (ret := (some .int)) (by decide) rfl (Nat.le_of_ble_eq_true rfl) ?_
  intro p e s m below meth c A ls H locs Qm hQm hx hb hr hml hts hown hlocks hA hS hP hK hD hF hl
  have hown : s.vm.findClass RX10 = some m.cls := hown
  have hl : lv_has ls 4 [(0, .ref (B 0)), (1, .int k), (2, .int a)] := hl
  have k71 := hts (.constant RX10 71 (-1000001)) (by decide +kernel)
  have k241 := hts (.fieldLink RX10 241 "PigRounds$Kind" "way" "I") (by decide +kernel)
  have k138 := hts (.fieldLink RX10 138 "PigRounds$Kind" "many" "I") (by decide +kernel)
  have iX1 : ∀ w ∈ u_ws RX1 TX1 9, w ∈ wsX10_as := by decide +kernel
  refine lv_aload_n hx hb dX10_as_0 rfl (lv_at hl 0 rfl) ?_
  refine lv_iload_n hx hb dX10_as_1 rfl (lv_at hl 1 rfl) ?_
  refine mx_callV (As := [.int k]) (rest := []) ⟨hx, hb, hml, hown, hts⟩ (mtX10_kindOf l D cI cB cK cS B S U Q V K Z2 Z3 R f2 kv2 mv2 g_landed g_fault g_find k) (cwV 1 hts gX10_as_X10_kindOf rfl rfl rfl (by decide +kernel) ⟨Nat.le_of_ble_eq_true rfl, Nat.le_of_ble_eq_true rfl⟩) pF0_ok trivial hK hP hD hS hA 8 rfl rfl rfl rfl hl.1 rfl (Nat.le_of_ble_eq_true rfl) dX10_as_2 ⟨Nat.le_refl _, Nat.le_refl _⟩ (fun u_1 H locs eu_1 hP hD hS => ?_)
  have hP : va_P D vwCl (landW Z2 cK f2 kv2 mv2 ++ (pigW B S U Q V K Z2 Z3 g_landed g_fault g_find ++ R)) H := hP
  have hD : va_D A (landW Z2 cK f2 kv2 mv2 ++ (pigW B S U Q V K Z2 Z3 g_landed g_fault g_find ++ R)) := hD
  rcases Classical.em (u_1 = none) with c_2 | c_2
  · refine W.eq (g2 := F0 m 5 ls [.null]) (by rw [c_2]; rfl) ?_
    refine lv_astore_nN (lv' := [(3, .null), (0, .ref (B 0)), (1, .int k), (2, .int a)]) hx hb dX10_as_5 rfl hl (by decide) rfl (fun ls hl => ?_)
    refine lv_aload_nN hx hb dX10_as_6 rfl (lv_at hl 0 rfl) ?_
    refine lv_ifnullN (tgt := 20) hx hb dX10_as_7 (by decide) ?_
    refine lv_ldc (v := (-1000001)) hx hb hown k71 dX10_as_20 ?_
    rw [hQm]
    exact mx_iret (u0 := sX10_as k a f2 kv2 g_find) (rv := (fun u => some (.int u.1))) (w1 := (fun u => landW Z2 cK f2 kv2 mv2 ++ (pigW B S U Q V K Z2 Z3 g_landed g_fault u.2 ++ R))) (u := ((-1000001), g_find)) hx hb hr hlocks hK hS (lt_eq eu_1 ((if_pos c_2).trans rfl)) hP hD rfl dX10_as_22
  · have hj_2 : u_1.getD 0 < 5 := sX10_kindOf_lt eu_1 c_2
    refine W.eq (g2 := F0 m 5 ls [.ref (Z2 (3 + (u_1.getD 0)))]) (by rw [show u_1 = some (u_1.getD 0) from o_some c_2]; rfl) ?_
    refine lv_astore_n (lv' := [(3, .ref (Z2 (3 + (u_1.getD 0)))), (0, .ref (B 0)), (1, .int k), (2, .int a)]) hx hb dX10_as_5 rfl hl (by decide) rfl (fun ls hl => ?_)
    refine lv_aload_n hx hb dX10_as_6 rfl (lv_at hl 0 rfl) ?_
    refine lv_ifnull hx hb dX10_as_7 ?_
    refine lv_iload_n hx hb dX10_as_10 rfl (lv_at hl 3 rfl) ?_
    refine lv_if_lt (tgt := 20) hx hb dX10_as_11 (by decide) (fun c_3 => ?_) (fun c_3 => ?_)
    · refine lv_ldc (v := (-1000001)) hx hb hown k71 dX10_as_20 ?_
      rw [hQm]
      exact mx_iret (u0 := sX10_as k a f2 kv2 g_find) (rv := (fun u => some (.int u.1))) (w1 := (fun u => landW Z2 cK f2 kv2 mv2 ++ (pigW B S U Q V K Z2 Z3 g_landed g_fault u.2 ++ R))) (u := ((-1000001), g_find)) hx hb hr hlocks hK hS (lt_eq eu_1 ((if_neg c_2).trans ((if_pos c_3).trans rfl))) hP hD rfl dX10_as_22
    · refine lv_iload_n hx hb dX10_as_14 rfl (lv_at hl 3 rfl) ?_
      refine lv_bipush (v := 6) hx hb dX10_as_15 (by decide) ?_
      refine lv_icmp_le (tgt := 23) hx hb dX10_as_17 (by decide) (fun c_4 => ?_) (fun c_4 => ?_)
      · refine lv_aload_n hx hb dX10_as_23 rfl (lv_at hl 0 rfl) ?_
        refine va_get (D := D) (ci := 1) (v := .int ((kv2 (u_1.getD 0)) 0)) (C := RX1) (T := TX1) (N := 9) hx hb hts iX1 hown hK hP (u_1.getD 0) (kk_get hj_2) rfl 0 (by decide) k241 (fun _ h9 => h9) rfl dX10_as_24 ?_
        refine lv_iload_n hx hb dX10_as_27 rfl (lv_at hl 3 rfl) ?_
        refine mx_callS (As := [.int ((kv2 (u_1.getD 0)) 0), .int a]) (rest := []) ⟨hx, hb, hml, hown, hts⟩ (mtX9_isOne l D cI cB cK cS (landW Z2 cK f2 kv2 mv2 ++ (pigW B S U Q V K Z2 Z3 g_landed g_fault g_find ++ R)) t ks kb ((kv2 (u_1.getD 0)) 0) a) (va_cwS 2 hts gX10_as_X9_isOne rfl rfl rfl (by decide +kernel) ⟨Nat.le_of_ble_eq_true rfl, Nat.le_of_ble_eq_true rfl⟩) pFs_ok hF hK hP hD hS hA rfl hl.1 rfl (Nat.le_of_ble_eq_true rfl) dX10_as_28 ⟨Nat.le_refl _, Nat.le_refl _⟩ (fun u_5 H locs eu_5 hP hD hS => ?_)
        refine W.eq (g2 := F0 m 31 ls [.int u_5]) rfl ?_
        have hP : va_P D vwCl (landW Z2 cK f2 kv2 mv2 ++ (pigW B S U Q V K Z2 Z3 g_landed g_fault g_find ++ R)) H := hP
        have hD : va_D A (landW Z2 cK f2 kv2 mv2 ++ (pigW B S U Q V K Z2 Z3 g_landed g_fault g_find ++ R)) := hD
        refine lv_if_eq (tgt := 45) hx hb dX10_as_31 (by decide) (fun c_6 => ?_) (fun c_6 => ?_)
        · refine lv_aload_n hx hb dX10_as_45 rfl (lv_at hl 1 rfl) ?_
          refine lv_iconst (v := 3) hx hb dX10_as_46 (by decide) ?_
          have hpm : List.Perm (landW Z2 cK f2 kv2 mv2 ++ (pigW B S U Q V K Z2 Z3 g_landed g_fault g_find ++ R)) (pigW B S U Q V K Z2 Z3 g_landed g_fault g_find ++ (landW Z2 cK f2 kv2 mv2 ++ R)) := gp_swap
          have hP := gp_P hpm hP
          have hD := gp_D hpm hD
          refine mx_callV (As := [.int 3]) (rest := []) ⟨hx, hb, hml, hown, hts⟩ (mtX10_found l D cI cB cK cS B S U Q V K Z2 Z3 (landW Z2 cK f2 kv2 mv2 ++ R) g_landed g_fault g_find 3) (cwV 1 hts gX10_as_X10_found rfl rfl rfl (by decide +kernel) ⟨Nat.le_of_ble_eq_true rfl, Nat.le_of_ble_eq_true rfl⟩) pF0_ok trivial hK hP hD hS hA 0 rfl rfl rfl rfl hl.1 rfl (Nat.le_of_ble_eq_true rfl) dX10_as_47 ⟨Nat.le_refl _, Nat.le_refl _⟩ (fun u_7 H locs eu_7 hP hD hS => ?_)
          refine W.eq (g2 := F0 m 50 ls [.int u_7.1]) rfl ?_
          have hP : va_P D vwCl (pigW B S U Q V K Z2 Z3 g_landed g_fault u_7.2 ++ (landW Z2 cK f2 kv2 mv2 ++ R)) H := hP
          have hD : va_D A (pigW B S U Q V K Z2 Z3 g_landed g_fault u_7.2 ++ (landW Z2 cK f2 kv2 mv2 ++ R)) := hD
          have hpm : List.Perm (pigW B S U Q V K Z2 Z3 g_landed g_fault u_7.2 ++ (landW Z2 cK f2 kv2 mv2 ++ R)) (landW Z2 cK f2 kv2 mv2 ++ (pigW B S U Q V K Z2 Z3 g_landed g_fault u_7.2 ++ R)) := gp_swap
          have hP := gp_P hpm hP
          have hD := gp_D hpm hD
          rw [hQm]
          exact mx_iret (u0 := sX10_as k a f2 kv2 g_find) (rv := (fun u => some (.int u.1))) (w1 := (fun u => landW Z2 cK f2 kv2 mv2 ++ (pigW B S U Q V K Z2 Z3 g_landed g_fault u.2 ++ R))) (u := (u_7.1, u_7.2)) hx hb hr hlocks hK hS (lt_eq eu_1 ((if_neg c_2).trans ((if_neg c_3).trans ((if_pos c_4).trans (lt_eq eu_5 ((if_pos c_6).trans (lt_eq eu_7 rfl))))))) hP hD rfl dX10_as_50
        · refine lv_aload_n hx hb dX10_as_34 rfl (lv_at hl 1 rfl) ?_
          refine lv_aload_n hx hb dX10_as_35 rfl (lv_at hl 0 rfl) ?_
          refine va_get (D := D) (ci := 1) (v := .int ((kv2 (u_1.getD 0)) 2)) (C := RX1) (T := TX1) (N := 9) hx hb hts iX1 hown hK hP (u_1.getD 0) (kk_get hj_2) rfl 2 (by decide) k138 (fun _ h9 => h9) rfl dX10_as_36 ?_
          have hpm : List.Perm (landW Z2 cK f2 kv2 mv2 ++ (pigW B S U Q V K Z2 Z3 g_landed g_fault g_find ++ R)) (pigW B S U Q V K Z2 Z3 g_landed g_fault g_find ++ (landW Z2 cK f2 kv2 mv2 ++ R)) := gp_swap
          have hP := gp_P hpm hP
          have hD := gp_D hpm hD
          refine mx_callV (As := [.int ((kv2 (u_1.getD 0)) 2)]) (rest := []) ⟨hx, hb, hml, hown, hts⟩ (mtX10_foundNone l D cI cB cK cS B S U Q V K Z2 Z3 (landW Z2 cK f2 kv2 mv2 ++ R) g_landed g_fault g_find ((kv2 (u_1.getD 0)) 2)) (cwV 1 hts gX10_as_X10_foundNone rfl rfl rfl (by decide +kernel) ⟨Nat.le_of_ble_eq_true rfl, Nat.le_of_ble_eq_true rfl⟩) pF0_ok trivial hK hP hD hS hA 0 rfl rfl rfl rfl hl.1 rfl (Nat.le_of_ble_eq_true rfl) dX10_as_39 ⟨Nat.le_refl _, Nat.le_refl _⟩ (fun u_8 H locs eu_8 hP hD hS => ?_)
          refine W.eq (g2 := F0 m 42 ls [.int u_8.1]) rfl ?_
          have hP : va_P D vwCl (pigW B S U Q V K Z2 Z3 g_landed g_fault u_8.2 ++ (landW Z2 cK f2 kv2 mv2 ++ R)) H := hP
          have hD : va_D A (pigW B S U Q V K Z2 Z3 g_landed g_fault u_8.2 ++ (landW Z2 cK f2 kv2 mv2 ++ R)) := hD
          have hpm : List.Perm (pigW B S U Q V K Z2 Z3 g_landed g_fault u_8.2 ++ (landW Z2 cK f2 kv2 mv2 ++ R)) (landW Z2 cK f2 kv2 mv2 ++ (pigW B S U Q V K Z2 Z3 g_landed g_fault u_8.2 ++ R)) := gp_swap
          have hP := gp_P hpm hP
          have hD := gp_D hpm hD
          refine lv_goto (tgt := 50) hx hb dX10_as_42 (by decide) ?_
          rw [hQm]
          exact mx_iret (u0 := sX10_as k a f2 kv2 g_find) (rv := (fun u => some (.int u.1))) (w1 := (fun u => landW Z2 cK f2 kv2 mv2 ++ (pigW B S U Q V K Z2 Z3 g_landed g_fault u.2 ++ R))) (u := (u_8.1, u_8.2)) hx hb hr hlocks hK hS (lt_eq eu_1 ((if_neg c_2).trans ((if_neg c_3).trans ((if_pos c_4).trans (lt_eq eu_5 ((if_neg c_6).trans (lt_eq eu_8 rfl))))))) hP hD rfl dX10_as_50
      · refine lv_ldc (v := (-1000001)) hx hb hown k71 dX10_as_20 ?_
        rw [hQm]
        exact mx_iret (u0 := sX10_as k a f2 kv2 g_find) (rv := (fun u => some (.int u.1))) (w1 := (fun u => landW Z2 cK f2 kv2 mv2 ++ (pigW B S U Q V K Z2 Z3 g_landed g_fault u.2 ++ R))) (u := ((-1000001), g_find)) hx hb hr hlocks hK hS (lt_eq eu_1 ((if_neg c_2).trans ((if_neg c_3).trans ((if_neg c_4).trans rfl)))) hP hD rfl dX10_as_22
