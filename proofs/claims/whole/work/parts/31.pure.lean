theorem cmp_lt {x y : Int64} : (lg_cmp x y < 0 ↔ x.toInt < y.toInt) := by
  unfold lg_cmp
  by_cases a : x > y
  · have : y.toInt < x.toInt := Int64.lt_iff_toInt_lt.mp a
    rw [if_pos a]
    exact ⟨fun q => absurd q (by decide), fun q => by omega⟩
  · have a' : ¬ y.toInt < x.toInt := fun q => a (Int64.lt_iff_toInt_lt.mpr q)
    rw [if_neg a]
    by_cases b : x = y
    · rw [if_pos b, b]
      exact ⟨fun q => absurd q (by decide), fun q => by omega⟩
    · rw [if_neg b]
      have : x.toInt ≠ y.toInt := fun q => b (Int64.toInt_inj.mp q)
      exact ⟨fun _ => by omega, fun _ => by decide⟩
theorem cmp_gt {x y : Int64} : (0 < lg_cmp x y ↔ y.toInt < x.toInt) := by
  unfold lg_cmp
  by_cases a : x > y
  · have : y.toInt < x.toInt := Int64.lt_iff_toInt_lt.mp a
    rw [if_pos a]
    exact ⟨fun _ => this, fun _ => by decide⟩
  · have a' : ¬ y.toInt < x.toInt := fun q => a (Int64.lt_iff_toInt_lt.mpr q)
    rw [if_neg a]
    by_cases b : x = y
    · rw [if_pos b]
      exact ⟨fun q => absurd q (by decide), fun q => absurd q a'⟩
    · rw [if_neg b]
      exact ⟨fun q => absurd q (by decide), fun q => absurd q a'⟩
theorem in_eq {v : Int32} {lo hi : Int64} {a b : Int} (ha : lo.toInt = a) (hb : hi.toInt = b) : sX11_in v.toInt64 lo hi = if a ≤ v.toInt ∧ v.toInt ≤ b then 1 else 0 := by
  unfold sX11_in
  by_cases h1 : v.toInt < a
  · rw [if_pos (cmp_lt.mpr (by rw [Int32.toInt_toInt64, ha]; exact h1)), if_neg (fun q => by omega)]
  · rw [if_neg (fun q => h1 (by have := cmp_lt.mp q; rw [Int32.toInt_toInt64, ha] at this; exact this))]
    by_cases h2 : b < v.toInt
    · rw [if_pos (cmp_gt.mpr (by rw [Int32.toInt_toInt64, hb]; exact h2)), if_neg (fun q => by omega)]
    · rw [if_neg (fun q => h2 (by have := cmp_gt.mp q; rw [Int32.toInt_toInt64, hb] at this; exact this)), if_pos ⟨by omega, by omega⟩]
theorem in_yes {v : Int32} {lo hi : Int64} {a b : Int} (ha : lo.toInt = a) (hb : hi.toInt = b) (h1 : a ≤ v.toInt) (h2 : v.toInt ≤ b) : sX11_in v.toInt64 lo hi = 1 := by rw [in_eq ha hb, if_pos ⟨h1, h2⟩]
theorem in_no {v : Int32} {lo hi : Int64} {a b : Int} (ha : lo.toInt = a) (hb : hi.toInt = b) (h : v.toInt < a ∨ b < v.toInt) : sX11_in v.toInt64 lo hi = 0 := by rw [in_eq ha hb, if_neg (fun q => by omega)]
theorem isKind_eq {k : Int32} {K : Nat} (hK : K ≤ 5) : sX11_isKind k (nI K) = if 0 ≤ k.toInt ∧ k.toInt < K then 1 else 0 := by
  unfold sX11_isKind
  rw [ltd]
  have e : (nI K - 1).toInt = (K : Int) - 1 := by
    have := i_sub (x := nI K) (y := 1) (by rw [pu_toInt (by omega), show (1 : Int32).toInt = 1 from by decide]; omega) (by rw [pu_toInt (by omega), show (1 : Int32).toInt = 1 from by decide]; omega)
    rw [this, pu_toInt (by omega)]; rfl
  rw [in_eq (a := 0) (b := (K : Int) - 1) (by decide) (by rw [Int32.toInt_toInt64, e])]
  have : (0 ≤ k.toInt ∧ k.toInt ≤ (K : Int) - 1) = (0 ≤ k.toInt ∧ k.toInt < K) := propext ⟨fun q => ⟨q.1, by omega⟩, fun q => ⟨q.1, by omega⟩⟩
  simp only [this]
theorem kind_cases {k : Int32} {K : Nat} (hK : K ≤ 5) {f : Nat → Int32} (hf : f 2 = nI K) : (∃ j, j < K ∧ k = nI j ∧ sX11_isKind k (nI K) = 1 ∧ sX10_kindOf k f = some j) ∨ (sX11_isKind k (nI K) = 0 ∧ sX10_kindOf k f = none ∧ (k.toInt < 0 ∨ (K : Int) ≤ k.toInt)) := by
  rw [isKind_eq hK]
  have h0 : (0 : Int32).toInt = 0 := by decide
  have h5 : (5 : Int32).toInt = 5 := by decide
  unfold sX10_kindOf sX2_kindAt
  simp only [ltd, hf, Int32.lt_iff_toInt_lt, Int32.le_iff_toInt_le, h0, h5, pu_toInt (show K < 2147483648 by omega)]
  by_cases a : k.toInt < 0
  · right
    simp only [if_pos a]
    rw [if_neg (fun q => by omega)]
    exact ⟨rfl, if_pos trivial, Or.inl a⟩
  · simp only [if_neg a]
    by_cases b : (K : Int) ≤ k.toInt
    · right
      simp only [if_pos b]
      rw [if_neg (fun q => by omega)]
      exact ⟨rfl, if_pos trivial, Or.inr b⟩
    · left
      refine ⟨k.toInt.toNat, by omega, pu_eq (by omega), ?_, ?_⟩
      · rw [if_pos ⟨by omega, by omega⟩]
      · have e : k = nI k.toInt.toNat := pu_eq (by omega)
        simp only [if_neg b, if_neg (show ¬ 5 ≤ k.toInt by omega)]
        rw [if_neg (fun q => by cases q)]
        rfl
theorem colTo_at {i : Nat} {w r : Nat → Int32} {j : Nat} (h : j < i) : colTo i w r j = w j := by unfold colTo; rw [if_pos h]
theorem keep_eq (state kept : Nat → Int32) : sX11_keep state kept = colTo 17 state kept := by
  have key := loop_run (fun n i (s : Nat → Int32) => lX11_keep_2 state n (nI i) s) (fun i => colTo i state kept) 17 ?_ 1 17 (Nat.le_refl _)
  · have key' : lX11_keep_2 state 18 0 (colTo 0 state kept) = lX11_keep_2 state 1 (nI 17) (colTo 17 state kept) := key
    rw [colTo_0] at key'
    unfold sX11_keep
    rw [ltd, key']
    unfold lX11_keep_2
    rw [if_pos (show (17 : Int32) ≤ nI 17 from Int32.le_refl _)]
  · intro n i hi
    show lX11_keep_2 state (n + 1) (nI i) (colTo i state kept) = lX11_keep_2 state n (nI (i + 1)) (colTo (i + 1) state kept)
    rw [lX11_keep_2, if_neg (show ¬ (17 : Int32) ≤ nI i from fun q => by have := (pu_le (a := 17) (by omega) (by omega)).mp q; omega)]
    rw [pu_nat (show i < 2147483648 by omega), ltd, ltd, pu_succ, colTo_up rfl]
theorem comeBack_eq (state kept : Nat → Int32) : sX11_comeBack state kept = colTo 17 kept state := by
  have key := loop_run (fun n i (s : Nat → Int32) => lX11_comeBack_2 kept n (nI i) s) (fun i => colTo i kept state) 17 ?_ 1 17 (Nat.le_refl _)
  · have key' : lX11_comeBack_2 kept 18 0 (colTo 0 kept state) = lX11_comeBack_2 kept 1 (nI 17) (colTo 17 kept state) := key
    rw [colTo_0] at key'
    unfold sX11_comeBack
    rw [ltd, key']
    unfold lX11_comeBack_2
    rw [if_pos (show (17 : Int32) ≤ nI 17 from Int32.le_refl _)]
  · intro n i hi
    show lX11_comeBack_2 kept (n + 1) (nI i) (colTo i kept state) = lX11_comeBack_2 kept n (nI (i + 1)) (colTo (i + 1) kept state)
    rw [lX11_comeBack_2, if_neg (show ¬ (17 : Int32) ≤ nI i from fun q => by have := (pu_le (a := 17) (by omega) (by omega)).mp q; omega)]
    rw [pu_nat (show i < 2147483648 by omega), ltd, ltd, pu_succ, colTo_up rfl]
def s17 (a b : Nat → Int32) : Prop := ∀ n, n < 17 → a n = b n
section
variable {K Y : Nat} {print low high lot : Int32} {market of state f : Nat → Int32} {kv : Nat → Nat → Int32} {mv : Nat → Int32}
theorem LD.st (h : LD K Y print low high lot market of state f kv mv) {st : Nat → Int32} (e : s17 st state) : LD K Y print low high lot market of st f kv mv := by
  have hK := h.hK
  refine LD.mk' h.hK h.f2 h.f3 h.f4 h.f5 (h.f6.trans (e 0 (by omega)).symm) (h.f7.trans (e 1 (by omega)).symm) (h.f8.trans (e 2 (by omega)).symm) h.f9 (h.f10.trans (e 3 (by omega)).symm) (h.f11.trans (e 6 (by omega)).symm) h.m0 h.m1 h.m2 (h.m3.trans (e 4 (by omega)).symm) (h.m4.trans (e 5 (by omega)).symm) h.kd
    (fun j hj => (h.kc j hj).trans (e (7 + j) (by omega)).symm) (fun j hj => (h.ko j hj).trans (e (12 + j) (by omega)).symm) h.bt h.bq h.bf ?_ ?_ ?_ h.bp h.bl ?_ h.kb h.kw ?_ ?_ h.kz
  · rw [e 0 (by omega)]; exact h.b0
  · rw [e 1 (by omega)]; exact h.b1
  · rw [e 2 (by omega)]; exact h.b2
  · rw [e 4 (by omega)]; exact h.bs
  · intro j hj; rw [e (7 + j) (by omega)]; exact h.kx j hj
  · intro j hj; rw [e (7 + j) (by omega), e (12 + j) (by omega)]; exact h.kn j hj
theorem LD.more (h : LD K Y print low high lot market of state f kv mv) {Y' : Nat} (e : Y ≤ Y') : LD K Y' print low high lot market of state f kv mv :=
  LD.mk' h.hK h.f2 h.f3 h.f4 h.f5 h.f6 h.f7 h.f8 h.f9 h.f10 h.f11 h.m0 h.m1 h.m2 h.m3 h.m4 h.kd h.kc h.ko h.bt h.bq h.bf h.b0 h.b1 h.b2 h.bp h.bl (bd_mono h.bs (by omega)) h.kb h.kw (fun j hj => ⟨(h.kx j hj).1, by have := (h.kx j hj).2; omega⟩) h.kn h.kz
theorem take_kv (kv kv2 : Nat → Nat → Int32) : lX2_takeAll_2 kv2 6 0 kv = (nI 5, rowsTo 5 (fun j => sX1_takeAll (kv j) (kv2 j)) kv) := by
  have key := loop_run (fun n i (s : Nat → Nat → Int32) => lX2_takeAll_2 kv2 n (nI i) s) (fun i => rowsTo i (fun j => sX1_takeAll (kv j) (kv2 j)) kv) 5 ?_ 1 5 (Nat.le_refl _)
  · have e0 : rowsTo 0 (fun j => sX1_takeAll (kv j) (kv2 j)) kv = kv := by funext j; unfold rowsTo; rw [if_neg (by omega)]
    have key' : lX2_takeAll_2 kv2 6 0 (rowsTo 0 (fun j => sX1_takeAll (kv j) (kv2 j)) kv) = lX2_takeAll_2 kv2 1 (nI 5) (rowsTo 5 (fun j => sX1_takeAll (kv j) (kv2 j)) kv) := key
    rw [e0] at key'
    rw [key']
    unfold lX2_takeAll_2
    rw [if_pos (show (5 : Int32) ≤ nI 5 from Int32.le_refl _)]
  · intro n i hi
    show lX2_takeAll_2 kv2 (n + 1) (nI i) (rowsTo i (fun j => sX1_takeAll (kv j) (kv2 j)) kv) = lX2_takeAll_2 kv2 n (nI (i + 1)) (rowsTo (i + 1) (fun j => sX1_takeAll (kv j) (kv2 j)) kv)
    have g : ¬ (5 : Int32) ≤ nI i := fun q => by have := (pu_le (a := 5) (by omega) (by omega)).mp q; omega
    rw [lX2_takeAll_2, if_neg g, if_neg g, pu_nat (show i < 2147483648 by omega), rowsTo_at]
    simp only [ltd]
    rw [pu_succ, rowsTo_up rfl]
theorem takeC (v v2 : Nat → Int32) : ∀ c, c < 8 → sX1_takeAll v v2 c = v2 c := by
  intro c hc
  unfold sX1_takeAll upd
  rcases (show c = 0 ∨ c = 1 ∨ c = 2 ∨ c = 3 ∨ c = 4 ∨ c = 5 ∨ c = 6 ∨ c = 7 by omega) with rfl | rfl | rfl | rfl | rfl | rfl | rfl | rfl <;> rfl
theorem LD.take (h : LD K Y print low high lot market of state f kv mv) (f0 : Nat → Int32) (kv0 : Nat → Nat → Int32) (mv0 : Nat → Int32) : LD K Y print low high lot market of state (sX2_takeAll f0 kv0 mv0 f kv mv).1 (sX2_takeAll f0 kv0 mv0 f kv mv).2.1 (sX2_takeAll f0 kv0 mv0 f kv mv).2.2 := by
  have hK := h.hK
  unfold sX2_takeAll
  simp only [ltd]
  rw [take_kv]
  dsimp only
  have hk : ∀ j, j < 5 → ∀ c, c < 8 → rowsTo 5 (fun j => sX1_takeAll (kv0 j) (kv j)) kv0 j c = kv j c := by
    intro j hj c hc
    unfold rowsTo
    rw [if_pos hj]
    exact takeC _ _ c hc
  exact LD.mk' hK h.f2 h.f3 h.f4 h.f5 h.f6 h.f7 h.f8 h.f9 h.f10 h.f11 h.m0 h.m1 h.m2 h.m3 h.m4
    (fun j hj c hc => (hk j (by omega) c (by omega)).trans (h.kd j hj c hc)) (fun j hj => (hk j (by omega) 6 (by omega)).trans (h.kc j hj)) (fun j hj => (hk j (by omega) 7 (by omega)).trans (h.ko j hj))
    h.bt h.bq h.bf h.b0 h.b1 h.b2 h.bp h.bl h.bs h.kb h.kw h.kx h.kn (fun j hj => by rw [hk j hj 7 (by omega)]; exact h.kz j hj)
theorem LD.years {N : Nat} (hN : N ≤ 1000) : ∀ (m n i Y : Nat) (state f : Nat → Int32) (kv : Nat → Nat → Int32) (mv brings : Nat → Int32), i + m = N → m < n → Y + m ≤ 60000 → LD K Y print low high lot market of state f kv mv →
    ∃ (st' f' : Nat → Int32) (kv' : Nat → Nat → Int32) (mv' b' : Nat → Int32), lX10_years_26 (nI N) n (nI i) f kv mv = (nI N, f', kv', mv') ∧ lX11_years_32 (nI N) (nI K) print low high lot market of n (nI i) state brings = (nI N, st', b') ∧ LD K (Y + m) print low high lot market of st' f' kv' mv' := by
  intro m
  induction m with
  | zero =>
    intro n i Y state f kv mv brings h1 h2 h3 h
    obtain ⟨n, rfl⟩ : ∃ n', n = n' + 1 := ⟨n - 1, by omega⟩
    have : i = N := by omega
    subst this
    refine ⟨state, f, kv, mv, brings, ?_, ?_, h⟩
    · rw [lX10_years_26, if_pos (Int32.le_refl _)]
    · rw [lX11_years_32, if_pos (Int32.le_refl _)]
  | succ m ih =>
    intro n i Y state f kv mv brings h1 h2 h3 h
    obtain ⟨n, rfl⟩ : ∃ n', n = n' + 1 := ⟨n - 1, by omega⟩
    have g : ¬ nI N ≤ nI i := fun q => by have := (pu_le (by omega) (by omega)).mp q; omega
    have hy := (h.year (by omega) brings).2
    obtain ⟨st', f', kv', mv', b', e1, e2, e3⟩ := ih n (i + 1) (Y + 1) _ _ _ _ (sX11_year (nI K) print low high lot market of state brings).2 (by omega) (by omega) (by omega) hy
    refine ⟨st', f', kv', mv', b', ?_, ?_, by rw [show Y + (m + 1) = Y + 1 + m by omega]; exact e3⟩
    · rw [lX10_years_26, if_neg g, ltd, ltd, pu_succ]; exact e1
    · rw [lX11_years_32, if_neg g, ltd, ltd, pu_succ]; exact e2
theorem ge_years : ∀ (n : Nat) (nn x : Int32) (f : Nat → Int32) (kv : Nat → Nat → Int32) (mv : Nat → Int32), lX8_gainsEnough_62 nn n x f kv mv = lX10_years_26 nn n x f kv mv := by
  intro n
  induction n with
  | zero => intros; rfl
  | succ n ih =>
    intro nn x f kv mv
    rw [lX8_gainsEnough_62, lX10_years_26]
    simp only [ltd, ih]
theorem be_years : ∀ (n : Nat) (nn kinds print low high lot : Int32) (market of : Nat → Int32) (x : Int32) (s b : Nat → Int32), lX11_bears_79 nn kinds print low high lot market of n x s b = lX11_years_32 nn kinds print low high lot market of n x s b := by
  intro n
  induction n with
  | zero => intros; rfl
  | succ n ih =>
    intro nn kinds print low high lot market of x s b
    rw [lX11_bears_79, lX11_years_32]
    simp only [ltd, ih]
end
def LI (g kinds : Int32) (Y : Nat) (print low high lot : Int32) (market of state f : Nat → Int32) (kv : Nat → Nat → Int32) (mv : Nat → Int32) : Prop :=
  (∀ j, j < 5 → kv j 7 = 0 ∨ kv j 7 = 1) ∧ ((g = 0 ∧ kinds = 0 ∧ f 2 = 0) ∨ (g = 1 ∧ ∃ K, kinds = nI K ∧ LD K Y print low high lot market of state f kv mv))
theorem i_1 : (1 : Int32).toInt = 1 := by decide
theorem i_0 : (0 : Int32).toInt = 0 := by decide
section
variable {K Y : Nat} {g kinds print low high lot : Int32} {market of state f : Nat → Int32} {kv : Nat → Nat → Int32} {mv : Nat → Int32}
theorem LI.mk (h : LD K Y print low high lot market of state f kv mv) : LI 1 (nI K) Y print low high lot market of state f kv mv := ⟨h.kz, Or.inr ⟨rfl, K, rfl, h⟩⟩
theorem LI.more (h : LI g kinds Y print low high lot market of state f kv mv) {Y' : Nat} (e : Y ≤ Y') : LI g kinds Y' print low high lot market of state f kv mv := by
  obtain ⟨hz, h | ⟨h1, K, h2, h3⟩⟩ := h
  · exact ⟨hz, Or.inl h⟩
  · exact ⟨hz, Or.inr ⟨h1, K, h2, h3.more e⟩⟩
theorem LI.st (h : LI g kinds Y print low high lot market of state f kv mv) {st : Nat → Int32} (e : s17 st state) : LI g kinds Y print low high lot market of st f kv mv := by
  obtain ⟨hz, h | ⟨h1, K, h2, h3⟩⟩ := h
  · exact ⟨hz, Or.inl h⟩
  · exact ⟨hz, Or.inr ⟨h1, K, h2, h3.st e⟩⟩
theorem years_ok (h : LI g kinds Y print low high lot market of state f kv mv) (hY : Y + 100 ≤ 60000) (nn : Int32) (brings : Nat → Int32) :
    (sX10_years nn f kv mv g).1 = (sX11_years nn g kinds print low high lot market of state brings).1 ∧ LI g kinds (Y + 100) print low high lot market of (sX11_years nn g kinds print low high lot market of state brings).2.2.1 (sX10_years nn f kv mv g).2.1 (sX10_years nn f kv mv g).2.2.1 (sX10_years nn f kv mv g).2.2.2 := by
  have h100 : (100 : Int32).toInt = 100 := by decide
  unfold sX10_years sX11_years
  simp only [ltd]
  simp only [Int32.lt_iff_toInt_lt, Int32.le_iff_toInt_le, i_1, h100]
  by_cases a : nn.toInt < 1
  · rw [if_pos a, in_no (a := 1) (b := 100) (by decide) (by decide) (by omega), if_pos (show (0 : Int32) = 0 from rfl)]
    exact ⟨rfl, h.more (by omega)⟩
  · rw [if_neg a]
    by_cases b : nn.toInt ≤ 100
    · rw [if_pos b, in_yes (a := 1) (b := 100) (by decide) (by decide) (by omega) b, if_neg (show ¬ (1 : Int32) = 0 by decide)]
      obtain ⟨hz, ⟨h1, h2, h3⟩ | ⟨h1, K, h2, h3⟩⟩ := h
      · subst h1
        rw [if_pos rfl, if_pos rfl]
        exact ⟨rfl, hz, Or.inl ⟨rfl, h2, h3⟩⟩
      · subst h1; subst h2
        rw [if_neg (show ¬ (1 : Int32) = 0 by decide), if_neg (show ¬ (1 : Int32) = 0 by decide)]
        obtain ⟨N, hN, rfl⟩ := pu_ex (x := nn) (b := 100) (by omega) (by omega)
        obtain ⟨st', f', kv', mv', b', e1, e2, e3⟩ := LD.years (N := N) (by omega) N 101 0 Y state f kv mv brings (by omega) (by omega) (by omega) h3
        have e1' : lX10_years_26 (nI N) 101 0 f kv mv = (nI N, f', kv', mv') := e1
        have e2' : lX11_years_32 (nI N) (nI K) print low high lot market of 101 0 state brings = (nI N, st', b') := e2
        rw [e1', e2']
        exact ⟨e3.f6, LI.mk (e3.more (by omega))⟩
    · rw [if_neg b, in_no (a := 1) (b := 100) (by decide) (by decide) (by omega), if_pos (show (0 : Int32) = 0 from rfl)]
      exact ⟨rfl, h.more (by omega)⟩
theorem LD.prints (h : LD K Y print low high lot market of state f kv mv) (hY : Y ≤ 60000) (k : Int32) (hk : -1 ≤ k.toInt) (kept : Nat → Int32) (hkept : s17 kept state) : ∀ (m i n1 n2 : Nat) (c : Nat) (found : Int32) (pr : Int32) (st b : Nat → Int32) (f0 : Nat → Int32) (kv0 : Nat → Nat → Int32) (mv0 : Nat → Int32), i + m = 100 → c ≤ i → m < n1 → m < n2 → s17 st state → (k.toInt < c → k = -1 ∨ found ≠ -1000000) → (¬ k.toInt < c → found = -1000000) →
    ∃ (cf : Int32) (ff : Int32) (pf : Int32) (st' b' : Nat → Int32), lX11_prints_41 k (nI K) low high lot market of kept n2 (nI i) found (nI c) pr st b = (nI 100, ff, cf, pf, st', b') ∧ s17 st' state ∧ ((k = -1 ∨ found = -1000000 ∨ True) → (if k = -1 ∨ ¬ k.toInt < c then (lX8_truePrint_5 k f kv mv n1 (nI i) (nI c) f0 kv0 mv0).1 = (if k = -1 then cf else ff) else ff = found)) := by
  intro m
  induction m with
  | zero =>
    intro i n1 n2 c found pr st b f0 kv0 mv0 h1 hc h2 h3 hst hf1 hf2
    obtain ⟨n1, rfl⟩ : ∃ n', n1 = n' + 1 := ⟨n1 - 1, by omega⟩
    obtain ⟨n2, rfl⟩ : ∃ n', n2 = n' + 1 := ⟨n2 - 1, by omega⟩
    have hi : i = 100 := by omega
    subst hi
    refine ⟨nI c, found, pr, st, b, ?_, hst, fun _ => ?_⟩
    · rw [lX11_prints_41, if_pos (show (100 : Int32) ≤ nI 100 from Int32.le_refl _)]
    · split
      · rename_i hh
        rw [lX8_truePrint_5, if_pos (show (99 : Int32) < nI 100 by decide)]
        by_cases e : k = -1
        · rw [if_pos e, if_pos e]
        · rw [if_neg e, if_neg e]
          rcases hh with hh | hh
          · exact absurd hh e
          · exact (hf2 hh).symm
      · rfl
  | succ m ih =>
    intro i n1 n2 c found pr st b f0 kv0 mv0 h1 hc h2 h3 hst hf1 hf2
    obtain ⟨n1, rfl⟩ : ∃ n', n1 = n' + 1 := ⟨n1 - 1, by omega⟩
    obtain ⟨n2, rfl⟩ : ∃ n', n2 = n' + 1 := ⟨n2 - 1, by omega⟩
    have g1 : ¬ (100 : Int32) ≤ nI i := fun q => by have := (pu_le (a := 100) (by omega) (by omega)).mp q; omega
    have g2 : ¬ (99 : Int32) < nI i := fun q => by have := (pu_lt (a := 99) (by omega) (by omega)).mp q; omega
    have ht := (h.st hst).take f0 kv0 mv0
    have hp : LD K Y (nI i) low high lot market of st (upd (sX2_takeAll f0 kv0 mv0 f kv mv).1 9 (nI i)) (sX2_takeAll f0 kv0 mv0 f kv mv).2.1 (sX2_takeAll f0 kv0 mv0 f kv mv).2.2 :=
      LD.mk' ht.hK ht.f2 ht.f3 ht.f4 ht.f5 ht.f6 ht.f7 ht.f8 pu_us ht.f10 ht.f11 ht.m0 ht.m1 ht.m2 ht.m3 ht.m4 ht.kd ht.kc ht.ko ht.bt ht.bq ht.bf ht.b0 ht.b1 ht.b2 ⟨i, by omega, rfl⟩ ht.bl ht.bs ht.kb ht.kw ht.kx ht.kn ht.kz
    have hy := (hp.year hY b).1
    have hback : s17 (sX11_comeBack (sX11_year (nI K) (nI i) low high lot market of st b).1 kept) state := by
      rw [comeBack_eq]
      intro n hn
      rw [colTo_at hn]
      exact hkept n hn
    rw [lX11_prints_41, if_neg g1]
    simp only [ltd]
    rw [pu_succ]
    by_cases hx : (sX11_year (nI K) (nI i) low high lot market of st b).1 0 = nI i
    · rw [if_pos hx, pu_succ]
      dsimp only
      by_cases hk2 : nI c = k
      · -- found here
        have hkc : k.toInt = c := by rw [← hk2, pu_toInt (by omega)]
        rw [if_pos hk2]
        have hne : nI i ≠ (-1000000 : Int32) := by
          intro q
          have := congrArg Int32.toInt q
          rw [pu_toInt (by omega), show ((-1000000 : Int32)).toInt = -1000000 from by decide] at this
          omega
        have hnm : ¬ k = -1 := by
          intro q
          rw [q, show ((-1 : Int32)).toInt = -1 from by decide] at hkc
          omega
        obtain ⟨cf, ff, pf, st', b', e1, e2, e3⟩ := ih (i + 1) n1 n2 (c + 1) (nI i) (nI i) _ (sX11_year (nI K) (nI i) low high lot market of st b).2 f0 kv0 mv0 (by omega) (by omega) (by omega) (by omega) hback (fun _ => Or.inr hne) (fun q => by omega)
        refine ⟨cf, ff, pf, st', b', e1, e2, fun _ => ?_⟩
        have e3 := e3 (Or.inr (Or.inr trivial))
        rw [if_neg (fun q => q.elim hnm (fun q => by omega))] at e3
        rw [if_pos (Or.inr (by omega)), lX8_truePrint_5, if_neg g2]
        simp only [ltd]
        rw [hy, if_pos hx, if_pos hk2, if_neg hnm, e3]
      · rw [if_neg hk2]
        obtain ⟨cf, ff, pf, st', b', e1, e2, e3⟩ := ih (i + 1) n1 n2 (c + 1) found (nI i) _ (sX11_year (nI K) (nI i) low high lot market of st b).2 (sX2_liveYear (upd (sX2_takeAll f0 kv0 mv0 f kv mv).1 9 (nI i)) (sX2_takeAll f0 kv0 mv0 f kv mv).2.1 (sX2_takeAll f0 kv0 mv0 f kv mv).2.2).2.1 (sX2_liveYear (upd (sX2_takeAll f0 kv0 mv0 f kv mv).1 9 (nI i)) (sX2_takeAll f0 kv0 mv0 f kv mv).2.1 (sX2_takeAll f0 kv0 mv0 f kv mv).2.2).2.2.1 (sX2_liveYear (upd (sX2_takeAll f0 kv0 mv0 f kv mv).1 9 (nI i)) (sX2_takeAll f0 kv0 mv0 f kv mv).2.1 (sX2_takeAll f0 kv0 mv0 f kv mv).2.2).2.2.2 (by omega) (by omega) (by omega) (by omega) hback
          (fun q => by
            rcases Int.lt_or_le k.toInt c with z | z
            · exact hf1 z
            · exact absurd (pu_eq (show k.toInt = ((c : Nat) : Int) by omega)).symm hk2)
          (fun q => hf2 (by omega))
        refine ⟨cf, ff, pf, st', b', e1, e2, fun _ => ?_⟩
        have e3 := e3 (Or.inr (Or.inr trivial))
        have hcc : (k.toInt < ((c + 1 : Nat) : Int)) ↔ (k.toInt < (c : Int)) := ⟨fun q => by
            rcases Int.lt_or_le k.toInt c with z | z
            · exact z
            · exact absurd (pu_eq (show k.toInt = ((c : Nat) : Int) by omega)).symm hk2, fun q => by omega⟩
        simp only [hcc] at e3
        rw [lX8_truePrint_5, if_neg g2]
        simp only [ltd]
        rw [hy, if_pos hx, if_neg hk2, pu_succ, pu_succ]
        exact e3
    · rw [if_neg hx]
      dsimp only
      obtain ⟨cf, ff, pf, st', b', e1, e2, e3⟩ := ih (i + 1) n1 n2 c found (nI i) _ (sX11_year (nI K) (nI i) low high lot market of st b).2 (sX2_liveYear (upd (sX2_takeAll f0 kv0 mv0 f kv mv).1 9 (nI i)) (sX2_takeAll f0 kv0 mv0 f kv mv).2.1 (sX2_takeAll f0 kv0 mv0 f kv mv).2.2).2.1 (sX2_liveYear (upd (sX2_takeAll f0 kv0 mv0 f kv mv).1 9 (nI i)) (sX2_takeAll f0 kv0 mv0 f kv mv).2.1 (sX2_takeAll f0 kv0 mv0 f kv mv).2.2).2.2.1 (sX2_liveYear (upd (sX2_takeAll f0 kv0 mv0 f kv mv).1 9 (nI i)) (sX2_takeAll f0 kv0 mv0 f kv mv).2.1 (sX2_takeAll f0 kv0 mv0 f kv mv).2.2).2.2.2 (by omega) (by omega) (by omega) (by omega) hback hf1 hf2
      refine ⟨cf, ff, pf, st', b', e1, e2, fun _ => ?_⟩
      have e3 := e3 (Or.inr (Or.inr trivial))
      rw [lX8_truePrint_5, if_neg g2]
      simp only [ltd]
      rw [hy, if_neg hx, pu_succ]
      exact e3
theorem prints_ok (h : LI g kinds Y print low high lot market of state f kv mv) (hY : Y ≤ 60000) (k : Int32) (kept brings f0 : Nat → Int32) (kv0 : Nat → Nat → Int32) (mv0 : Nat → Int32) :
    (sX10_prints k f0 kv0 mv0 f kv mv g).1 = (sX11_prints k g kinds print low high lot market of state kept brings).1 ∧ (sX11_prints k g kinds print low high lot market of state kept brings).2.2.1 = print ∧ s17 (sX11_prints k g kinds print low high lot market of state kept brings).2.2.2.1 state := by
  unfold sX10_prints sX11_prints
  by_cases a : (-1 : Int32) ≤ k
  · rw [if_pos a, if_pos a]
    have hk : -1 ≤ k.toInt := i_le (show ((-1 : Int32)).toInt = -1 by decide) rfl a
    obtain ⟨hz, ⟨h1, h2, h3⟩ | ⟨h1, K, h2, h3⟩⟩ := h
    · subst h1
      rw [if_pos rfl, if_pos rfl]
      exact ⟨rfl, rfl, fun _ _ => rfl⟩
    · subst h1; subst h2
      rw [if_neg (show ¬ (1 : Int32) = 0 by decide), if_neg (show ¬ (1 : Int32) = 0 by decide)]
      simp only [ltd]
      have hkept : s17 (sX11_keep state kept) state := by
        rw [keep_eq]; intro n hn; exact colTo_at hn
      obtain ⟨cf, ff, pf, st', b', e1, e2, e3⟩ := h3.prints hY k hk (sX11_keep state kept) hkept 100 0 101 101 0 (-1000000) print state brings f0 kv0 mv0 (by omega) (by omega) (by omega) (by omega) (fun _ _ => rfl) (fun q => Or.inl (Int32.toInt_inj.mp (by rw [show ((-1 : Int32)).toInt = -1 from by decide]; omega))) (fun _ => rfl)
      have e1' : lX11_prints_41 k (nI K) low high lot market of (sX11_keep state kept) 101 0 (-1000000) 0 print state brings = (nI 100, ff, cf, pf, st', b') := e1
      rw [e1']
      have e3 := e3 (Or.inr (Or.inr trivial))
      rw [if_pos (by
        rcases Int.lt_or_le k.toInt 0 with z | z
        · exact Or.inl (Int32.toInt_inj.mp (by rw [show ((-1 : Int32)).toInt = -1 from by decide]; omega))
        · exact Or.inr (by omega))] at e3
      unfold sX8_truePrint
      have e3' : (lX8_truePrint_5 k f kv mv 101 0 0 f0 kv0 mv0).1 = (if k = -1 then cf else ff) := e3
      rw [e3']
      by_cases q : k = -1
      · rw [if_pos q, if_pos q]; exact ⟨rfl, rfl, e2⟩
      · rw [if_neg q, if_neg q]; exact ⟨rfl, rfl, e2⟩
  · rw [if_neg a, if_neg a]
    exact ⟨rfl, rfl, fun _ _ => rfl⟩
end
section
variable {K Y : Nat} {g kinds print low high lot : Int32} {market of state f : Nat → Int32} {kv : Nat → Nat → Int32} {mv : Nat → Int32}
theorem LD.many (h : LD K Y print low high lot market of state f kv mv) {j : Nat} (hj : j < K) {v : Int32} (hv : bd v 40) : LD K Y print low high lot market (upd of (6 * j + 2) v) state f (va_up kv j (upd (kv j) 2 v)) mv := by
  have hK := h.hK
  have hk : ∀ i c, c ≠ 2 → va_up kv j (upd (kv j) 2 v) i c = kv i c := by
    intro i c hc
    by_cases e : i = j
    · subst e; rw [pu_vs, pu_un hc]
    · rw [pu_vn e]
  have ho : ∀ i c, c < 6 → c ≠ 2 → upd of (6 * j + 2) v (6 * i + c) = of (6 * i + c) := fun i c hc h2 => pu_un (by omega)
  refine LD.mk' hK h.f2 h.f3 h.f4 h.f5 h.f6 h.f7 h.f8 h.f9 h.f10 h.f11 h.m0 h.m1 h.m2 h.m3 h.m4 ?_ (fun i hi => (hk i 6 (by omega)).trans (h.kc i hi)) (fun i hi => (hk i 7 (by omega)).trans (h.ko i hi)) h.bt h.bq h.bf h.b0 h.b1 h.b2 h.bp h.bl h.bs ?_ ?_ h.kx h.kn ?_
  · intro i hi c hc
    by_cases e : c = 2
    · subst e
      by_cases e2 : i = j
      · subst e2; rw [pu_vs, pu_us, pu_us]
      · rw [pu_vn e2, pu_un (by omega)]; exact h.kd i hi 2 hc
    · rw [hk i c e, ho i c hc e]; exact h.kd i hi c hc
  · intro i hi
    obtain ⟨b2, b3, b4, b5⟩ := h.kb i hi
    refine ⟨?_, ?_, ?_, ?_⟩
    · by_cases e2 : i = j
      · subst e2; rw [pu_us]; exact hv
      · rw [pu_un (by omega)]; exact b2
    · rw [ho i 3 (by omega) (by omega)]; exact b3
    · rw [ho i 4 (by omega) (by omega)]; exact b4
    · rw [ho i 5 (by omega) (by omega)]; exact b5
  · intro i hi
    have e0 : upd of (6 * j + 2) v (6 * i) = of (6 * i) := pu_un (by omega)
    rw [e0, ho i 1 (by omega) (by omega)]
    exact h.kw i hi
  · intro i hi
    rw [hk i 7 (by omega)]; exact h.kz i hi
theorem kindAt_some {j K : Nat} (hK : K ≤ 5) (hj : j < K) {f : Nat → Int32} (hf : f 2 = nI K) : sX2_kindAt (nI j) f = some j := by
  unfold sX2_kindAt
  rw [hf, if_neg (show ¬ nI j < (0 : Int32) from fun q => by have := (pu_lt (b := 0) (by omega) (by omega)).mp q; omega), if_neg (fun q => by have := (pu_le (by omega) (by omega)).mp q; omega), if_neg (show ¬ (5 : Int32) ≤ nI j from fun q => by have := (pu_le (a := 5) (by omega) (by omega)).mp q; omega), pu_nat (by omega)]
theorem LD.gains (h : LD K Y print low high lot market of state f kv mv) (hY : Y + 30 ≤ 52000) {j N : Nat} (hj : j < K) (hj0 : 0 < j) (hN : N ≤ 30) {v : Int32} (hv : bd v 40) (st cur brings kept : Nat → Int32) (hst : s17 st state) (hkept : s17 kept state) (hcur : upd cur (6 * j + 2) v = upd of (6 * j + 2) v) (f0 : Nat → Int32) (kv0 : Nat → Nat → Int32) (mv0 : Nat → Int32) :
    ∃ (st' b' : Nat → Int32), lX11_bears_79 (nI N) (nI K) print low high lot market (upd cur (6 * j + 2) v) 31 0 st brings = (nI N, st', b') ∧ (sX8_gainsEnough (nI j) v (nI N) f0 kv0 mv0 f kv mv).1 = (if (st' (7 + j) - kept (7 + j)) < (st' 7 - kept 7) then 0 else 1) := by
  have hK := h.hK
  rw [be_years, hcur]
  have ht := ((h.st hst).take f0 kv0 mv0)
  have hm := ht.many hj hv
  obtain ⟨st', f', kv', mv', b', e1, e2, e3⟩ := LD.years (N := N) (by omega) N 31 0 Y st _ _ _ brings (by omega) (by omega) (by omega) hm
  refine ⟨st', b', e2, ?_⟩
  unfold sX8_gainsEnough
  simp only [ltd]
  rw [kindAt_some hK hj ht.f2, show (0 : Int32) = nI 0 from rfl, kindAt_some hK (show 0 < K by omega) ht.f2]
  rw [if_neg (fun q => by cases q), if_neg (fun q => by cases q)]
  have g0 : (some j).getD 0 = j := rfl
  have g1 : (some 0).getD 0 = 0 := rfl
  simp only [g0, g1]
  rw [ge_years, e1]
  simp only
  have k1 : va_up (sX2_takeAll f0 kv0 mv0 f kv mv).2.1 j (upd ((sX2_takeAll f0 kv0 mv0 f kv mv).2.1 j) 2 v) j 6 = state (7 + j) := by
    rw [pu_vs, pu_un (by omega), ht.kc j hj, hst (7 + j) (by omega)]
  have k2 : va_up (sX2_takeAll f0 kv0 mv0 f kv mv).2.1 j (upd ((sX2_takeAll f0 kv0 mv0 f kv mv).2.1 j) 2 v) 0 6 = state 7 := by
    rw [pu_vn (by omega), ht.kc 0 (by omega), hst 7 (by omega)]
  rw [k1, k2, e3.kc j hj, e3.kc 0 (by omega), hkept (7 + j) (by omega), hkept 7 (by omega)]
  have x1 := e3.kx j hj
  have x2 := e3.kx 0 (by omega)
  have x3 := h.kx j hj
  have x4 := h.kx 0 (by omega)
  rw [show 7 + 0 = 7 from rfl] at x2 x4 ⊢
  have a1 := i_sub (x := st' (7 + j)) (y := st' 7) (by omega) (by omega)
  have a2 := i_sub (x := state (7 + j)) (y := state 7) (by omega) (by omega)
  have a3 := i_sub (x := st' (7 + j)) (y := state (7 + j)) (by omega) (by omega)
  have a4 := i_sub (x := st' 7) (y := state 7) (by omega) (by omega)
  have ee : (st' (7 + j) - st' 7 < state (7 + j) - state 7) ↔ (st' (7 + j) - state (7 + j) < st' 7 - state 7) := by
    rw [Int32.lt_iff_toInt_lt, Int32.lt_iff_toInt_lt, a1, a2, a3, a4]; omega
  by_cases c : st' (7 + j) - st' 7 < state (7 + j) - state 7
  · rw [if_pos c, if_pos (ee.mp c)]
  · rw [if_neg c, if_neg (fun q => c (ee.mpr q))]
theorem LD.borne (h : LD K Y print low high lot market of state f kv mv) (hY : Y + 30 ≤ 52000) {j N : Nat} (hj : j < K) (hj0 : 0 < j) (hN : N ≤ 30) (kept : Nat → Int32) (hkept : s17 kept state) : ∀ (m i n1 n2 : Nat) (st cur b f0 : Nat → Int32) (kv0 : Nat → Nat → Int32) (mv0 : Nat → Int32), i + m = 40 → m < n1 → m + 1 < n2 → s17 st state → (∀ n, n ≠ 6 * j + 2 → cur n = of n) →
    ∃ (fl r : Int32) (of' st' b' : Nat → Int32), lX11_bears_49 (nI j) (nI N) (nI K) print low high lot market kept n2 1 (nI i) cur st b = (fl, r, of', st', b') ∧ s17 st' state ∧ (∀ n, n ≠ 6 * j + 2 → of' n = of n) ∧ (lX8_mostBorne_3 (nI j) (nI N) f kv mv n1 (nI i) f0 kv0 mv0).1 = r := by
  have hK := h.hK
  intro m
  induction m with
  | zero =>
    intro i n1 n2 st cur b f0 kv0 mv0 h1 h2 h3 hst hc
    obtain ⟨n1, rfl⟩ : ∃ n', n1 = n' + 1 := ⟨n1 - 1, by omega⟩
    obtain ⟨n2, rfl⟩ : ∃ n', n2 = n' + 1 := ⟨n2 - 1, by omega⟩
    have : i = 40 := by omega
    subst this
    refine ⟨1, nI 40, cur, st, b, ?_, hst, hc, ?_⟩
    · rw [lX11_bears_49, if_neg (show ¬ (1 : Int32) = 0 by decide), if_pos (show (40 : Int32) ≤ nI 40 from Int32.le_refl _)]
    · rw [lX8_mostBorne_3, if_pos (show (40 : Int32) ≤ nI 40 from Int32.le_refl _)]
  | succ m ih =>
    intro i n1 n2 st cur b f0 kv0 mv0 h1 h2 h3 hst hc
    obtain ⟨n1, rfl⟩ : ∃ n', n1 = n' + 1 := ⟨n1 - 1, by omega⟩
    obtain ⟨n2, rfl⟩ : ∃ n', n2 = n' + 1 + 1 := ⟨n2 - 2, by omega⟩
    have g1 : ¬ (40 : Int32) ≤ nI i := fun q => by have := (pu_le (a := 40) (by omega) (by omega)).mp q; omega
    have hcur : upd cur (6 * j + 2) (nI (i + 1)) = upd of (6 * j + 2) (nI (i + 1)) := by
      funext n
      by_cases e : n = 6 * j + 2
      · subst e; rw [pu_us, pu_us]
      · rw [pu_un e, pu_un e, hc n e]
    have n62 : (6 * nI j + 2).toNatClampNeg = 6 * j + 2 := by rw [show (6 : Int32) = nI 6 from rfl, show (2 : Int32) = nI 2 from rfl, pu_mul, pu_add, pu_nat (by omega)]
    have n7 : (7 + nI j).toNatClampNeg = 7 + j := by rw [show (7 : Int32) = nI 7 from rfl, pu_add, pu_nat (by omega)]
    obtain ⟨st', b', e1, e2⟩ := h.gains hY hj hj0 hN (v := nI (i + 1)) ⟨i + 1, by omega, rfl⟩ st cur b kept hst hkept hcur f0 kv0 mv0
    have hback : s17 (sX11_comeBack st' kept) state := by
      rw [comeBack_eq]
      intro n hn
      rw [colTo_at hn]
      exact hkept n hn
    have hc' : ∀ n, n ≠ 6 * j + 2 → upd cur (6 * j + 2) (nI (i + 1)) n = of n := fun n hn => (pu_un hn).trans (hc n hn)
    rw [lX11_bears_49, if_neg (show ¬ (1 : Int32) = 0 by decide), if_neg g1]
    simp only [ltd]
    rw [n62, n7, pu_succ, e1]
    simp only
    rw [lX8_mostBorne_3, if_neg g1]
    simp only [ltd]
    rw [pu_succ, e2]
    by_cases c : (st' (7 + j) - kept (7 + j)) < (st' 7 - kept 7)
    · rw [if_pos c, if_pos (show (0 : Int32) = 0 from rfl), if_pos (show (0 : Int32) = 0 from rfl), Int32.add_zero]
      refine ⟨0, nI i, _, _, b', ?_, hback, hc', rfl⟩
      rw [lX11_bears_49, if_pos rfl]
    · rw [if_neg c, if_neg (show ¬ (1 : Int32) = 0 by decide), if_neg (show ¬ (1 : Int32) = 0 by decide), pu_succ]
      exact ih (i + 1) n1 (n2 + 1) _ _ b' _ _ _ (by omega) (by omega) (by omega) hback hc'
theorem bears_ok (h : LI g kinds Y print low high lot market of state f kv mv) (hY : Y + 30 ≤ 52000) (k nn : Int32) (kept brings f0 : Nat → Int32) (kv0 : Nat → Nat → Int32) (mv0 : Nat → Int32) :
    (sX10_bears k nn f0 kv0 mv0 f kv mv).1 = (sX11_bears k nn kinds print low high lot market of state kept brings).1 ∧ (sX11_bears k nn kinds print low high lot market of state kept brings).2.2.1 = of ∧ s17 (sX11_bears k nn kinds print low high lot market of state kept brings).2.2.2.1 state := by
  have h30 : (30 : Int32).toInt = 30 := by decide
  unfold sX10_bears sX11_bears
  simp only [ltd]
  have none' : ∀ {K : Nat} (hK : K ≤ 5) (hf : f 2 = nI K), kinds = nI K → ((sX11_isKind k kinds = 0 ∨ k.toInt < 1) ∧ (k < 1 ∨ sX10_kindOf k f = none)) ∨ (∃ j, 0 < j ∧ j < K ∧ k = nI j ∧ sX11_isKind k kinds = 1 ∧ sX10_kindOf k f = some j) := by
    intro K hK hf hk
    subst hk
    rcases kind_cases (k := k) hK hf with ⟨j, a1, a2, a3, a4⟩ | ⟨a1, a2, -⟩
    · rcases Nat.eq_zero_or_pos j with z | z
      · left
        subst z
        rw [a2]
        exact ⟨Or.inr (by decide), Or.inl (by decide)⟩
      · exact Or.inr ⟨j, z, a1, a2, a3, a4⟩
    · exact Or.inl ⟨Or.inl a1, Or.inr a2⟩
  have hkk : ∃ K, K ≤ 5 ∧ f 2 = nI K ∧ kinds = nI K ∧ (0 < K → LD K Y print low high lot market of state f kv mv) := by
    obtain ⟨hz, ⟨h1, h2, h3⟩ | ⟨h1, K, h2, h3⟩⟩ := h
    · exact ⟨0, by omega, h3, h2, fun q => by omega⟩
    · exact ⟨K, h3.hK, h3.f2, h2, fun _ => h3⟩
  obtain ⟨K, hK, hf, hkd, hld⟩ := hkk
  rcases none' hK hf hkd with ⟨b1, b2⟩ | ⟨j, j0, jK, ej, b1, b2⟩
  · have eC : ∀ (A B C : Int32 × (Nat → Int32) × (Nat → Nat → Int32) × (Nat → Int32)), (if k < 1 then A else if sX10_kindOf k f = none then A else B) = A := by
      intro A B C
      rcases b2 with b2 | b2
      · rw [if_pos b2]
      · rw [if_pos b2]; split <;> rfl
    rw [eC _ _ (0, f, kv, mv)]
    by_cases a : sX11_isKind k kinds = 0
    · rw [if_pos a]; exact ⟨rfl, rfl, fun _ _ => rfl⟩
    · rw [if_neg a]
      have hk0 : k = 0 := by
        rcases b1 with b1 | b1
        · exact absurd b1 a
        · rw [hkd, isKind_eq hK] at a
          by_cases c : 0 ≤ k.toInt ∧ k.toInt < K
          · exact Int32.toInt_inj.mp (by rw [i_0]; omega)
          · rw [if_neg c] at a; exact absurd rfl a
      rw [if_pos hk0]
      exact ⟨rfl, rfl, fun _ _ => rfl⟩
  · have h3 := hld (by omega)
    subst hkd
    subst ej
    rw [b1, b2]
    rw [if_neg (show ¬ nI j < (1 : Int32) from fun q => by have := (pu_lt (b := 1) (by omega) (by omega)).mp q; omega), if_neg (show ¬ (some j = none) from fun q => by cases q), if_neg (show ¬ (1 : Int32) = 0 by decide), if_neg (show ¬ nI j = (0 : Int32) from fun q => by have := (pu_inj (b := 0) (by omega) (by omega)).mp q; omega)]
    simp only [Int32.lt_iff_toInt_lt, Int32.le_iff_toInt_le, i_1, h30]
    by_cases a : nn.toInt < 1
    · rw [if_pos a, in_no (a := 1) (b := 30) (by decide) (by decide) (by omega), if_pos (show (0 : Int32) = 0 from rfl)]
      exact ⟨rfl, rfl, fun _ _ => rfl⟩
    · rw [if_neg a]
      by_cases b : nn.toInt ≤ 30
      · rw [if_pos b, in_yes (a := 1) (b := 30) (by decide) (by decide) (by omega) b, if_neg (show ¬ (1 : Int32) = 0 by decide)]
        obtain ⟨N, hN, rfl⟩ := pu_ex (x := nn) (b := 30) (by omega) (by omega)
        have hkept : s17 (sX11_keep state kept) state := by
          rw [keep_eq]; intro n hn; exact colTo_at hn
        obtain ⟨fl, r, of', st', b', e1, e2, e3, e4⟩ := h3.borne hY jK j0 hN (sX11_keep state kept) hkept 40 0 41 42 state of brings f0 kv0 mv0 (by omega) (by omega) (by omega) (fun _ _ => rfl) (fun _ _ => rfl)
        have e1' : lX11_bears_49 (nI j) (nI N) (nI K) print low high lot market (sX11_keep state kept) 42 1 0 of state brings = (fl, r, of', st', b') := e1
        have e4' : (lX8_mostBorne_3 (nI j) (nI N) f kv mv 41 0 f0 kv0 mv0).1 = r := e4
        unfold sX8_mostBorne
        simp only [ltd]
        rw [e1', e4']
        have n62 : (6 * nI j + 2).toNatClampNeg = 6 * j + 2 := by rw [show (6 : Int32) = nI 6 from rfl, show (2 : Int32) = nI 2 from rfl, pu_mul, pu_add, pu_nat (by omega)]
        have t2 : sX11_told (nI j) 2 of = of (6 * j + 2) := told_eq (c := 2) rfl (by omega) (by omega) of
        rw [n62, t2]
        refine ⟨rfl, ?_, e2⟩
        show upd of' (6 * j + 2) (of (6 * j + 2)) = of
        funext n
        by_cases q : n = 6 * j + 2
        · subst q; rw [pu_us]
        · rw [pu_un q, e3 n q]
      · rw [if_neg b, in_no (a := 1) (b := 30) (by decide) (by decide) (by omega), if_pos (show (0 : Int32) = 0 from rfl)]
        exact ⟨rfl, rfl, fun _ _ => rfl⟩
end
section
variable {K Y : Nat} {g kinds print low high lot : Int32} {market of state f : Nat → Int32} {kv : Nat → Nat → Int32} {mv : Nat → Int32}
theorem min_eq (p c : Int32) : (if p < c then p else c) = if c ≤ p then c else p := by
  by_cases h : p < c
  · rw [if_pos h, if_neg (fun q => by rw [Int32.lt_iff_toInt_lt] at h; rw [Int32.le_iff_toInt_le] at q; omega)]
  · rw [if_neg h, if_pos (by rw [Int32.lt_iff_toInt_lt] at h; rw [Int32.le_iff_toInt_le]; omega)]
theorem max_eq (p c : Int32) : (if c < p then p else c) = if p ≤ c then c else p := by
  by_cases h : c < p
  · rw [if_pos h, if_neg (fun q => by rw [Int32.lt_iff_toInt_lt] at h; rw [Int32.le_iff_toInt_le] at q; omega)]
  · rw [if_neg h, if_pos (by rw [Int32.lt_iff_toInt_lt] at h; rw [Int32.le_iff_toInt_le]; omega)]
theorem LD.spread {N : Nat} (hN : N ≤ 20) : ∀ (m n1 n2 i Y : Nat) (dear cheap : Int32) (state f : Nat → Int32) (kv : Nat → Nat → Int32) (mv brings : Nat → Int32), i + m = N → m < n1 → m < n2 → Y + m ≤ 60000 → LD K Y print low high lot market of state f kv mv →
    ∃ (dear' cheap' : Int32) (st' f' : Nat → Int32) (kv' : Nat → Nat → Int32) (mv' b' : Nat → Int32), lX8_spreadUnder_42 (nI N) n1 (nI i) dear cheap f kv mv = (nI N, dear', cheap', f', kv', mv') ∧ lX11_calm_139 (nI N) (nI K) print market of lot high low n2 (nI i) cheap dear state brings = (nI N, cheap', dear', st', b') ∧ LD K (Y + m) print low high lot market of st' f' kv' mv' := by
  intro m
  induction m with
  | zero =>
    intro n1 n2 i Y dear cheap state f kv mv brings h1 h2 h3 h4 h
    obtain ⟨n1, rfl⟩ : ∃ n', n1 = n' + 1 := ⟨n1 - 1, by omega⟩
    obtain ⟨n2, rfl⟩ : ∃ n', n2 = n' + 1 := ⟨n2 - 1, by omega⟩
    have : i = N := by omega
    subst this
    refine ⟨dear, cheap, state, f, kv, mv, brings, ?_, ?_, h⟩
    · rw [lX8_spreadUnder_42, if_pos (Int32.le_refl _)]
    · rw [lX11_calm_139, if_pos (Int32.le_refl _)]
  | succ m ih =>
    intro n1 n2 i Y dear cheap state f kv mv brings h1 h2 h3 h4 h
    obtain ⟨n1, rfl⟩ : ∃ n', n1 = n' + 1 := ⟨n1 - 1, by omega⟩
    obtain ⟨n2, rfl⟩ : ∃ n', n2 = n' + 1 := ⟨n2 - 1, by omega⟩
    have g : ¬ nI N ≤ nI i := fun q => by have := (pu_le (by omega) (by omega)).mp q; omega
    have hy := h.year (by omega) brings
    obtain ⟨dear', cheap', st', f', kv', mv', b', e1, e2, e3⟩ := ih n1 n2 (i + 1) (Y + 1) (if (sX11_year (nI K) print low high lot market of state brings).1 0 ≤ dear then dear else (sX11_year (nI K) print low high lot market of state brings).1 0) (if cheap ≤ (sX11_year (nI K) print low high lot market of state brings).1 0 then cheap else (sX11_year (nI K) print low high lot market of state brings).1 0) _ _ _ _ (sX11_year (nI K) print low high lot market of state brings).2 (by omega) (by omega) (by omega) (by omega) hy.2
    refine ⟨dear', cheap', st', f', kv', mv', b', ?_, ?_, by rw [show Y + (m + 1) = Y + 1 + m by omega]; exact e3⟩
    · rw [lX8_spreadUnder_42, if_neg g]
      simp only [ltd]
      rw [hy.1, pu_succ, min_eq, max_eq]
      exact e1
    · rw [lX11_calm_139, if_neg g]
      simp only [ltd]
      rw [pu_succ]
      exact e2
theorem LD.calm1 (h : LD K Y print low high lot market of state f kv mv) {lo hi lt' : Int32} (hl : bd lt' 99) (st : Nat → Int32) (hst : s17 st state) : LD K Y print lo hi lt' market of (upd (upd st 4 0) 5 0) f kv (sX3_order lo hi lt' (sX3_forget mv)) := by
  have h' := h.st hst
  have hK := h.hK
  have e : ∀ n, n ≠ 4 → n ≠ 5 → upd (upd st 4 0) 5 0 n = st n := fun n h4 h5 => by rw [pu_un h5, pu_un h4]
  refine LD.mk' hK h'.f2 h'.f3 h'.f4 h'.f5 h'.f6 h'.f7 h'.f8 h'.f9 h'.f10 h'.f11 rfl rfl rfl rfl rfl h'.kd ?_ ?_ h'.bt h'.bq h'.bf h'.b0 h'.b1 h'.b2 h'.bp hl ⟨0, by omega, rfl⟩ h'.kb h'.kw ?_ ?_ h'.kz
  · intro j hj; rw [e _ (by omega) (by omega)]; exact h'.kc j hj
  · intro j hj; rw [e _ (by omega) (by omega)]; exact h'.ko j hj
  · intro j hj; rw [e _ (by omega) (by omega)]; exact h'.kx j hj
  · intro j hj; rw [e _ (by omega) (by omega), e _ (by omega) (by omega)]; exact h'.kn j hj
theorem LD.under (h : LD K Y print low high lot market of state f kv mv) (hY : Y + 20 ≤ 60000) {N : Nat} (hN : N ≤ 20) (hN1 : 1 ≤ N) {lo hi lt' : Int32} (hl : bd lt' 99) (st brings : Nat → Int32) (hst : s17 st state) (f0 : Nat → Int32) (kv0 : Nat → Nat → Int32) (mv0 : Nat → Int32) :
    ∃ (dear cheap : Int32) (st' b' : Nat → Int32), lX11_calm_139 (nI N) (nI K) print market of lt' hi lo 21 0 100 0 (upd (upd st 4 0) 5 0) brings = (nI N, cheap, dear, st', b') ∧ (sX8_spreadUnder lo hi lt' (nI N) f0 kv0 mv0 f kv mv).1 = dear - cheap ∧ (sX8_spreadUnder lo hi lt' (nI N) f0 kv0 mv0 f kv mv).2.2.2 4 = st' 5 := by
  have hc := (h.take f0 kv0 mv0).calm1 (lo := lo) (hi := hi) hl st hst
  obtain ⟨M, rfl⟩ : ∃ M, N = M + 1 := ⟨N - 1, by omega⟩
  have g : ¬ nI (M + 1) ≤ nI 0 := fun q => by have := (pu_le (by omega) (by omega)).mp q; omega
  have hy := hc.year (by omega) brings
  obtain ⟨p, hp, ep⟩ := hy.2.b0
  obtain ⟨dear', cheap', st', f', kv', mv', b', e1, e2, e3⟩ := LD.spread (N := M + 1) hN M 30 20 1 (Y + 1) (if nI p ≤ 0 then 0 else nI p) (nI p) _ _ _ _ (sX11_year (nI K) print lo hi lt' market of (upd (upd st 4 0) 5 0) brings).2 (by omega) (by omega) (by omega) (by omega) hy.2
  refine ⟨dear', cheap', st', b', ?_, ?_⟩
  · have : (0 : Int32) = nI 0 := rfl
    rw [lX11_calm_139, if_neg (show ¬ nI (M + 1) ≤ (0 : Int32) from g)]
    simp only [ltd]
    rw [ep, if_neg (show ¬ (100 : Int32) ≤ nI p from fun q => by have := (pu_le (a := 100) (by omega) (by omega)).mp q; omega)]
    exact e2
  · unfold sX8_spreadUnder
    simp only [ltd]
    have e : lX8_spreadUnder_42 (nI (M + 1)) 31 0 0 99 (sX2_takeAll f0 kv0 mv0 f kv mv).1 (sX2_takeAll f0 kv0 mv0 f kv mv).2.1 (sX3_order lo hi lt' (sX3_forget (sX2_takeAll f0 kv0 mv0 f kv mv).2.2)) = (nI (M + 1), dear', cheap', f', kv', mv') := by
      rw [lX8_spreadUnder_42, if_neg (show ¬ nI (M + 1) ≤ (0 : Int32) from g)]
      simp only [ltd]
      rw [hy.1, ep, max_eq]
      have : (if nI p < 99 then nI p else (99 : Int32)) = nI p := by
        by_cases q : p < 99
        · rw [if_pos (show nI p < (99 : Int32) from (pu_lt (b := 99) (by omega) (by omega)).mpr q)]
        · rw [if_neg (show ¬ nI p < (99 : Int32) from fun z => q ((pu_lt (b := 99) (by omega) (by omega)).mp z)), show p = 99 by omega]; rfl
      rw [this]
      exact e1
    rw [e]
    exact ⟨rfl, e3.m4⟩
theorem LD.calmLow (h : LD K Y print low high lot market of state f kv mv) (hY : Y + 20 ≤ 60000) {N B : Nat} (hN : N ≤ 20) (hN1 : 1 ≤ N) (hB : B ≤ 10) {lt' w : Int32} (hl : bd lt' 99) (kept : Nat → Int32) (hkept : s17 kept state) : ∀ (m a n1 n2 : Nat) (cost best : Int32) (st b f0 : Nat → Int32) (kv0 : Nat → Nat → Int32) (mv0 : Nat → Int32), a + m = B → m < n1 → m < n2 → s17 st state →
    ∃ (cost' best' : Int32) (f' : Nat → Int32) (kv' : Nat → Nat → Int32) (mv' st' b' : Nat → Int32), lX8_cheapestCalm_31 (nI N) w f kv mv lt' (nI (5 * B)) n1 (nI (5 * a)) cost best f0 kv0 mv0 = (nI (5 * B), cost', best', f', kv', mv') ∧ lX11_calm_104 (nI N) w (nI K) print market of kept lt' (nI (5 * B)) n2 cost best (nI (5 * a)) st b = (cost', best', nI (5 * B), st', b') ∧ s17 st' state := by
  intro m
  induction m with
  | zero =>
    intro a n1 n2 cost best st b f0 kv0 mv0 h1 h2 h3 hst
    obtain ⟨n1, rfl⟩ : ∃ n', n1 = n' + 1 := ⟨n1 - 1, by omega⟩
    obtain ⟨n2, rfl⟩ : ∃ n', n2 = n' + 1 := ⟨n2 - 1, by omega⟩
    have : a = B := by omega
    subst this
    refine ⟨cost, best, f0, kv0, mv0, st, b, ?_, ?_, hst⟩
    · rw [lX8_cheapestCalm_31, if_pos (Int32.le_refl _)]
    · rw [lX11_calm_104, if_pos (Int32.le_refl _)]
  | succ m ih =>
    intro a n1 n2 cost best st b f0 kv0 mv0 h1 h2 h3 hst
    obtain ⟨n1, rfl⟩ : ∃ n', n1 = n' + 1 := ⟨n1 - 1, by omega⟩
    obtain ⟨n2, rfl⟩ : ∃ n', n2 = n' + 1 := ⟨n2 - 1, by omega⟩
    have g : ¬ nI (5 * B) ≤ nI (5 * a) := fun q => by have := (pu_le (by omega) (by omega)).mp q; omega
    obtain ⟨dear, cheap, st', b', e1, e2, e3⟩ := h.under hY hN hN1 (lo := nI (5 * a)) (hi := nI (5 * B)) hl st b hst f0 kv0 mv0
    have hback : s17 (sX11_comeBack st' kept) state := by
      rw [comeBack_eq]
      intro n hn
      rw [colTo_at hn]
      exact hkept n hn
    have n5 : nI (5 * a) + 5 = nI (5 * (a + 1)) := by rw [show (5 : Int32) = nI 5 from rfl, pu_add]; rfl
    rw [lX8_cheapestCalm_31, if_neg g, lX11_calm_104, if_neg g]
    simp only [ltd]
    rw [e1]
    simp only
    rw [e2, e3, n5]
    by_cases c : w < dear - cheap
    · rw [if_pos c, if_pos (show (0 : Int32) = 0 from rfl), if_pos c]
      exact ih (a + 1) n1 n2 cost best _ b' _ _ _ (by omega) (by omega) (by omega) hback
    · rw [if_neg c, if_neg (show ¬ (1 : Int32) = 0 by decide), if_neg c]
      exact ih (a + 1) n1 n2 _ _ _ b' _ _ _ (by omega) (by omega) (by omega) hback
theorem LD.calmHigh (h : LD K Y print low high lot market of state f kv mv) (hY : Y + 20 ≤ 60000) {N : Nat} (hN : N ≤ 20) (hN1 : 1 ≤ N) {lt' w : Int32} (hl : bd lt' 99) (kept : Nat → Int32) (hkept : s17 kept state) : ∀ (m a n1 n2 : Nat) (cost best lo0 : Int32) (st b f0 : Nat → Int32) (kv0 : Nat → Nat → Int32) (mv0 : Nat → Int32), a + m = 11 → m < n1 → m < n2 → s17 st state →
    ∃ (cost' best' lo' : Int32) (f' : Nat → Int32) (kv' : Nat → Nat → Int32) (mv' st' b' : Nat → Int32), lX8_cheapestCalm_21 (nI N) w f kv mv lt' n1 (nI (5 * a)) cost best f0 kv0 mv0 = (nI 55, cost', best', f', kv', mv') ∧ lX11_calm_90 (nI N) w (nI K) print market of kept lt' n2 cost best lo0 (nI (5 * a)) st b = (cost', best', lo', nI 55, st', b') ∧ s17 st' state := by
  intro m
  induction m with
  | zero =>
    intro a n1 n2 cost best lo0 st b f0 kv0 mv0 h1 h2 h3 hst
    obtain ⟨n1, rfl⟩ : ∃ n', n1 = n' + 1 := ⟨n1 - 1, by omega⟩
    obtain ⟨n2, rfl⟩ : ∃ n', n2 = n' + 1 := ⟨n2 - 1, by omega⟩
    have : a = 11 := by omega
    subst this
    refine ⟨cost, best, lo0, f0, kv0, mv0, st, b, ?_, ?_, hst⟩
    · rw [lX8_cheapestCalm_21, if_pos (show (50 : Int32) < nI (5 * 11) by decide)]
    · rw [lX11_calm_90, if_pos (show (51 : Int32) ≤ nI (5 * 11) by decide)]
  | succ m ih =>
    intro a n1 n2 cost best lo0 st b f0 kv0 mv0 h1 h2 h3 hst
    obtain ⟨n1, rfl⟩ : ∃ n', n1 = n' + 1 := ⟨n1 - 1, by omega⟩
    obtain ⟨n2, rfl⟩ : ∃ n', n2 = n' + 1 := ⟨n2 - 1, by omega⟩
    have g1 : ¬ (50 : Int32) < nI (5 * a) := fun q => by have := (pu_lt (a := 50) (by omega) (by omega)).mp q; omega
    have g2 : ¬ (51 : Int32) ≤ nI (5 * a) := fun q => by have := (pu_le (a := 51) (by omega) (by omega)).mp q; omega
    have n5 : nI (5 * a) + 5 = nI (5 * (a + 1)) := by rw [show (5 : Int32) = nI 5 from rfl, pu_add]; rfl
    obtain ⟨cost', best', f', kv', mv', st', b', e1, e2, e3⟩ := h.calmLow hY hN hN1 (B := a) (by omega) (w := w) hl kept hkept a 0 13 13 cost best st b f0 kv0 mv0 (by omega) (by omega) (by omega) hst
    have e1' : lX8_cheapestCalm_31 (nI N) w f kv mv lt' (nI (5 * a)) 13 0 cost best f0 kv0 mv0 = (nI (5 * a), cost', best', f', kv', mv') := e1
    have e2' : lX11_calm_104 (nI N) w (nI K) print market of kept lt' (nI (5 * a)) 13 cost best 0 st b = (cost', best', nI (5 * a), st', b') := e2
    rw [lX8_cheapestCalm_21, if_neg g1, lX11_calm_90, if_neg g2]
    simp only [ltd]
    rw [e1', e2', n5]
    exact ih (a + 1) n1 n2 cost' best' _ st' b' _ _ _ (by omega) (by omega) (by omega) e3
theorem LD.calmLot (h : LD K Y print low high lot market of state f kv mv) (hY : Y + 20 ≤ 60000) {N : Nat} (hN : N ≤ 20) (hN1 : 1 ≤ N) {w : Int32} (kept : Nat → Int32) (hkept : s17 kept state) : ∀ (m a n1 n2 : Nat) (cost best lo0 hi0 : Int32) (st b f0 : Nat → Int32) (kv0 : Nat → Nat → Int32) (mv0 : Nat → Int32), a + m = 4 → m < n1 → m < n2 → s17 st state →
    ∃ (cost' best' lo' hi' : Int32) (f' : Nat → Int32) (kv' : Nat → Nat → Int32) (mv' st' b' : Nat → Int32), lX8_cheapestCalm_11 (nI N) w f kv mv n1 (nI (10 * a)) cost best f0 kv0 mv0 = (nI 40, cost', best', f', kv', mv') ∧ lX11_calm_76 (nI N) w (nI K) print market of kept n2 cost best lo0 hi0 (nI (10 * a)) st b = (cost', best', lo', hi', nI 40, st', b') ∧ s17 st' state := by
  intro m
  induction m with
  | zero =>
    intro a n1 n2 cost best lo0 hi0 st b f0 kv0 mv0 h1 h2 h3 hst
    obtain ⟨n1, rfl⟩ : ∃ n', n1 = n' + 1 := ⟨n1 - 1, by omega⟩
    obtain ⟨n2, rfl⟩ : ∃ n', n2 = n' + 1 := ⟨n2 - 1, by omega⟩
    have : a = 4 := by omega
    subst this
    refine ⟨cost, best, lo0, hi0, f0, kv0, mv0, st, b, ?_, ?_, hst⟩
    · rw [lX8_cheapestCalm_11, if_pos (show (30 : Int32) < nI (10 * 4) by decide)]
    · rw [lX11_calm_76, if_pos (show (31 : Int32) ≤ nI (10 * 4) by decide)]
  | succ m ih =>
    intro a n1 n2 cost best lo0 hi0 st b f0 kv0 mv0 h1 h2 h3 hst
    obtain ⟨n1, rfl⟩ : ∃ n', n1 = n' + 1 := ⟨n1 - 1, by omega⟩
    obtain ⟨n2, rfl⟩ : ∃ n', n2 = n' + 1 := ⟨n2 - 1, by omega⟩
    have g1 : ¬ (30 : Int32) < nI (10 * a) := fun q => by have := (pu_lt (a := 30) (by omega) (by omega)).mp q; omega
    have g2 : ¬ (31 : Int32) ≤ nI (10 * a) := fun q => by have := (pu_le (a := 31) (by omega) (by omega)).mp q; omega
    have n5 : nI (10 * a) + 10 = nI (10 * (a + 1)) := by rw [show (10 : Int32) = nI 10 from rfl, pu_add]; rfl
    obtain ⟨cost', best', lo', f', kv', mv', st', b', e1, e2, e3⟩ := h.calmHigh hY hN hN1 (w := w) (lt' := nI (10 * a)) ⟨10 * a, by omega, rfl⟩ kept hkept 10 1 11 11 cost best lo0 st b f0 kv0 mv0 (by omega) (by omega) (by omega) hst
    have e1' : lX8_cheapestCalm_21 (nI N) w f kv mv (nI (10 * a)) 11 5 cost best f0 kv0 mv0 = (nI 55, cost', best', f', kv', mv') := e1
    have e2' : lX11_calm_90 (nI N) w (nI K) print market of kept (nI (10 * a)) 11 cost best lo0 5 st b = (cost', best', lo', nI 55, st', b') := e2
    rw [lX8_cheapestCalm_11, if_neg g1, lX11_calm_76, if_neg g2]
    simp only [ltd]
    rw [e1', e2', n5]
    exact ih (a + 1) n1 n2 cost' best' _ _ st' b' _ _ _ (by omega) (by omega) (by omega) e3
theorem calm_ok (h : LI g kinds Y print low high lot market of state f kv mv) (hY : Y + 20 ≤ 60000) (nn w : Int32) (kept brings f0 : Nat → Int32) (kv0 : Nat → Nat → Int32) (mv0 : Nat → Int32) :
    (sX10_calm nn w f0 kv0 mv0 f kv mv g).1 = (sX11_calm nn w g kinds print low high lot market of state kept brings).1 ∧ (sX11_calm nn w g kinds print low high lot market of state kept brings).2.2.1 = low ∧ (sX11_calm nn w g kinds print low high lot market of state kept brings).2.2.2.1 = high ∧ (sX11_calm nn w g kinds print low high lot market of state kept brings).2.2.2.2.1 = lot ∧ s17 (sX11_calm nn w g kinds print low high lot market of state kept brings).2.2.2.2.2.1 state := by
  have h20 : (20 : Int32).toInt = 20 := by decide
  have h99 : (99 : Int32).toInt = 99 := by decide
  unfold sX10_calm sX11_calm
  simp only [ltd]
  simp only [Int32.lt_iff_toInt_lt, Int32.le_iff_toInt_le, i_1, i_0, h20, h99]
  by_cases a1 : nn.toInt < 1
  · rw [if_pos a1, in_no (a := 1) (b := 20) (by decide) (by decide) (by omega), if_pos (show (0 : Int32) = 0 from rfl)]
    exact ⟨rfl, rfl, rfl, rfl, fun _ _ => rfl⟩
  · rw [if_neg a1]
    by_cases a2 : 20 < nn.toInt
    · rw [if_pos a2, in_no (a := 1) (b := 20) (by decide) (by decide) (by omega), if_pos (show (0 : Int32) = 0 from rfl)]
      exact ⟨rfl, rfl, rfl, rfl, fun _ _ => rfl⟩
    · rw [if_neg a2, in_yes (v := nn) (a := 1) (b := 20) (by decide) (by decide) (by omega) (by omega), if_neg (show ¬ (1 : Int32) = 0 by decide)]
      by_cases b1 : w.toInt < 0
      · rw [if_pos b1, in_no (a := 0) (b := 99) (by decide) (by decide) (by omega), if_pos (show (0 : Int32) = 0 from rfl)]
        exact ⟨rfl, rfl, rfl, rfl, fun _ _ => rfl⟩
      · rw [if_neg b1]
        by_cases b2 : w.toInt ≤ 99
        · rw [if_pos b2, in_yes (v := w) (a := 0) (b := 99) (by decide) (by decide) (by omega) (by omega), if_neg (show ¬ (1 : Int32) = 0 by decide)]
          obtain ⟨hz, ⟨h1, h2, h3⟩ | ⟨h1, K, h2, h3⟩⟩ := h
          · subst h1
            rw [if_pos rfl, if_pos rfl]
            exact ⟨rfl, rfl, rfl, rfl, fun _ _ => rfl⟩
          · subst h1; subst h2
            rw [if_neg (show ¬ (1 : Int32) = 0 by decide), if_neg (show ¬ (1 : Int32) = 0 by decide)]
            obtain ⟨N, hN, rfl⟩ := pu_ex (x := nn) (b := 20) (by omega) (by omega)
            rw [pu_toInt (by omega)] at a1
            have hkept : s17 (sX11_keep state kept) state := by
              rw [keep_eq]; intro n hn; exact colTo_at hn
            obtain ⟨cost', best', lo', hi', f', kv', mv', st', b', e1, e2, e3⟩ := h3.calmLot hY hN (by omega) (w := w) (sX11_keep state kept) hkept 3 1 4 4 0 (-1000000) low high state brings f0 kv0 mv0 (by omega) (by omega) (by omega) (fun _ _ => rfl)
            have e1' : lX8_cheapestCalm_11 (nI N) w f kv mv 4 10 0 (-1000000) f0 kv0 mv0 = (nI 40, cost', best', f', kv', mv') := e1
            have e2' : lX11_calm_76 (nI N) w (nI K) print market of (sX11_keep state kept) 4 0 (-1000000) low high 10 state brings = (cost', best', lo', hi', nI 40, st', b') := e2
            unfold sX8_cheapestCalm
            simp only [ltd]
            rw [e1', e2']
            exact ⟨rfl, trivial, trivial, trivial, e3⟩
        · rw [if_neg b2, in_no (a := 0) (b := 99) (by decide) (by decide) (by omega), if_pos (show (0 : Int32) = 0 from rfl)]
          exact ⟨rfl, rfl, rfl, rfl, fun _ _ => rfl⟩
end
theorem shl5 {S O : Nat} (hS : S < 67108864) (hO : O < 32) : (nI S <<< ((5 : Int32) &&& 31)) ||| nI O = nI (32 * S + O) := by
  have e5 : ((5 : Int32) &&& 31) = 5 := by decide
  rw [e5]
  apply Int32.toBitVec_inj.1
  show (BitVec.ofNat 32 S <<< ((5 : Int32).toBitVec.smod 32)) ||| BitVec.ofNat 32 O = BitVec.ofNat 32 (32 * S + O)
  have e6 : (5 : Int32).toBitVec.smod 32 = 5#32 := by decide
  rw [e6]
  apply BitVec.eq_of_toNat_eq
  rw [BitVec.toNat_or, BitVec.shiftLeft_eq', BitVec.toNat_shiftLeft, BitVec.toNat_ofNat, BitVec.toNat_ofNat, BitVec.toNat_ofNat, BitVec.toNat_ofNat]
  rw [show S % 2 ^ 32 = S from Nat.mod_eq_of_lt (by omega), show O % 2 ^ 32 = O from Nat.mod_eq_of_lt (by omega), show 5 % 2 ^ 32 = 5 from rfl]
  have h1 : S <<< 5 = 32 * S := by rw [Nat.shiftLeft_eq]; omega
  rw [h1, show (32 * S) % 2 ^ 32 = 32 * S from Nat.mod_eq_of_lt (by omega), ← h1, ← Nat.shiftLeft_add_eq_or_of_lt (show O < 2 ^ 5 by omega), h1]
  rw [show (32 * S + O) % 2 ^ 32 = 32 * S + O from Nat.mod_eq_of_lt (by omega)]
def ob (o : Nat → Int32) : Nat → Nat
  | 0 => 0
  | k + 1 => ob o k + (if o k = 0 then 0 else 2 ^ k)
theorem ob_lt (o : Nat → Int32) : ∀ k, ob o k < 2 ^ k := by
  intro k
  induction k with
  | zero => exact Nat.one_pos
  | succ k ih =>
    show ob o k + (if o k = 0 then 0 else 2 ^ k) < 2 ^ (k + 1)
    rw [Nat.pow_succ]
    split <;> omega
theorem ob_congr {o p : Nat → Int32} : ∀ k, (∀ j, j < k → o j = p j) → ob o k = ob p k := by
  intro k
  induction k with
  | zero => intro _; rfl
  | succ k ih =>
    intro h
    show ob o k + (if o k = 0 then 0 else 2 ^ k) = ob p k + (if p k = 0 then 0 else 2 ^ k)
    rw [ih (fun j hj => h j (by omega)), h k (by omega)]
theorem or_bit : ∀ i : Fin 5, ∀ b : Fin 32, b.val < 2 ^ i.val → nI b.val ||| ((1 : Int32) <<< (nI i.val &&& 31)) = nI (b.val + 2 ^ i.val) := by decide +kernel
theorem or_bit' {i b : Nat} (hi : i < 5) (hb : b < 2 ^ i) : nI b ||| ((1 : Int32) <<< (nI i &&& 31)) = nI (b + 2 ^ i) := by
  have : (2 : Nat) ^ i ≤ 2 ^ 4 := Nat.pow_le_pow_right (by omega) (by omega)
  exact or_bit ⟨i, hi⟩ ⟨b, by omega⟩ hb
theorem zero_shl : ∀ i : Fin 5, (0 : Int32) <<< (nI i.val &&& 31) = 0 := by decide +kernel
theorem outBits_eq {f : Nat → Int32} {kv : Nat → Nat → Int32} {K : Nat} (hK : K ≤ 5) (hf : f 2 = nI K) : sX2_outBits f kv = nI (ob (fun j => kv j 7) K) := by
  have key := loop_run (fun n i (s : Int32) => lX2_outBits_4 f kv n (nI i) s) (fun i => nI (ob (fun j => kv j 7) i)) K ?_ (6 - K) K (Nat.le_refl _)
  · have e : lX2_outBits_4 f kv 6 0 0 = (nI K, nI (ob (fun j => kv j 7) K)) := by
      have key' : lX2_outBits_4 f kv (6 - K + K) (nI 0) (nI (ob (fun j => kv j 7) 0)) = lX2_outBits_4 f kv (6 - K) (nI K) (nI (ob (fun j => kv j 7) K)) := key
      rw [show 6 - K + K = 6 by omega] at key'
      refine key'.trans ?_
      rw [show 6 - K = (5 - K) + 1 by omega]
      unfold lX2_outBits_4
      rw [if_pos (by rw [hf]; exact Int32.le_refl _)]
    unfold sX2_outBits
    rw [ltd, e]
  · intro n i hi
    show lX2_outBits_4 f kv (n + 1) (nI i) (nI (ob (fun j => kv j 7) i)) = lX2_outBits_4 f kv n (nI (i + 1)) (nI (ob (fun j => kv j 7) i + (if kv i 7 = 0 then 0 else 2 ^ i)))
    rw [lX2_outBits_4]
    obtain ⟨g1, g2⟩ := c_go hK hi
    rw [hf, if_neg g1, if_neg g2, pu_nat (show i < 2147483648 by omega), pu_succ]
    simp only [ltd]
    by_cases c : kv i 7 = 0
    · rw [if_pos c, if_pos c, Int32.or_zero]; rfl
    · rw [if_neg c, if_neg c, or_bit' (by omega) (ob_lt _ i)]
theorem see_eq {t K : Nat} (ht : t < 61) (hK : K ≤ 5) {state seen seenOut : Nat → Int32} (hz : ∀ j, j < K → state (12 + j) = 0 ∨ state (12 + j) = 1) : sX11_see (nI t) (nI K) state seen seenOut = (upd seen t (10000 * state 0 + 100 * state 1 + state 2), upd seenOut t (nI (ob (fun j => state (12 + j)) K))) := by
  have key := loop_run (fun n i (s : Nat → Int32) => lX11_see_42 (nI t) (nI K) state n (nI i) s) (fun i => upd seenOut t (nI (ob (fun j => state (12 + j)) i))) K ?_ (6 - K) K (Nat.le_refl _)
  · have key' : lX11_see_42 (nI t) (nI K) state (6 - K + K) (nI 0) (upd seenOut t (nI (ob (fun j => state (12 + j)) 0))) = lX11_see_42 (nI t) (nI K) state (6 - K) (nI K) (upd seenOut t (nI (ob (fun j => state (12 + j)) K))) := key
    rw [show 6 - K + K = 6 by omega] at key'
    have e : lX11_see_42 (nI t) (nI K) state 6 0 (upd seenOut t 0) = (nI K, upd seenOut t (nI (ob (fun j => state (12 + j)) K))) := by
      refine key'.trans ?_
      rw [show 6 - K = (5 - K) + 1 by omega]
      unfold lX11_see_42
      rw [if_pos (Int32.le_refl _)]
    unfold sX11_see
    simp only [ltd]
    rw [pu_nat (by omega), e]
  · intro n i hi
    show lX11_see_42 (nI t) (nI K) state (n + 1) (nI i) (upd seenOut t (nI (ob (fun j => state (12 + j)) i))) = lX11_see_42 (nI t) (nI K) state n (nI (i + 1)) (upd seenOut t (nI (ob (fun j => state (12 + j)) i + (if state (12 + i) = 0 then 0 else 2 ^ i))))
    rw [lX11_see_42]
    obtain ⟨g1, g2⟩ := c_go hK hi
    have n12 : ((12 : Int32) + nI i).toNatClampNeg = 12 + i := by rw [show (12 : Int32) = nI 12 from rfl, pu_add, pu_nat (by omega)]
    rw [if_neg g1, n12, pu_nat (show t < 2147483648 by omega), pu_us, pu_succ]
    simp only [ltd]
    have ud : ∀ a b : Int32, upd (upd seenOut t a) t b = upd seenOut t b := by
      intro a b
      funext m
      by_cases q : m = t
      · subst q; rw [pu_us, pu_us]
      · rw [pu_un q, pu_un q, pu_un q]
    rw [ud]
    rcases hz i hi with c | c
    · rw [c, if_pos rfl, zero_shl ⟨i, by omega⟩, Int32.or_zero]; rfl
    · rw [c, if_neg (show ¬ (1 : Int32) = 0 by decide), or_bit' (by omega) (ob_lt _ i)]
section
variable {K Y : Nat} {g kinds print low high lot : Int32} {market of state f : Nat → Int32} {kv : Nat → Nat → Int32} {mv : Nat → Int32}
def tm (a b d : Int32) : Prop := ∃ S O : Nat, S < 1000000 ∧ O < 32 ∧ a = nI (32 * S + O) ∧ b = nI S ∧ d = nI O
theorem tm_iff {a b d a' b' d' : Int32} (h : tm a b d) (h' : tm a' b' d') : a = a' ↔ (b = b' ∧ d = d') := by
  obtain ⟨S, O, h1, h2, rfl, rfl, rfl⟩ := h
  obtain ⟨S', O', h1', h2', rfl, rfl, rfl⟩ := h'
  rw [pu_inj (by omega) (by omega), pu_inj (by omega) (by omega), pu_inj (by omega) (by omega)]
  omega
theorem LD.like (h : LD K Y print low high lot market of state f kv mv) : tm (sX2_likeness f kv) (10000 * state 0 + 100 * state 1 + state 2) (nI (ob (fun j => state (12 + j)) K)) := by
  have hK := h.hK
  obtain ⟨a, ha, ea⟩ := h.b0
  obtain ⟨b, hb, eb⟩ := h.b1
  obtain ⟨d, hd, ed⟩ := h.b2
  unfold sX2_likeness
  rw [ltd, outBits_eq hK h.f2, ob_congr (p := fun j => state (12 + j)) K (fun j hj => h.ko j hj), h.f6, h.f7, h.f8, ea, eb, ed, show (100 : Int32) = nI 100 from rfl, show (10000 : Int32) = nI 10000 from rfl]
  have hO : ob (fun j => state (12 + j)) K < 32 := by
    have := ob_lt (fun j => state (12 + j)) K
    have : (2 : Nat) ^ K ≤ 2 ^ 5 := Nat.pow_le_pow_right (by omega) hK
    omega
  generalize ob (fun j => state (12 + j)) K = O at hO
  simp only [pu_mul, pu_add]
  refine ⟨(a * 100 + b) * 100 + d, O, by omega, hO, shl5 (by omega) hO, ?_, rfl⟩
  congr 1
  omega
theorem back_eq {w : Int32} {t : Nat} (ht : t < 61) {met seen seenOut : Nat → Int32} (hm : ∀ i, i ≤ t → tm (met i) (seen i) (seenOut i)) : ∀ (m p n1 n2 : Nat), p + m = (if t < 30 then t + 1 else 31) → 1 ≤ p → m < n1 → m + 1 < n2 →
    ∃ q : Int32, (lX11_round_66 w (nI t) (seen, seenOut) n2 (nI p) (-1000000)).2 = q ∧ ((lX8_yearsSinceLike_2 (nI t) met n1 (nI p) = -1000000 ∧ q = -1000000) ∨ (∃ r : Nat, r ≤ 30 ∧ lX8_yearsSinceLike_2 (nI t) met n1 (nI p) = nI r ∧ q = if w = 0 then nI r else nI t)) := by
  intro m
  induction m with
  | zero =>
    intro p n1 n2 h1 h2 h3 h4
    obtain ⟨n1, rfl⟩ : ∃ n', n1 = n' + 1 := ⟨n1 - 1, by omega⟩
    obtain ⟨n2, rfl⟩ : ∃ n', n2 = n' + 1 := ⟨n2 - 1, by omega⟩
    have hp : 31 ≤ p ∨ t < p := by split at h1 <;> omega
    refine ⟨-1000000, ?_, Or.inl ⟨?_, rfl⟩⟩
    · rw [lX11_round_66]
      by_cases a : 31 ≤ p
      · rw [if_pos (show (31 : Int32) ≤ nI p from (pu_le (a := 31) (by omega) (by split at h1 <;> omega)).mpr a)]
      · rw [if_neg (show ¬ (31 : Int32) ≤ nI p from fun q => a ((pu_le (a := 31) (by omega) (by omega)).mp q)), if_pos ((pu_lt (by omega) (by omega)).mpr (by omega))]
    · rw [lX8_yearsSinceLike_2]
      by_cases a : 30 < p
      · rw [if_pos (show (30 : Int32) < nI p from (pu_lt (a := 30) (by omega) (by split at h1 <;> omega)).mpr a)]
      · rw [if_neg (show ¬ (30 : Int32) < nI p from fun q => a ((pu_lt (a := 30) (by omega) (by omega)).mp q)), if_pos ((pu_lt (by omega) (by omega)).mpr (by omega))]
  | succ m ih =>
    intro p n1 n2 h1 h2 h3 h4
    obtain ⟨n1, rfl⟩ : ∃ n', n1 = n' + 1 := ⟨n1 - 1, by omega⟩
    obtain ⟨n2, rfl⟩ : ∃ n', n2 = n' + 1 + 1 := ⟨n2 - 2, by omega⟩
    have hp : p ≤ 30 ∧ p ≤ t := by split at h1 <;> omega
    have g1 : ¬ (31 : Int32) ≤ nI p := fun q => by have := (pu_le (a := 31) (by omega) (by omega)).mp q; omega
    have g2 : ¬ (30 : Int32) < nI p := fun q => by have := (pu_lt (a := 30) (by omega) (by omega)).mp q; omega
    have g3 : ¬ nI t < nI p := fun q => by have := (pu_lt (by omega) (by omega)).mp q; omega
    have g4 : ¬ (61 : Int32) ≤ nI t := fun q => by have := (pu_le (a := 61) (by omega) (by omega)).mp q; omega
    have et : (nI t - nI p).toNatClampNeg = t - p := by rw [pu_sub (by omega), pu_nat (by omega)]
    have iff := tm_iff (hm (t - p) (by omega)) (hm t (Nat.le_refl _))
    rw [lX11_round_66, if_neg g1, if_neg g3, if_pos rfl]
    simp only [ltd]
    rw [et, pu_nat (by omega), pu_succ]
    rw [lX8_yearsSinceLike_2, if_neg g2, if_neg g3, if_neg g4]
    simp only [ltd]
    rw [et, pu_nat (by omega), pu_succ]
    by_cases c : met (t - p) = met t
    · obtain ⟨c1, c2⟩ := iff.mp c
      rw [if_pos c, if_pos c1.symm, if_pos c2.symm]
      have hne : ∀ x : Nat, x < 61 → nI x ≠ (-1000000 : Int32) := by
        intro x hx q
        have := congrArg Int32.toInt q
        rw [pu_toInt (by omega), show ((-1000000 : Int32)).toInt = -1000000 from by decide] at this
        omega
      refine ⟨if w = 0 then nI p else nI t, ?_, Or.inr ⟨p, hp.1, rfl, rfl⟩⟩
      rw [lX11_round_66]
      have hq : ¬ (if w = 0 then nI p else nI t) = (-1000000 : Int32) := by
        split
        · exact hne p (by omega)
        · exact hne t (by omega)
      rw [if_neg hq]
      split
      · rfl
      · split <;> rfl
    · have c' : (if seen t = seen (t - p) then (if seenOut t = seenOut (t - p) then (if w = 0 then nI p else nI t) else (-1000000 : Int32)) else (-1000000)) = -1000000 := by
        by_cases d1 : seen t = seen (t - p)
        · rw [if_pos d1, if_neg (fun d2 => c (iff.mpr ⟨d1.symm, d2.symm⟩))]
        · rw [if_neg d1]
      rw [if_neg c, c']
      exact ih (p + 1) n1 (n2 + 1) (by omega) (by omega) (by omega) (by omega)
end
section
variable {K Y : Nat} {g kinds print low high lot : Int32} {market of state f : Nat → Int32} {kv : Nat → Nat → Int32} {mv : Nat → Int32}
theorem ne_none {x : Nat} (hx : x < 1000) : ¬ nI x = (-1000000 : Int32) := by
  intro q
  have := congrArg Int32.toInt q
  rw [pu_toInt (by omega), show ((-1000000 : Int32)).toInt = -1000000 from by decide] at this
  omega
theorem LD.hzs (h : LD K Y print low high lot market of state f kv mv) : ∀ j, j < K → state (12 + j) = 0 ∨ state (12 + j) = 1 := by
  intro j hj
  have hK := h.hK
  rw [← h.ko j hj]
  exact h.kz j (by omega)
theorem LD.seek (w : Int32) : ∀ (m t n1 n2 Y : Nat) (state b f : Nat → Int32) (kv : Nat → Nat → Int32) (mv met seen seenOut : Nat → Int32), t + m = 61 → 1 ≤ t → m + 1 < n1 → m + 1 < n2 → Y + m ≤ 60000 → LD K Y print low high lot market of state f kv mv → (∀ i, i < t → tm (met i) (seen i) (seenOut i)) →
    ∃ (len end' : Int32) (x1 : Int32) (f' : Nat → Int32) (kv' : Nat → Nat → Int32) (mv' met' : Nat → Int32) (x2 found : Int32) (st' b' se so : Nat → Int32), lX8_seekRound_35 n1 (nI t) f kv mv (-1000000) (-1000000) met = (x1, f', kv', mv', len, end', met') ∧ lX11_round_42 w (nI K) print low high lot market of n2 (nI t) (-1000000) state b seen seenOut = (x2, found, st', b', se, so) ∧ ((len = -1000000 ∧ end' = -1000000 ∧ found = -1000000) ∨ (found = if w = 0 then len else end')) := by
  intro m
  induction m with
  | zero =>
    intro t n1 n2 Y state b f kv mv met seen seenOut h1 h2 h3 h4 h5 h hm
    obtain ⟨n1, rfl⟩ : ∃ n', n1 = n' + 1 := ⟨n1 - 1, by omega⟩
    obtain ⟨n2, rfl⟩ : ∃ n', n2 = n' + 1 := ⟨n2 - 1, by omega⟩
    have : t = 61 := by omega
    subst this
    refine ⟨-1000000, -1000000, nI 61, f, kv, mv, met, nI 61, -1000000, state, b, seen, seenOut, ?_, ?_, Or.inl ⟨rfl, rfl, rfl⟩⟩
    · rw [lX8_seekRound_35, if_pos (show (61 : Int32) ≤ nI 61 from Int32.le_refl _)]
    · rw [lX11_round_42, if_pos (show (61 : Int32) ≤ nI 61 from Int32.le_refl _)]
  | succ m ih =>
    intro t n1 n2 Y state b f kv mv met seen seenOut h1 h2 h3 h4 h5 h hm
    obtain ⟨n1, rfl⟩ : ∃ n', n1 = n' + 1 + 1 := ⟨n1 - 2, by omega⟩
    obtain ⟨n2, rfl⟩ : ∃ n', n2 = n' + 1 + 1 := ⟨n2 - 2, by omega⟩
    have g1 : ¬ (61 : Int32) ≤ nI t := fun q => by have := (pu_le (a := 61) (by omega) (by omega)).mp q; omega
    have hy := (h.year (by omega) b).2
    have hl := hy.like
    have hse := see_eq (t := t) (K := K) (by omega) h.hK (seen := seen) (seenOut := seenOut) hy.hzs
    generalize hst : (sX11_year (nI K) print low high lot market of state b).1 = st1 at hy hl hse
    generalize hf1 : (sX2_liveYear f kv mv).2.1 = f1 at hy hl
    generalize hk1 : (sX2_liveYear f kv mv).2.2.1 = k1 at hy hl
    generalize hm1 : (sX2_liveYear f kv mv).2.2.2 = m1 at hy
    have hm' : ∀ i, i ≤ t → tm (upd met t (sX2_likeness f1 k1) i) (upd seen t (10000 * st1 0 + 100 * st1 1 + st1 2) i) (upd seenOut t (nI (ob (fun j => st1 (12 + j)) K)) i) := by
      intro i hi
      by_cases e : i = t
      · subst e; rw [pu_us, pu_us, pu_us]; exact hl
      · rw [pu_un e, pu_un e, pu_un e]; exact hm i (by omega)
    obtain ⟨q, eq1, eq2⟩ := back_eq (w := w) (t := t) (by omega) hm' (if t < 30 then t else 30) 1 32 32 (by split <;> omega) (by omega) (by split <;> omega) (by split <;> omega)
    have eq1' : (lX11_round_66 w (nI t) (upd seen t (10000 * st1 0 + 100 * st1 1 + st1 2), upd seenOut t (nI (ob (fun j => st1 (12 + j)) K))) 32 1 (-1000000)).2 = q := eq1
    rw [lX8_seekRound_35, if_neg g1, if_pos rfl, lX11_round_42, if_neg g1, if_pos rfl]
    simp only [ltd]
    rw [hf1, hk1, hm1, hst, hse, pu_nat (show t < 2147483648 by omega), pu_succ]
    dsimp only
    rw [eq1']
    unfold sX8_yearsSinceLike
    rcases eq2 with ⟨a1, a2⟩ | ⟨r, hr, a1, a2⟩
    · have a1' : lX8_yearsSinceLike_2 (nI t) (upd met t (sX2_likeness f1 k1)) 32 1 = -1000000 := a1
      rw [a1', if_pos rfl, a2]
      exact ih (t + 1) (n1 + 1) (n2 + 1) (Y + 1) st1 _ f1 k1 m1 _ _ _ (by omega) (by omega) (by omega) (by omega) (by omega) hy (fun i hi => hm' i (by omega))
    · have a1' : lX8_yearsSinceLike_2 (nI t) (upd met t (sX2_likeness f1 k1)) 32 1 = nI r := a1
      rw [a1', if_neg (ne_none (by omega)), a2]
      refine ⟨nI r, nI t, nI (t + 1), f1, k1, m1, upd met t (sX2_likeness f1 k1), nI (t + 1), (if w = 0 then nI r else nI t), st1, (sX11_year (nI K) print low high lot market of state b).2, upd seen t (10000 * st1 0 + 100 * st1 1 + st1 2), upd seenOut t (nI (ob (fun j => st1 (12 + j)) K)), ?_, ?_, Or.inr rfl⟩
      · rw [lX8_seekRound_35, if_neg (ne_none (by omega))]
        split <;> rfl
      · have hq : ¬ (if w = 0 then nI r else nI t) = (-1000000 : Int32) := by
          split
          · exact ne_none (by omega)
          · exact ne_none (by omega)
        rw [lX11_round_42, if_neg hq]
        split <;> rfl
theorem round_ok (h : LI g kinds Y print low high lot market of state f kv mv) (hY : Y + 60 ≤ 60000) (w tl te : Int32) (tmet kept brings seen seenOut f0 : Nat → Int32) (kv0 : Nat → Nat → Int32) (mv0 : Nat → Int32) :
    (sX10_round w f0 kv0 mv0 f kv mv tl te tmet g).1 = (sX11_round w g kinds print low high lot market of state kept brings seen seenOut).1 ∧ s17 (sX11_round w g kinds print low high lot market of state kept brings seen seenOut).2.2.1 state := by
  unfold sX10_round sX11_round
  simp only [ltd]
  simp only [Int32.lt_iff_toInt_lt, Int32.le_iff_toInt_le, i_1, i_0]
  by_cases a1 : w.toInt < 0
  · rw [if_pos a1, in_no (a := 0) (b := 1) (by decide) (by decide) (by omega), if_pos (show (0 : Int32) = 0 from rfl)]
    exact ⟨rfl, fun _ _ => rfl⟩
  · rw [if_neg a1]
    by_cases a2 : w.toInt ≤ 1
    · rw [if_pos a2, in_yes (a := 0) (b := 1) (by decide) (by decide) (by omega) (by omega), if_neg (show ¬ (1 : Int32) = 0 by decide)]
      obtain ⟨hz, ⟨h1, h2, h3⟩ | ⟨h1, K, h2, h3⟩⟩ := h
      · subst h1
        rw [if_pos rfl, if_pos rfl]
        exact ⟨rfl, fun _ _ => rfl⟩
      · subst h1; subst h2
        rw [if_neg (show ¬ (1 : Int32) = 0 by decide), if_neg (show ¬ (1 : Int32) = 0 by decide)]
        have ht := h3.take f0 kv0 mv0
        have hl := ht.like
        have hse := see_eq (t := 0) (K := K) (by omega) h3.hK (seen := seen) (seenOut := seenOut) h3.hzs
        have hse' : sX11_see 0 (nI K) state seen seenOut = _ := hse
        obtain ⟨len, end', x1, f', kv', mv', met', x2, found, st', b', se, so, e1, e2, e3⟩ := LD.seek w 60 1 62 62 Y state brings _ _ _ (upd tmet 0 (sX2_likeness (sX2_takeAll f0 kv0 mv0 f kv mv).1 (sX2_takeAll f0 kv0 mv0 f kv mv).2.1)) (upd seen 0 (10000 * state 0 + 100 * state 1 + state 2)) (upd seenOut 0 (nI (ob (fun j => state (12 + j)) K))) (by omega) (by omega) (by omega) (by omega) (by omega) ht
          (fun i hi => by
            have : i = 0 := by omega
            subst this; rw [pu_us, pu_us, pu_us]; exact hl)
        have e1' : lX8_seekRound_35 62 1 (sX2_takeAll f0 kv0 mv0 f kv mv).1 (sX2_takeAll f0 kv0 mv0 f kv mv).2.1 (sX2_takeAll f0 kv0 mv0 f kv mv).2.2 (-1000000) (-1000000) (upd tmet 0 (sX2_likeness (sX2_takeAll f0 kv0 mv0 f kv mv).1 (sX2_takeAll f0 kv0 mv0 f kv mv).2.1)) = (x1, f', kv', mv', len, end', met') := e1
        have e2' : lX11_round_42 w (nI K) print low high lot market of 62 1 (-1000000) state brings (upd seen 0 (10000 * state 0 + 100 * state 1 + state 2)) (upd seenOut 0 (nI (ob (fun j => state (12 + j)) K))) = (x2, found, st', b', se, so) := e2
        unfold sX8_seekRound
        simp only [ltd]
        rw [e1', hse', e2']
        dsimp only
        have hb : s17 (sX11_comeBack st' (sX11_keep state kept)) state := by
          rw [comeBack_eq, keep_eq]
          intro n hn
          rw [colTo_at hn, colTo_at hn]
        by_cases c : w = 0
        · rw [if_pos c]
          refine ⟨?_, hb⟩
          rcases e3 with ⟨a, -, d⟩ | a
          · rw [a, d]
          · rw [if_pos c] at a; exact a.symm
        · rw [if_neg c]
          refine ⟨?_, hb⟩
          rcases e3 with ⟨-, a, d⟩ | a
          · rw [a, d]
          · rw [if_neg c] at a; exact a.symm
    · rw [if_neg a2, in_no (a := 0) (b := 1) (by decide) (by decide) (by omega), if_pos (show (0 : Int32) = 0 from rfl)]
      exact ⟨rfl, fun _ _ => rfl⟩
end
