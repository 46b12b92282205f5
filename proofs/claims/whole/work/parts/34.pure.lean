def clsN (c : Nat) : Nat := if 97 ≤ c ∧ c ≤ 122 then 1 else if 48 ≤ c ∧ c ≤ 57 then 2 else if c = 59 then 3 else if c = 32 ∨ c = 10 then 4 else 5
theorem cls_all : ∀ c : Fin 256, sX4_classOf (nI c.val) = nI (clsN c.val) ∧ sX11_isLetter (nI c.val) = (if clsN c.val = 1 then 1 else 0) ∧ sX11_isFigure (nI c.val) = (if clsN c.val = 2 then 1 else 0) := by decide +kernel
theorem clsN_le (c : Nat) : 1 ≤ clsN c ∧ clsN c ≤ 5 := by
  unfold clsN
  split
  · omega
  · split
    · omega
    · split
      · omega
      · split <;> omega
def TP (L : Nat) (c : Nat → Nat) (pb rt : Nat → Int32) : Prop := L ≤ 400 ∧ ∀ k, k < L → c k ≤ 255 ∧ rt k = nI (c k) ∧ pb k &&& 255 = nI (c k)
theorem TR.tp {pl tp : Int32} {pb rt : Nat → Int32} (h : TR pl tp pb rt) : ∃ (L : Nat) (c : Nat → Nat), pl = nI L ∧ tp = nI L ∧ TP L c pb rt := by
  obtain ⟨rfl, ⟨L, hL, rfl⟩, h3⟩ := h
  refine ⟨L, fun k => (rt k).toInt.toNat, rfl, rfl, hL, fun k hk => ?_⟩
  have e := h3 k (by rw [pu_toInt (by omega)]; omega)
  obtain ⟨n, hn, en⟩ := and255 (pb k)
  rw [e] at en
  dsimp only
  rw [e, en, pu_toInt (by omega)]
  exact ⟨by omega, rfl, rfl⟩
section
variable {L : Nat} {c : Nat → Nat} {pb rt : Nat → Int32}
theorem TP.cB (h : TP L c pb rt) {k : Nat} (hk : k < L) : sX7_byteAt (nI k) (nI L) pb = nI (c k) := by
  have hL := h.1
  unfold sX7_byteAt
  rw [if_neg (show ¬ nI k < (0 : Int32) from fun q => by have := (pu_lt (b := 0) (by omega) (by omega)).mp q; omega), if_neg (fun q => by have := (pu_le (by omega) (by omega)).mp q; omega), if_neg (show ¬ (400 : Int32) ≤ nI k from fun q => by have := (pu_le (a := 400) (by omega) (by omega)).mp q; omega), pu_nat (by omega)]
  exact (h.2 k hk).2.2
theorem TP.cE (h : TP L c pb rt) {k : Nat} (hk : L ≤ k) (hk2 : k ≤ 1000) : sX7_byteAt (nI k) (nI L) pb = -1 := by
  have hL := h.1
  unfold sX7_byteAt
  rw [if_neg (show ¬ nI k < (0 : Int32) from fun q => by have := (pu_lt (b := 0) (by omega) (by omega)).mp q; omega), if_pos ((pu_le (by omega) (by omega)).mpr hk)]
theorem TP.mB (h : TP L c pb rt) {k : Nat} (hk : k < L) : sX11_byteAt (nI k) (nI L) rt = nI (c k) := by
  have hL := h.1
  unfold sX11_byteAt
  rw [if_neg (fun q => by have := (pu_le (by omega) (by omega)).mp q; omega), pu_nat (by omega)]
  exact (h.2 k hk).2.1
theorem TP.mE (h : TP L c pb rt) {k : Nat} (hk : L ≤ k) (hk2 : k ≤ 1000) : sX11_byteAt (nI k) (nI L) rt = -1000000 := by
  have hL := h.1
  unfold sX11_byteAt
  rw [if_pos ((pu_le (by omega) (by omega)).mpr hk)]
theorem TP.cls (h : TP L c pb rt) {k : Nat} (hk : k < L) : sX4_classOf (nI (c k)) = nI (clsN (c k)) ∧ sX11_isLetter (nI (c k)) = (if clsN (c k) = 1 then 1 else 0) ∧ sX11_isFigure (nI (c k)) = (if clsN (c k) = 2 then 1 else 0) := cls_all ⟨c k, by have := (h.2 k hk).1; omega⟩
theorem clsN_4 {k : Nat} (hk : k ≤ 255) : clsN k = 4 ↔ (nI k = 32 ∨ nI k = 10) := by
  have e1 : (nI k = 32) ↔ k = 32 := pu_inj (b := 32) (by omega) (by omega)
  have e2 : (nI k = 10) ↔ k = 10 := pu_inj (b := 10) (by omega) (by omega)
  rw [e1, e2]
  unfold clsN
  constructor
  · intro h
    split at h
    · omega
    · split at h
      · omega
      · split at h
        · omega
        · split at h
          · assumption
          · omega
  · intro h
    rw [if_neg (by omega), if_neg (by omega), if_neg (by omega), if_pos h]
theorem clsN_3 {k : Nat} (hk : k ≤ 255) : clsN k = 3 ↔ nI k = 59 := by
  have e1 : (nI k = 59) ↔ k = 59 := pu_inj (b := 59) (by omega) (by omega)
  rw [e1]
  unfold clsN
  constructor
  · intro h
    split at h
    · omega
    · split at h
      · omega
      · split at h
        · assumption
        · split at h <;> omega
  · intro h
    rw [if_neg (by omega), if_neg (by omega), if_pos h]
theorem TP.gap (h : TP L c pb rt) : ∀ (m p n1 n2 : Nat), p + m = L → m < n1 → m < n2 → ∃ b, p ≤ b ∧ b ≤ L ∧ lX4_scan_0 (nI L) pb n1 (nI p) = nI b ∧ lX11_next_0 (nI L) rt n2 (nI p) = nI b ∧ (b < L → clsN (c b) ≠ 4) := by
  have hL := h.1
  intro m
  induction m with
  | zero =>
    intro p n1 n2 h1 h2 h3
    obtain ⟨n1, rfl⟩ : ∃ n', n1 = n' + 1 := ⟨n1 - 1, by omega⟩
    obtain ⟨n2, rfl⟩ : ∃ n', n2 = n' + 1 := ⟨n2 - 1, by omega⟩
    have e : p = L := by omega
    subst e
    refine ⟨p, Nat.le_refl _, Nat.le_refl _, ?_, ?_, fun q => by omega⟩
    · rw [lX4_scan_0, if_pos (Int32.le_refl _)]
    · rw [lX11_next_0]
      simp only [ltd]
      rw [h.mE (Nat.le_refl _) (by omega), if_neg (show ¬ (-1000000 : Int32) = 32 by decide), if_neg (show ¬ (-1000000 : Int32) = 10 by decide)]
  | succ m ih =>
    intro p n1 n2 h1 h2 h3
    obtain ⟨n1, rfl⟩ : ∃ n', n1 = n' + 1 := ⟨n1 - 1, by omega⟩
    obtain ⟨n2, rfl⟩ : ∃ n', n2 = n' + 1 := ⟨n2 - 1, by omega⟩
    have hp : p < L := by omega
    have hc := (h.2 p hp).1
    rw [lX4_scan_0, if_neg (fun q => by have := (pu_le (by omega) (by omega)).mp q; omega), lX11_next_0]
    simp only [ltd]
    rw [h.cB hp, h.mB hp, (h.cls hp).1, pu_succ]
    obtain ⟨l1, l2⟩ := clsN_le (c p)
    by_cases g : clsN (c p) = 4
    · rw [if_pos (show nI (clsN (c p)) = 4 by rw [g]; rfl)]
      obtain ⟨b, b1, b2, b3, b4, b5⟩ := ih (p + 1) n1 n2 (by omega) (by omega) (by omega)
      refine ⟨b, by omega, b2, b3, ?_, b5⟩
      rcases (clsN_4 hc).mp g with z | z
      · rw [if_pos z]; exact b4
      · by_cases z2 : nI (c p) = 32
        · rw [if_pos z2]; exact b4
        · rw [if_neg z2, if_pos z]; exact b4
    · have g' : ¬ nI (clsN (c p)) = 4 := fun q => g ((pu_inj (b := 4) (by omega) (by omega)).mp q)
      rw [if_neg g', if_neg (fun z => g ((clsN_4 hc).mpr (Or.inl z))), if_neg (fun z => g ((clsN_4 hc).mpr (Or.inr z)))]
      exact ⟨p, Nat.le_refl _, by omega, rfl, rfl, fun _ => g⟩
def numV (c : Nat → Nat) (b : Nat) : Nat → Int32 → Int32
  | 0, v => v
  | n + 1, v => numV c (b + 1) n (v * 10 + nI (c b) - 48)
theorem TP.run (h : TP L c pb rt) {t : Nat} (ht : t = 1 ∨ t = 2) : ∀ (m q n1 n2 : Nat) (v : Int32), q + m = L → 0 < m → m < n1 → m < n2 → clsN (c q) = t →
    ∃ e, q < e ∧ e ≤ L ∧ (∀ i, q ≤ i → i < e → clsN (c i) = t) ∧ lX4_scan_89 (nI L) pb (nI t) n1 1 (nI q) v = (0, nI e, numV c q (e - q) v) ∧ (t = 1 → lX11_next_77 (nI L) rt n2 (nI q) = nI e) ∧ (t = 2 → lX11_next_119 (nI L) rt n2 (nI q) = nI e) := by
  have hL := h.1
  intro m
  induction m with
  | zero => intro q n1 n2 v h1 h2; omega
  | succ m ih =>
    intro q n1 n2 v h1 h2 h3 h4 hq
    obtain ⟨n1, rfl⟩ : ∃ n', n1 = n' + 1 := ⟨n1 - 1, by omega⟩
    obtain ⟨n2, rfl⟩ : ∃ n', n2 = n' + 1 := ⟨n2 - 1, by omega⟩
    have hp : q < L := by omega
    obtain ⟨x1, x2, x3⟩ := h.cls hp
    have st77 : t = 1 → lX11_next_77 (nI L) rt (n2 + 1) (nI q) = lX11_next_77 (nI L) rt n2 (nI (q + 1)) := by
      intro e
      rw [lX11_next_77]
      simp only [ltd]
      rw [h.mB hp, x2, hq, if_pos e, if_neg (show ¬ (1 : Int32) = 0 by decide), pu_succ]
    have st119 : t = 2 → lX11_next_119 (nI L) rt (n2 + 1) (nI q) = lX11_next_119 (nI L) rt n2 (nI (q + 1)) := by
      intro e
      rw [lX11_next_119]
      simp only [ltd]
      rw [h.mB hp, x3, hq, if_pos e, if_neg (show ¬ (1 : Int32) = 0 by decide), pu_succ]
    have hs : lX4_scan_89 (nI L) pb (nI t) (n1 + 1) 1 (nI q) v = lX4_scan_89 (nI L) pb (nI t) n1 (if sX4_classOf (sX7_byteAt (nI (q + 1)) (nI L) pb) = nI t then 1 else 0) (nI (q + 1)) (v * 10 + nI (c q) - 48) := by
      rw [lX4_scan_89, if_neg (show ¬ (1 : Int32) = 0 by decide), if_neg (fun z => by have := (pu_le (by omega) (by omega)).mp z; omega)]
      simp only [ltd]
      rw [h.cB hp, pu_succ]
      rcases ht with rfl | rfl
      · rw [if_pos (show nI 1 = 1 from rfl)]
      · rw [if_neg (show ¬ nI 2 = 1 by decide), if_pos (show nI 2 = 2 from rfl)]
    by_cases more : q + 1 < L ∧ clsN (c (q + 1)) = t
    · obtain ⟨m1, m2⟩ := more
      obtain ⟨e, e1, e2, e3, e4, e5, e6⟩ := ih (q + 1) n1 n2 (v * 10 + nI (c q) - 48) (by omega) (by omega) (by omega) (by omega) m2
      refine ⟨e, by omega, e2, ?_, ?_, fun z => (st77 z).trans (e5 z), fun z => (st119 z).trans (e6 z)⟩
      · intro i i1 i2
        rcases Nat.lt_or_ge q i with z | z
        · exact e3 i (by omega) i2
        · have : i = q := by omega
          subst this; exact hq
      · rw [hs, h.cB m1, (h.cls m1).1, m2, if_pos rfl, e4, show e - q = (e - (q + 1)) + 1 by omega]
        rfl
    · have nc : ¬ sX4_classOf (sX7_byteAt (nI (q + 1)) (nI L) pb) = nI t := by
        rcases Nat.lt_or_ge (q + 1) L with z | z
        · rw [h.cB z, (h.cls z).1]
          obtain ⟨l1, l2⟩ := clsN_le (c (q + 1))
          exact fun w => more ⟨z, (pu_inj (by omega) (by omega)).mp w⟩
        · rw [h.cE z (by omega)]
          rcases ht with rfl | rfl <;> decide
      refine ⟨q + 1, by omega, by omega, ?_, ?_, ?_, ?_⟩
      · intro i i1 i2
        have : i = q := by omega
        subst this; exact hq
      · rw [hs, if_neg nc, show q + 1 - q = 1 by omega]
        obtain ⟨n1, rfl⟩ : ∃ n', n1 = n' + 1 := ⟨n1 - 1, by omega⟩
        rw [lX4_scan_89, if_pos rfl]
        rfl
      · intro e
        rw [st77 e]
        obtain ⟨n2, rfl⟩ : ∃ n', n2 = n' + 1 := ⟨n2 - 1, by omega⟩
        rw [lX11_next_77]
        simp only [ltd]
        rcases Nat.lt_or_ge (q + 1) L with z | z
        · rw [h.mB z, (h.cls z).2.1, if_neg (show ¬ clsN (c (q + 1)) = 1 from fun w => more ⟨z, w.trans e.symm⟩), if_pos (show (0 : Int32) = 0 from rfl)]
        · rw [h.mE z (by omega), show sX11_isLetter (-1000000) = 0 from by decide, if_pos rfl]
      · intro e
        rw [st119 e]
        obtain ⟨n2, rfl⟩ : ∃ n', n2 = n' + 1 := ⟨n2 - 1, by omega⟩
        rw [lX11_next_119]
        simp only [ltd]
        rcases Nat.lt_or_ge (q + 1) L with z | z
        · rw [h.mB z, (h.cls z).2.2, if_neg (show ¬ clsN (c (q + 1)) = 2 from fun w => more ⟨z, w.trans e.symm⟩), if_pos (show (0 : Int32) = 0 from rfl)]
        · rw [h.mE z (by omega), show sX11_isFigure (-1000000) = 0 from by decide, if_pos rfl]
def tkC (t : Nat) : Int32 := if t = 4 then 5 else nI t
def tkM (t : Nat) : Int32 := if t = 4 then 0 else nI (t + 1)
theorem TP.scan (h : TP L c pb rt) {p : Nat} (hp : p ≤ L) : ∃ (b e t : Nat) (v : Int32), p ≤ b ∧ b ≤ e ∧ e ≤ L ∧ t ≤ 4 ∧ sX4_scan (nI L) pb (nI p) = (nI e, tkC t, v, nI b) ∧ sX11_next (nI L) (nI p) rt = (nI e, tkM t, nI b, nI e) ∧ (t = 1 → b < e ∧ ∀ i, b ≤ i → i < e → clsN (c i) = 1) ∧ (t = 2 → b < e ∧ e - b ≤ 3 ∧ (∀ i, b ≤ i → i < e → clsN (c i) = 2) ∧ v = numV c b (e - b) 0) := by
  have hL := h.1
  obtain ⟨b, b1, b2, b3, b4, b5⟩ := h.gap (L - p) p 401 401 (by omega) (by omega) (by omega)
  unfold sX4_scan sX11_next
  simp only [ltd]
  rw [b3, b4]
  rcases Nat.lt_or_ge b L with z | z
  · have hc := (h.2 b z).1
    obtain ⟨x1, x2, x3⟩ := h.cls z
    rw [h.cB z, h.mB z, x1, x2, x3]
    have n0 : ¬ nI (c b) = (-1000000 : Int32) := ne_none (by omega)
    rw [if_neg n0]
    obtain ⟨l1, l2⟩ := clsN_le (c b)
    have g0 : ¬ nI (clsN (c b)) = (0 : Int32) := fun q => by have := (pu_inj (b := 0) (by omega) (by omega)).mp q; omega
    rw [if_neg g0]
    have ncls : clsN (c b) = 1 ∨ clsN (c b) = 2 ∨ clsN (c b) = 3 ∨ clsN (c b) = 5 := by have := b5 z; omega
    rcases ncls with k | k | k | k
    · obtain ⟨e, e1, e2, e3, e4, e5, -⟩ := h.run (t := 1) (Or.inl rfl) (L - b) b 401 401 0 (by omega) (by omega) (by omega) (by omega) k
      rw [k, if_pos rfl, if_neg (show ¬ (1 : Int32) = 0 by decide), e4, e5 rfl, if_neg (show ¬ nI 1 = 2 by decide)]
      exact ⟨b, e, 1, _, b1, by omega, e2, by omega, rfl, rfl, fun _ => ⟨e1, e3⟩, fun q => by omega⟩
    · obtain ⟨e, e1, e2, e3, e4, -, e6⟩ := h.run (t := 2) (Or.inr rfl) (L - b) b 401 401 0 (by omega) (by omega) (by omega) (by omega) k
      rw [k, if_neg (show ¬ (2 : Nat) = 1 by omega), if_pos (show (0 : Int32) = 0 from rfl), if_pos rfl, if_neg (show ¬ (1 : Int32) = 0 by decide), e4, e6 rfl, if_pos (show nI 2 = 2 from rfl)]
      dsimp only
      rw [pu_sub (by omega)]
      by_cases w : e - b ≤ 3
      · have hh : nI (e - b) ≤ (3 : Int32) := (pu_le (b := 3) (by omega) (by omega)).mpr w
        rw [if_pos hh, if_pos hh]
        exact ⟨b, e, 2, _, b1, by omega, e2, by omega, rfl, rfl, fun q => by omega, fun _ => ⟨e1, w, e3, rfl⟩⟩
      · have hh : ¬ nI (e - b) ≤ (3 : Int32) := fun q => w ((pu_le (b := 3) (by omega) (by omega)).mp q)
        rw [if_neg hh, if_neg hh]
        exact ⟨b, e, 4, _, b1, by omega, e2, by omega, rfl, rfl, fun q => by omega, fun q => by omega⟩
    · have s1 : lX4_scan_89 (nI L) pb (nI 3) 401 1 (nI b) 0 = (0, nI (b + 1), 0 * 10 + nI (c b) - 48) := by
        rw [lX4_scan_89, if_neg (show ¬ (1 : Int32) = 0 by decide), if_neg (fun w => by have := (pu_le (by omega) (by omega)).mp w; omega)]
        simp only [ltd]
        rw [h.cB z, pu_succ, if_neg (show ¬ nI 3 = 1 by decide), if_neg (show ¬ nI 3 = 2 by decide), lX4_scan_89, if_pos rfl]
      rw [k, if_neg (show ¬ (3 : Nat) = 1 by omega), if_pos (show (0 : Int32) = 0 from rfl), if_neg (show ¬ (3 : Nat) = 2 by omega), if_pos (show (0 : Int32) = 0 from rfl), s1, if_neg (show ¬ nI 3 = 2 by decide), if_pos ((clsN_3 hc).mp k), pu_succ]
      exact ⟨b, b + 1, 3, _, b1, by omega, by omega, by omega, rfl, rfl, fun q => by omega, fun q => by omega⟩
    · have s1 : lX4_scan_89 (nI L) pb (nI 5) 401 1 (nI b) 0 = (0, nI (b + 1), 0 * 10 + nI (c b) - 48) := by
        rw [lX4_scan_89, if_neg (show ¬ (1 : Int32) = 0 by decide), if_neg (fun w => by have := (pu_le (by omega) (by omega)).mp w; omega)]
        simp only [ltd]
        rw [h.cB z, pu_succ, if_neg (show ¬ nI 5 = 1 by decide), if_neg (show ¬ nI 5 = 2 by decide), lX4_scan_89, if_pos rfl]
      rw [k, if_neg (show ¬ (5 : Nat) = 1 by omega), if_pos (show (0 : Int32) = 0 from rfl), if_neg (show ¬ (5 : Nat) = 2 by omega), if_pos (show (0 : Int32) = 0 from rfl), s1, if_neg (show ¬ nI 5 = 2 by decide), if_neg (fun q => by have := (clsN_3 hc).mpr q; omega), pu_succ]
      exact ⟨b, b + 1, 4, _, b1, by omega, by omega, by omega, rfl, rfl, fun q => by omega, fun q => by omega⟩
  · have e : b = L := by omega
    subst e
    rw [h.cE (Nat.le_refl _) (by omega), h.mE (Nat.le_refl _) (by omega), show sX4_classOf (-1) = 0 from by decide, if_pos (show (0 : Int32) = 0 from rfl), if_pos (show (-1000000 : Int32) = -1000000 from rfl)]
    have s1 : lX4_scan_89 (nI b) pb 0 401 0 (nI b) 0 = (0, nI b, 0) := by rw [lX4_scan_89, if_pos rfl]
    rw [s1, if_neg (show ¬ (0 : Int32) = 2 by decide)]
    exact ⟨b, b, 0, _, b1, Nat.le_refl _, Nat.le_refl _, by omega, rfl, rfl, fun q => by omega, fun q => by omega⟩
end
def vN (f : Nat → Nat) (b : Nat) : Nat → Nat
  | 0 => 0
  | n + 1 => 256 * vN f b n + f (b + n)
theorem vN_lt {f : Nat → Nat} {b : Nat} : ∀ n, (∀ i, i < n → f (b + i) ≤ 127) → vN f b n < 128 * 256 ^ (n - 1) ∨ n = 0 := by
  intro n
  induction n with
  | zero => intro _; exact Or.inr rfl
  | succ n ih =>
    intro h
    left
    have hd := h n (by omega)
    show 256 * vN f b n + f (b + n) < 128 * 256 ^ n
    rcases ih (fun i hi => h i (by omega)) with z | z
    · rcases Nat.eq_zero_or_pos n with w | w
      · subst w
        have : vN f b 0 = 0 := rfl
        rw [this, Nat.pow_zero]; omega
      · have e : 256 ^ n = 256 * 256 ^ (n - 1) := by
          rw [show n = (n - 1) + 1 by omega, Nat.pow_succ]
          rw [show n - 1 + 1 - 1 = n - 1 by omega]
          omega
        rw [e]
        have : 1 ≤ 256 ^ (n - 1) := Nat.one_le_pow _ _ (by omega)
        generalize 256 ^ (n - 1) = P at z this
        omega
    · subst z
      have : vN f b 0 = 0 := rfl
      rw [this, Nat.pow_zero]; omega
theorem vN_uniq {f g : Nat → Nat} {b : Nat} : ∀ n m, (∀ i, i < n → 1 ≤ f (b + i) ∧ f (b + i) ≤ 255) → (∀ i, i < m → 1 ≤ g i ∧ g i ≤ 255) → vN f b n = vN g 0 m → n = m ∧ ∀ i, i < n → f (b + i) = g i := by
  intro n
  induction n with
  | zero =>
    intro m _ hg h
    rcases Nat.eq_zero_or_pos m with z | z
    · subst z; exact ⟨rfl, fun i hi => by omega⟩
    · obtain ⟨m, rfl⟩ : ∃ m', m = m' + 1 := ⟨m - 1, by omega⟩
      have h : 0 = 256 * vN g 0 m + g (0 + m) := h
      have := (hg m (by omega)).1
      rw [Nat.zero_add] at h
      omega
  | succ n ih =>
    intro m hf hg h
    rcases Nat.eq_zero_or_pos m with z | z
    · subst z
      have h : 256 * vN f b n + f (b + n) = 0 := h
      have := (hf n (by omega)).1
      omega
    · obtain ⟨m, rfl⟩ : ∃ m', m = m' + 1 := ⟨m - 1, by omega⟩
      have h : 256 * vN f b n + f (b + n) = 256 * vN g 0 m + g (0 + m) := h
      rw [Nat.zero_add] at h
      have h1 := hf n (by omega)
      have h2 := hg m (by omega)
      have e1 : f (b + n) = g m := by omega
      have e2 : vN f b n = vN g 0 m := by omega
      obtain ⟨i1, i2⟩ := ih m (fun i hi => hf i (by omega)) (fun i hi => hg i (by omega)) e2
      refine ⟨by omega, fun i hi => ?_⟩
      rcases Nat.lt_or_ge i n with w | w
      · exact i2 i w
      · have : i = n := by omega
        subst this
        rw [e1, i1]
theorem shl8 {a d : Nat} (ha : a < 36028797018963968) (hd : d ≤ 255) : (lL a <<< ((8 : Int32).toInt64 &&& 63)) ||| (nI d).toInt64 = lL ((256 * a + d : Nat) : Int) := by
  have e8 : ((8 : Int32).toInt64 &&& 63) = 8 := by decide
  have ea : ∀ n : Nat, lL (n : Int) = Int64.ofNat n := fun n => Int64.ofInt_eq_ofNat
  rw [e8, lL_nI (by omega), ea, ea, ea]
  apply Int64.toBitVec_inj.1
  show (BitVec.ofNat 64 a <<< ((8 : Int64).toBitVec.smod 64)) ||| BitVec.ofNat 64 d = BitVec.ofNat 64 (256 * a + d)
  have e6 : (8 : Int64).toBitVec.smod 64 = 8#64 := by decide
  rw [e6]
  apply BitVec.eq_of_toNat_eq
  rw [BitVec.toNat_or, BitVec.shiftLeft_eq', BitVec.toNat_shiftLeft, BitVec.toNat_ofNat, BitVec.toNat_ofNat, BitVec.toNat_ofNat, BitVec.toNat_ofNat]
  rw [show a % 2 ^ 64 = a from Nat.mod_eq_of_lt (by omega), show d % 2 ^ 64 = d from Nat.mod_eq_of_lt (by omega), show 8 % 2 ^ 64 = 8 from rfl]
  have h1 : a <<< 8 = 256 * a := by rw [Nat.shiftLeft_eq]; omega
  rw [h1, show (256 * a) % 2 ^ 64 = 256 * a from Nat.mod_eq_of_lt (by omega), ← h1, ← Nat.shiftLeft_add_eq_or_of_lt (show d < 2 ^ 8 by omega), h1]
  rw [show (256 * a + d) % 2 ^ 64 = 256 * a + d from Nat.mod_eq_of_lt (by omega)]
theorem cmp_eq0 {x y : Int64} : lg_cmp x y = 0 ↔ x = y := by
  unfold lg_cmp
  by_cases a : x > y
  · rw [if_pos a]
    exact ⟨fun q => absurd q (by decide), fun q => by have := Int64.lt_iff_toInt_lt.mp a; rw [q] at this; omega⟩
  · rw [if_neg a]
    by_cases b : x = y
    · rw [if_pos b]; exact ⟨fun _ => b, fun _ => rfl⟩
    · rw [if_neg b]; exact ⟨fun q => absurd q (by decide), fun q => absurd q b⟩
def wdD : List (List Nat) := [[109, 97, 114, 107, 101, 116], [115, 116, 97, 114, 116], [107, 105, 110, 100], [108, 97, 115, 116], [109, 101, 97, 110], [116, 114, 101, 110, 100], [99, 111, 110, 116, 114, 97, 114, 121], [116, 111, 108, 100], [119, 105, 115, 101]]
def wdg (iw i : Nat) : Nat := (wdD.getD iw []).getD i 0
def wC (iw : Nat) : Nat := [120265298896244, 495873782388, 1802071652, 1818325876, 1835360622, 500135456356, 7165066978583999097, 1953459300, 2003399525].getD iw 0
theorem wdz_all : ∀ w : Fin 9, (∀ i : Fin 8, sJ0_charAt_5068e w.val (nI i.val) = nI (wdg w.val i.val)) ∧ (∀ i : Fin 8, i.val < wdN.getD w.val 0 → 1 ≤ wdg w.val i.val ∧ wdg w.val i.val ≤ 127) ∧ vN (wdg w.val) 0 (wdN.getD w.val 0) = wC w.val ∧ 1 ≤ wdN.getD w.val 0 ∧ wdN.getD w.val 0 ≤ 8 ∧ 1 ≤ wC w.val ∧ wC w.val < 9223372036854775808 := by decide +kernel
section
variable {L : Nat} {c : Nat → Nat} {pb rt : Nat → Int32}
theorem word_loop (h : TP L c pb rt) {b e : Nat} (hbe : b ≤ e) (he : e ≤ L) (h9 : e - b < 9) (hl : ∀ i, b ≤ i → i < e → clsN (c i) = 1) : (lX11_word_7 2 (nI b) (nI e) rt 401 (nI b) 0).2 = lL (vN c b (e - b)) := by
  have hL := h.1
  have lett : ∀ i, b ≤ i → i < e → c i ≤ 122 ∧ 97 ≤ c i := by
    intro i i1 i2
    have := hl i i1 i2
    unfold clsN at this
    split at this
    · omega
    · split at this
      · omega
      · split at this
        · omega
        · split at this <;> omega
  have key := loop_run (fun n i (s : Int64) => lX11_word_7 2 (nI b) (nI e) rt n (nI (b + i)) s) (fun i => lL (vN c b i)) (e - b) ?_ (401 - (e - b)) (e - b) (Nat.le_refl _)
  · have key' : lX11_word_7 2 (nI b) (nI e) rt (401 - (e - b) + (e - b)) (nI (b + 0)) (lL 0) = lX11_word_7 2 (nI b) (nI e) rt (401 - (e - b)) (nI (b + (e - b))) (lL (vN c b (e - b))) := key
    rw [show 401 - (e - b) + (e - b) = 401 by omega, Nat.add_zero, show lL 0 = (0 : Int64) from rfl, show b + (e - b) = e by omega] at key'
    rw [key', show 401 - (e - b) = (400 - (e - b)) + 1 by omega, lX11_word_7, if_pos (Int32.le_refl _)]
  · intro n i hi
    show lX11_word_7 2 (nI b) (nI e) rt (n + 1) (nI (b + i)) (lL (vN c b i)) = lX11_word_7 2 (nI b) (nI e) rt n (nI (b + (i + 1))) (lL ((256 * vN c b i + c (b + i) : Nat) : Int))
    rw [lX11_word_7, if_neg (fun q => by have := (pu_le (by omega) (by omega)).mp q; omega), if_pos (show (2 : Int32) = 2 from rfl), pu_sub hbe, if_neg (show ¬ (9 : Int32) ≤ nI (e - b) from fun q => by have := (pu_le (a := 9) (by omega) (by omega)).mp q; omega)]
    simp only [ltd]
    rw [pu_nat (show b + i < 2147483648 by omega), pu_succ, (h.2 (b + i) (by omega)).2.1]
    have hv : vN c b i < 36028797018963968 := by
      rcases vN_lt (f := c) (b := b) i (fun k hk => by have := lett (b + k) (by omega) (by omega); omega) with z | z
      · have : 256 ^ (i - 1) ≤ 256 ^ 6 := Nat.pow_le_pow_right (by omega) (by omega)
        have : (256 : Nat) ^ 6 = 281474976710656 := by decide
        omega
      · subst z
        show 0 < 36028797018963968
        omega
    rw [shl8 hv (by have := lett (b + i) (by omega) (by omega); omega)]
    rfl
theorem TP.name (h : TP L c pb rt) {b e t : Nat} (hbe : b ≤ e) (he : e ≤ L) (ht : t ≤ 4) (hn : t = 1 → b < e ∧ ∀ i, b ≤ i → i < e → clsN (c i) = 1) {iw : Nat} (hw : iw < 9) :
    (sX4_nameIs iw (nI L) pb (nI e) (tkC t) (nI b) = 1 ∧ lg_cmp (sX11_word (tkM t) (nI b) (nI e) 0 rt) (lL (wC iw)) = 0 ∧ t = 1) ∨ (sX4_nameIs iw (nI L) pb (nI e) (tkC t) (nI b) = 0 ∧ ¬ lg_cmp (sX11_word (tkM t) (nI b) (nI e) 0 rt) (lL (wC iw)) = 0) := by
  have hL := h.1
  obtain ⟨w1, w2, w3, w4, w5, w6, w7⟩ := wdz_all ⟨iw, hw⟩
  dsimp only at w1 w2 w3 w4 w5 w6 w7
  have w1' : ∀ i, i < 8 → sJ0_charAt_5068e iw (nI i) = nI (wdg iw i) := fun i hi => w1 ⟨i, hi⟩
  have w2' : ∀ i, i < wdN.getD iw 0 → 1 ≤ wdg iw i ∧ wdg iw i ≤ 127 := fun i hi => w2 ⟨i, by omega⟩ hi
  have zero_ne : ¬ (0 : Int64) = lL (wC iw) := by
    intro q
    have := congrArg Int64.toInt q
    rw [lL_toInt (by omega) (by omega), show (0 : Int64).toInt = 0 from by decide] at this
    omega
  unfold sX4_nameIs sX11_word
  simp only [ltd, if_true]
  by_cases t1 : t = 1
  · obtain ⟨n1, n2⟩ := hn t1
    subst t1
    rw [show tkC 1 = 1 from rfl, show tkM 1 = 2 from rfl, if_pos (show (1 : Int32) = 1 from rfl), pu_sub hbe]
    unfold sJ0_length_8abf5
    by_cases len : e - b = wdN.getD iw 0
    · rw [if_pos (by rw [len]), word_loop h hbe he (by omega) n2]
      have key : ∀ m i n, i + m = wdN.getD iw 0 → m < n → (lX4_nameIs_28 iw (nI L) pb (nI b) n (nI i) = 1 ∧ ∀ k, i ≤ k → k < wdN.getD iw 0 → c (b + k) = wdg iw k) ∨ (lX4_nameIs_28 iw (nI L) pb (nI b) n (nI i) = 0 ∧ ∃ k, i ≤ k ∧ k < wdN.getD iw 0 ∧ c (b + k) ≠ wdg iw k) := by
        intro m
        induction m with
        | zero =>
          intro i n e1 e2
          obtain ⟨n, rfl⟩ : ∃ n', n = n' + 1 := ⟨n - 1, by omega⟩
          left
          refine ⟨?_, fun k k1 k2 => by omega⟩
          rw [lX4_nameIs_28, ltd]
          unfold sJ0_length_8abf5
          rw [if_pos ((pu_le (by omega) (by omega)).mpr (by omega))]
        | succ m ih =>
          intro i n e1 e2
          obtain ⟨n, rfl⟩ : ∃ n', n = n' + 1 := ⟨n - 1, by omega⟩
          rw [lX4_nameIs_28]
          simp only [ltd]
          unfold sJ0_length_8abf5
          rw [if_neg (fun q => by have := (pu_le (by omega) (by omega)).mp q; omega), pu_add, h.cB (by omega), w1' i (by omega), pu_succ]
          have hcb := (h.2 (b + i) (by omega)).1
          have hwb := w2' i (by omega)
          by_cases q : c (b + i) = wdg iw i
          · rw [if_pos (by rw [q])]
            rcases ih (i + 1) n (by omega) (by omega) with ⟨a1, a2⟩ | ⟨a1, k, k1, k2, k3⟩
            · left
              refine ⟨a1, fun k k1 k2 => ?_⟩
              rcases Nat.lt_or_ge i k with z | z
              · exact a2 k (by omega) k2
              · have : k = i := by omega
                subst this; exact q
            · exact Or.inr ⟨a1, k, by omega, k2, k3⟩
          · rw [if_neg (fun z => q ((pu_inj (by omega) (by omega)).mp z))]
            exact Or.inr ⟨rfl, i, Nat.le_refl _, by omega, q⟩
      rcases key (wdN.getD iw 0) 0 9 (by omega) (by omega) with ⟨a1, a2⟩ | ⟨a1, k, k1, k2, k3⟩
      · left
        refine ⟨a1, ?_, rfl⟩
        rw [cmp_eq0, ← w3, len]
        congr 2
        have : ∀ n, n ≤ wdN.getD iw 0 → vN c b n = vN (wdg iw) 0 n := by
          intro n
          induction n with
          | zero => intro _; rfl
          | succ n ih =>
            intro hn9
            show 256 * vN c b n + c (b + n) = 256 * vN (wdg iw) 0 n + wdg iw (0 + n)
            rw [ih (by omega), a2 n (by omega) (by omega), Nat.zero_add]
        exact this _ (Nat.le_refl _)
      · right
        refine ⟨a1, ?_⟩
        rw [cmp_eq0]
        intro q
        have lett : ∀ i, i < e - b → 1 ≤ c (b + i) ∧ c (b + i) ≤ 122 := by
          intro i hi
          have := n2 (b + i) (by omega) (by omega)
          unfold clsN at this
          split at this
          · omega
          · split at this
            · omega
            · split at this
              · omega
              · split at this <;> omega
        have hv : vN c b (e - b) < 9223372036854775808 := by
          rcases vN_lt (f := c) (b := b) (e - b) (fun i hi => by have := lett i hi; omega) with z | z
          · have : 256 ^ (e - b - 1) ≤ 256 ^ 7 := Nat.pow_le_pow_right (by omega) (by omega)
            have : (256 : Nat) ^ 7 = 72057594037927936 := by decide
            omega
          · omega
        have q2 := congrArg Int64.toInt q
        rw [lL_toInt (by omega) (by omega), lL_toInt (by omega) (by omega)] at q2
        have q3 : vN c b (e - b) = vN (wdg iw) 0 (wdN.getD iw 0) := by rw [w3]; omega
        obtain ⟨-, u2⟩ := vN_uniq (e - b) (wdN.getD iw 0) (fun i hi => by have := lett i hi; omega) (fun i hi => by have := w2' i hi; omega) q3
        exact k3 (u2 k (by omega))
    · rw [if_neg (fun q => len ((pu_inj (by omega) (by omega)).mp q))]
      right
      refine ⟨rfl, ?_⟩
      rw [cmp_eq0]
      by_cases n9 : e - b < 9
      · rw [word_loop h hbe he n9 n2]
        intro q
        have lett : ∀ i, i < e - b → 1 ≤ c (b + i) ∧ c (b + i) ≤ 122 := by
          intro i hi
          have := n2 (b + i) (by omega) (by omega)
          unfold clsN at this
          split at this
          · omega
          · split at this
            · omega
            · split at this
              · omega
              · split at this <;> omega
        have hv : vN c b (e - b) < 9223372036854775808 := by
          rcases vN_lt (f := c) (b := b) (e - b) (fun i hi => by have := lett i hi; omega) with z | z
          · have : 256 ^ (e - b - 1) ≤ 256 ^ 7 := Nat.pow_le_pow_right (by omega) (by omega)
            have : (256 : Nat) ^ 7 = 72057594037927936 := by decide
            omega
          · omega
        have q2 := congrArg Int64.toInt q
        rw [lL_toInt (by omega) (by omega), lL_toInt (by omega) (by omega)] at q2
        have q3 : vN c b (e - b) = vN (wdg iw) 0 (wdN.getD iw 0) := by rw [w3]; omega
        exact len (vN_uniq (e - b) (wdN.getD iw 0) (fun i hi => by have := lett i hi; omega) (fun i hi => by have := w2' i hi; omega) q3).1
      · have : (lX11_word_7 2 (nI b) (nI e) rt 401 (nI b) 0).2 = 0 := by
          rw [lX11_word_7, if_neg (fun q => by have := (pu_le (by omega) (by omega)).mp q; omega), if_pos (show (2 : Int32) = 2 from rfl), pu_sub hbe, if_pos (show (9 : Int32) ≤ nI (e - b) from (pu_le (a := 9) (by omega) (by omega)).mpr (by omega))]
        rw [this]
        exact zero_ne
  · have c1 : ¬ tkC t = 1 := by
      unfold tkC
      split
      · decide
      · exact fun q => t1 ((pu_inj (b := 1) (by omega) (by omega)).mp q)
    have c2 : ¬ tkM t = 2 := by
      unfold tkM
      split
      · decide
      · exact fun q => by have := (pu_inj (b := 2) (by omega) (by omega)).mp q; omega
    rw [if_neg c1]
    right
    refine ⟨rfl, ?_⟩
    have : (lX11_word_7 (tkM t) (nI b) (nI e) rt 401 (nI b) 0).2 = 0 := by
      rw [lX11_word_7, if_neg c2]
      split <;> rfl
    rw [this, cmp_eq0]
    exact zero_ne
end
abbrev rS := Int32 × Int32 × Int32 × Int32 × Int32 × Int32
theorem et6 (x : rS) : (x.1, x.2.1, x.2.2.1, x.2.2.2.1, x.2.2.2.2.1, x.2.2.2.2.2) = x := by cases x; rfl
section
variable {L : Nat} {c : Nat → Nat} {pb rt : Nat → Int32}
def okS (L : Nat) (rt : Nat → Int32) (p : Nat) (S : rS) : Prop := p ≤ L ∧ ∃ a : Int32, S = ((sX11_next (nI L) (nI p) rt).1, (sX11_next (nI L) (nI p) rt).2.1, (sX11_next (nI L) (nI p) rt).2.2.1, (sX11_next (nI L) (nI p) rt).2.2.2, 0, a)
def badS (f : Int32) (b : Int32) (S : rS) : Prop := S.2.2.2.2.1 = f ∧ S.2.2.2.2.2 = b ∧ (f = 1 ∨ f = 2 ∨ f = 3)
def numS (L : Nat) (rt : Nat → Int32) (lo hi : Int32) (S : rS) : Int32 × rS := sX11_numberIn lo hi (nI L) S.1 S.2.1 S.2.2.1 S.2.2.2.1 S.2.2.2.2.1 S.2.2.2.2.2 rt
def endS (L : Nat) (rt : Nat → Int32) (S : rS) : rS := sX11_mustEnd (nI L) S.1 S.2.1 S.2.2.1 S.2.2.2.1 S.2.2.2.2.1 S.2.2.2.2.2 rt
def mustS (L : Nat) (rt : Nat → Int32) (b : Int32) (S : rS) : rS := sX11_must b (nI L) S.1 S.2.1 S.2.2.1 S.2.2.2.1 S.2.2.2.2.1 S.2.2.2.2.2 rt
theorem badS.ne {f b : Int32} {S : rS} (h : badS f b S) : ¬ S.2.2.2.2.1 = 0 ∧ ¬ S.2.2.2.2.1 ≤ 0 := by
  rw [h.1]
  rcases h.2.2 with e | e | e <;> rw [e] <;> decide
theorem numS_bad {f b : Int32} {S : rS} (h : badS f b S) (lo hi : Int32) : numS L rt lo hi S = (0, S) := by
  unfold numS sX11_numberIn
  rw [if_neg h.ne.2]
theorem endS_bad {f b : Int32} {S : rS} (h : badS f b S) : endS L rt S = S := by
  unfold endS sX11_mustEnd
  rw [if_neg h.ne.1]
theorem mustS_ok {p : Nat} {S : rS} (h : okS L rt p S) {p' : Nat} (hp' : p' ≤ L) (e : S.1 = nI p') : okS L rt p' (mustS L rt 1 S) := by
  obtain ⟨hp, a, rfl⟩ := h
  unfold mustS sX11_must
  simp only [ltd]
  rw [if_neg (show ¬ (1 : Int32) = 0 by decide)]
  simp only [if_true]
  refine ⟨hp', a, ?_⟩
  dsimp only at e
  rw [e]
theorem mustS_no {p : Nat} {S : rS} (h : okS L rt p S) : badS 1 S.2.2.1 (mustS L rt 0 S) := by
  obtain ⟨hp, a, rfl⟩ := h
  unfold mustS sX11_must sX11_bad
  simp only [ltd, if_true]
  rw [if_neg (show ¬ (1 : Int32) = 0 by decide)]
  exact ⟨rfl, rfl, Or.inl rfl⟩
theorem num_loop (h : TP L c pb rt) {e : Nat} (he : e ≤ L) : ∀ (m b n : Nat) (v : Int32), b + m = e → m < n → (lX11_numberIn_17 3 (nI e) rt n (nI b) v).2 = numV c b m v := by
  have hL := h.1
  intro m
  induction m with
  | zero =>
    intro b n v h1 h2
    obtain ⟨n, rfl⟩ : ∃ n', n = n' + 1 := ⟨n - 1, by omega⟩
    have : b = e := by omega
    subst this
    rw [lX11_numberIn_17, if_pos (Int32.le_refl _)]
    rfl
  | succ m ih =>
    intro b n v h1 h2
    obtain ⟨n, rfl⟩ : ∃ n', n = n' + 1 := ⟨n - 1, by omega⟩
    rw [lX11_numberIn_17, if_neg (fun q => by have := (pu_le (by omega) (by omega)).mp q; omega), if_pos (show (3 : Int32) = 3 from rfl)]
    simp only [ltd]
    rw [pu_nat (show b < 2147483648 by omega), pu_succ, (h.2 b (by omega)).2.1, ih (b + 1) n _ (by omega) (by omega), Int32.mul_comm 10 v]
    rfl
theorem TP.num (h : TP L c pb rt) {p : Nat} {S : rS} (hS : okS L rt p S) (lo hi : Int32) :
    (∃ (p' : Nat) (v tk st : Int32), p' ≤ L ∧ lo.toInt ≤ v.toInt ∧ v.toInt ≤ hi.toInt ∧ sX4_takeNumber lo hi (nI L) pb (nI p) 0 = (1, nI p', tk, v, st, 0) ∧ (numS L rt lo hi S).1 = v ∧ okS L rt p' (numS L rt lo hi S).2) ∨
    (∃ (f b pl tk v : Int32), sX4_takeNumber lo hi (nI L) pb (nI p) 0 = (0, pl, tk, v, b, f) ∧ badS f b (numS L rt lo hi S).2) := by
  have hL := h.1
  obtain ⟨b, e, t, v, p1, p2, p3, p4, q1, q2, q3, q4⟩ := h.scan hS.1
  have hS' := hS
  obtain ⟨hp, a, rfl⟩ := hS
  unfold numS sX11_numberIn sX4_takeNumber
  simp only [ltd, et6]
  rw [q1, q2]
  dsimp only
  rw [if_pos (show (0 : Int32) ≤ 0 from Int32.le_refl _)]
  by_cases t2 : t = 2
  · obtain ⟨d1, d2, d3, d4⟩ := q4 t2
    subst t2
    rw [show tkC 2 = 2 from rfl, show tkM 2 = 3 from rfl]
    have ev : (lX11_numberIn_17 3 (nI e) rt 401 (nI b) 0).2 = v := by rw [d4]; exact num_loop h p3 (e - b) b 401 0 (by omega) (by omega)
    simp only [if_true]
    rw [ev]
    have okn : okS L rt p ((sX11_next (nI L) (nI p) rt).1, (sX11_next (nI L) (nI p) rt).2.1, (sX11_next (nI L) (nI p) rt).2.2.1, (sX11_next (nI L) (nI p) rt).2.2.2, 0, a) := hS'
    rw [q2] at okn
    by_cases c1 : lo.toInt ≤ v.toInt ∧ v.toInt ≤ hi.toInt
    · left
      rw [in_yes (a := lo.toInt) (b := hi.toInt) (Int32.toInt_toInt64 lo) (Int32.toInt_toInt64 hi) c1.1 c1.2, if_neg (show ¬ (1 : Int32) = 0 by decide), if_neg (show ¬ v < lo from fun q => by rw [Int32.lt_iff_toInt_lt] at q; omega), if_pos (show v ≤ hi by rw [Int32.le_iff_toInt_le]; omega)]
      have hm := mustS_ok okn p3 rfl
      unfold mustS at hm
      dsimp only at hm
      exact ⟨e, v, _, _, p3, c1.1, c1.2, rfl, rfl, hm⟩
    · right
      rw [in_no (a := lo.toInt) (b := hi.toInt) (Int32.toInt_toInt64 lo) (Int32.toInt_toInt64 hi) (by omega)]
      simp only [if_true]
      have eb : badS 2 (nI b) (sX11_must 1 (nI L) (nI e) 3 (nI b) (nI e) (sX11_bad 2 (nI b) 0 a).1 (sX11_bad 2 (nI b) 0 a).2 rt) := by
        unfold sX11_must sX11_bad
        simp only [ltd, if_true]
        rw [if_neg (show ¬ (1 : Int32) = 0 by decide), if_neg (show ¬ (2 : Int32) = 0 by decide)]
        exact ⟨rfl, rfl, Or.inr (Or.inl rfl)⟩
      by_cases c2 : v < lo
      · rw [if_pos c2]
        exact ⟨2, nI b, _, _, _, rfl, eb⟩
      · rw [if_neg c2, if_neg (show ¬ v ≤ hi from fun q => c1 (by rw [Int32.lt_iff_toInt_lt] at c2; rw [Int32.le_iff_toInt_le] at q; omega))]
        exact ⟨2, nI b, _, _, _, rfl, eb⟩
  · right
    have c1 : ¬ tkC t = 2 := by
      unfold tkC
      split
      · decide
      · exact fun q => t2 ((pu_inj (b := 2) (by omega) (by omega)).mp q)
    have c2 : ¬ tkM t = 3 := by
      unfold tkM
      split
      · decide
      · exact fun q => by have := (pu_inj (b := 3) (by omega) (by omega)).mp q; omega
    rw [if_neg c1, if_neg c2, if_neg c2]
    refine ⟨1, nI b, _, _, _, rfl, ?_⟩
    unfold sX11_must sX11_bad
    simp only [ltd, if_true]
    rw [if_neg (show ¬ (1 : Int32) = 0 by decide)]
    exact ⟨rfl, rfl, Or.inl rfl⟩
theorem TP.sign (h : TP L c pb rt) {p : Nat} {S : rS} (hS : okS L rt p S) :
    (∃ (p' : Nat) (v st : Int32), p' ≤ L ∧ sX4_scan (nI L) pb (nI p) = (nI p', 3, v, st) ∧ okS L rt p' (endS L rt S)) ∨
    (∃ (b pl tk v : Int32), sX4_scan (nI L) pb (nI p) = (pl, tk, v, b) ∧ ¬ tk = 3 ∧ badS 1 b (endS L rt S)) := by
  have hL := h.1
  obtain ⟨b, e, t, v, p1, p2, p3, p4, q1, q2, q3, q4⟩ := h.scan hS.1
  have hS' := hS
  obtain ⟨hp, a, rfl⟩ := hS
  unfold endS sX11_mustEnd
  simp only [ltd, if_true, et6]
  rw [q1, q2]
  dsimp only
  rw [q2] at hS'
  by_cases t3 : t = 3
  · left
    subst t3
    rw [show tkC 3 = 3 from rfl, show tkM 3 = 4 from rfl]
    simp only [if_true]
    have hm := mustS_ok hS' p3 rfl
    unfold mustS at hm
    dsimp only at hm
    exact ⟨e, v, nI b, p3, rfl, hm⟩
  · right
    have c1 : ¬ tkC t = 3 := by
      unfold tkC
      split
      · decide
      · exact fun q => t3 ((pu_inj (b := 3) (by omega) (by omega)).mp q)
    have c2 : ¬ tkM t = 4 := by
      unfold tkM
      split
      · decide
      · exact fun q => by have := (pu_inj (b := 4) (by omega) (by omega)).mp q; omega
    rw [if_neg c2]
    have hm := mustS_no hS'
    unfold mustS at hm
    dsimp only at hm
    exact ⟨nI b, nI e, tkC t, v, rfl, c1, hm⟩
def mRun (L : Nat) (rt : Nat → Int32) (a b : Nat) : Nat → Nat → rS → (Nat → Int32) → (Nat → Int32) × rS
  | 0, _, S, vs => (vs, endS L rt S)
  | m + 1, i, S, vs => mRun L rt a b m (i + 1) (numS L rt (tbF a i) (tbF b i) S).2 (upd vs i (numS L rt (tbF a i) (tbF b i) S).1)
theorem mRun_bad {f x : Int32} {a b : Nat} : ∀ (m i : Nat) (S : rS) (vs : Nat → Int32), badS f x S → badS f x (mRun L rt a b m i S vs).2 := by
  intro m
  induction m with
  | zero => intro i S vs h; show badS f x (endS L rt S); rw [endS_bad h]; exact h
  | succ m ih =>
    intro i S vs h
    show badS f x (mRun L rt a b m (i + 1) (numS L rt (tbF a i) (tbF b i) S).2 _).2
    rw [numS_bad h]
    exact ih _ _ _ h
theorem TP.nums (h : TP L c pb rt) {a b k : Nat} (ha : tbN a = k) (hb : tbN b = k) (hk : k ≤ 5) : ∀ (m i n p : Nat) (S : rS) (tk v st : Int32) (dn vs : Nat → Int32), i + m = k → m < n → okS L rt p S →
    (∃ (p' : Nat) (tk' v' st' : Int32) (dn' : Nat → Int32), p' ≤ L ∧ lX4_takeNumbers_2 a b (nI L) pb n (nI i) (nI p) tk v st 0 dn = (1, nI p', tk', v', st', 0, dn') ∧ okS L rt p' (mRun L rt a b m i S vs).2 ∧ (∀ j, j < i → dn' j = dn j ∧ (mRun L rt a b m i S vs).1 j = vs j) ∧ (∀ j, i ≤ j → j < k → dn' j = (mRun L rt a b m i S vs).1 j ∧ (tbF a j).toInt ≤ (dn' j).toInt ∧ (dn' j).toInt ≤ (tbF b j).toInt) ∧ (∀ j, k ≤ j → (mRun L rt a b m i S vs).1 j = vs j)) ∨
    (∃ (f x pl tk' v' : Int32) (dn' : Nat → Int32), lX4_takeNumbers_2 a b (nI L) pb n (nI i) (nI p) tk v st 0 dn = (0, pl, tk', v', x, f, dn') ∧ badS f x (mRun L rt a b m i S vs).2) := by
  intro m
  induction m with
  | zero =>
    intro i n p S tk v st dn vs h1 h2 hS
    obtain ⟨n, rfl⟩ : ∃ n', n = n' + 1 := ⟨n - 1, by omega⟩
    have e : i = k := by omega
    subst e
    rw [lX4_takeNumbers_2, ha, if_pos (Int32.le_refl _)]
    simp only [ltd]
    rcases h.sign hS with ⟨p', v', st', hp', e1, e2⟩ | ⟨x, pl, tk', v', e1, e2, e3⟩
    · left
      rw [e1]
      simp only [if_true]
      exact ⟨p', 3, v', st', dn, hp', rfl, e2, fun j hj => ⟨rfl, rfl⟩, fun j j1 j2 => by omega, fun j hj => rfl⟩
    · right
      rw [e1, if_neg e2]
      exact ⟨1, x, pl, tk', v', dn, rfl, e3⟩
  | succ m ih =>
    intro i n p S tk v st dn vs h1 h2 hS
    obtain ⟨n, rfl⟩ : ∃ n', n = n' + 1 := ⟨n - 1, by omega⟩
    have g : ¬ nI k ≤ nI i := fun q => by have := (pu_le (by omega) (by omega)).mp q; omega
    have g5 : ¬ (5 : Int32) ≤ nI i := fun q => by have := (pu_le (a := 5) (by omega) (by omega)).mp q; omega
    rw [lX4_takeNumbers_2, ha, hb, if_neg g, if_neg g, if_neg g5, pu_nat (show i < 2147483648 by omega)]
    simp only [ltd]
    rw [pu_succ]
    rcases h.num hS (tbF a i) (tbF b i) with ⟨p', v', tk', st', hp', b1, b2, e1, e2, e3⟩ | ⟨f, x, pl, tk', v', e1, e2⟩
    · rw [e1]
      rw [if_neg (show ¬ (1 : Int32) = 0 by decide)]
      dsimp only
      rcases ih (i + 1) n p' (numS L rt (tbF a i) (tbF b i) S).2 tk' v' st' (upd dn i v') (upd vs i (numS L rt (tbF a i) (tbF b i) S).1) (by omega) (by omega) e3 with ⟨p2, t2, v2, s2, d2, y1, y2, y3, y4, y5, y6⟩ | ⟨f, x, pl, t2, v2, d2, y1, y2⟩
      · left
        refine ⟨p2, t2, v2, s2, d2, y1, y2, y3, ?_, ?_, ?_⟩
        · intro j hj
          obtain ⟨z1, z2⟩ := y4 j (by omega)
          exact ⟨z1.trans (pu_un (by omega)), z2.trans (pu_un (by omega))⟩
        · intro j j1 j2
          rcases Nat.lt_or_ge i j with w | w
          · exact y5 j (by omega) j2
          · have : j = i := by omega
            subst this
            obtain ⟨z1, z2⟩ := y4 j (by omega)
            rw [pu_us] at z1
            have z2' : (mRun L rt a b (m + 1) j S vs).1 j = (numS L rt (tbF a j) (tbF b j) S).1 := z2.trans pu_us
            rw [z2', z1, e2]
            exact ⟨rfl, b1, b2⟩
        · intro j hj
          exact (y6 j hj).trans (pu_un (by omega))
      · right
        exact ⟨f, x, pl, t2, v2, d2, y1, y2⟩
    · right
      rw [e1, if_pos (show (0 : Int32) = 0 from rfl)]
      exact ⟨f, x, pl, tk', v', dn, rfl, mRun_bad m (i + 1) _ _ e2⟩
theorem TP.taken (h : TP L c pb rt) {p : Nat} {S : rS} (hS : okS L rt p S) {iw : Nat} (hw : iw < 9) :
    (∃ (p' : Nat) (v st tk : Int32), p' ≤ L ∧ sX4_takeName iw (nI L) pb (nI p) 0 = (1, nI p', tk, v, st, 0) ∧ okS L rt p' (mustS L rt (if lg_cmp (sX11_word S.2.1 S.2.2.1 S.2.2.2.1 0 rt) (lL (wC iw)) = 0 then 1 else 0) S)) ∨
    (∃ (b pl tk v : Int32), sX4_takeName iw (nI L) pb (nI p) 0 = (0, pl, tk, v, b, 1) ∧ badS 1 b (mustS L rt (if lg_cmp (sX11_word S.2.1 S.2.2.1 S.2.2.2.1 0 rt) (lL (wC iw)) = 0 then 1 else 0) S)) := by
  obtain ⟨b, e, t, v, p1, p2, p3, p4, q1, q2, q3, q4⟩ := h.scan hS.1
  have hS' := hS
  obtain ⟨hp, a, rfl⟩ := hS
  unfold sX4_takeName
  simp only [ltd]
  rw [q1]
  rw [q2] at hS' ⊢
  dsimp only
  rcases h.name p2 p3 p4 q3 hw with ⟨n1, n2, n3⟩ | ⟨n1, n2⟩
  · left
    rw [n1, if_neg (show ¬ (1 : Int32) = 0 by decide), if_pos n2]
    exact ⟨e, v, nI b, tkC t, p3, rfl, mustS_ok hS' p3 rfl⟩
  · right
    rw [n1, if_pos (show (0 : Int32) = 0 from rfl), if_neg n2]
    exact ⟨nI b, nI e, tkC t, v, rfl, mustS_no hS'⟩
end
