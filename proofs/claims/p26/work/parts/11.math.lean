/-! numbers: keys counted, the first key from one on, rows that list the keys -/
def up (f : Nat → Int) (k : Nat) (v : Int) : Nat → Int := fun j => if j = k then v else f j
def cnt (r : Nat → Int) : Nat → Nat
  | 0 => 0
  | k + 1 => cnt r k + (if 0 < r k then 1 else 0)
theorem cnt_s (r : Nat → Int) (k : Nat) : cnt r (k + 1) = cnt r k + (if 0 < r k then 1 else 0) := rfl
theorem cnt_s1 {r : Nat → Int} {k : Nat} (h : 0 < r k) : cnt r (k + 1) = cnt r k + 1 := by rw [cnt_s, if_pos h]
theorem cnt_s0 {r : Nat → Int} {k : Nat} (h : ¬ 0 < r k) : cnt r (k + 1) = cnt r k := by rw [cnt_s, if_neg h, Nat.add_zero]
theorem cnt_le (r : Nat → Int) : ∀ k, cnt r k ≤ k
  | 0 => Nat.le_refl _
  | k + 1 => by
    have := cnt_le r k
    rw [cnt_s]
    split <;> omega
theorem cnt_mono (r : Nat → Int) {a b : Nat} (h : a ≤ b) : cnt r a ≤ cnt r b := by
  induction h with
  | refl => exact Nat.le_refl _
  | step _ ih =>
    rw [Nat.succ_eq_add_one, cnt_s]
    omega
theorem cnt_lt {r : Nat → Int} {a b : Nat} (h : a < b) (ha : 0 < r a) : cnt r a < cnt r b := by
  have := cnt_mono r (show a + 1 ≤ b from h)
  rw [cnt_s1 ha] at this
  omega
theorem cnt_ex {r : Nat → Int} : ∀ {m j : Nat}, j < cnt r m → ∃ k, k < m ∧ 0 < r k ∧ cnt r k = j
  | 0, j, h => absurd h (Nat.not_lt_zero _)
  | m + 1, j, h => by
    by_cases c : j < cnt r m
    · obtain ⟨k, h1, h2, h3⟩ := cnt_ex c
      exact ⟨k, by omega, h2, h3⟩
    · by_cases d : 0 < r m
      · rw [cnt_s1 d] at h
        exact ⟨m, by omega, d, by omega⟩
      · rw [cnt_s0 d] at h
        omega
theorem cnt_congr {r r' : Nat → Int} : ∀ {m : Nat}, (∀ k, k < m → (0 < r k ↔ 0 < r' k)) → cnt r m = cnt r' m
  | 0, _ => rfl
  | m + 1, h => by
    rw [cnt_s, cnt_s, cnt_congr (fun k hk => h k (by omega))]
    have := h m (by omega)
    by_cases c : 0 < r m
    · rw [if_pos c, if_pos (this.mp c)]
    · rw [if_neg c, if_neg (fun q => c (this.mpr q))]
theorem cnt_skip {r : Nat → Int} {a b : Nat} (h : a ≤ b) (hz : ∀ j, a ≤ j → j < b → ¬ 0 < r j) : cnt r b = cnt r a := by
  induction h with
  | refl => rfl
  | @step m hm ih =>
    have hm : a ≤ m := hm
    rw [Nat.succ_eq_add_one, cnt_s0 (hz m hm (Nat.lt_succ_self m)), ih (fun j h1 h2 => hz j h1 (Nat.lt_succ_of_lt h2))]
def fstF (r : Nat → Int) : Nat → Nat → Nat
  | 0, k => k
  | n + 1, k => if 0 < r k then k else fstF r n (k + 1)
def fst (r : Nat → Int) (k : Nat) : Nat := fstF r (300 - k) k
theorem fstF_spec (r : Nat → Int) : ∀ (n k : Nat), k ≤ fstF r n k ∧ fstF r n k ≤ k + n ∧ (∀ j, k ≤ j → j < fstF r n k → ¬ 0 < r j) ∧ (fstF r n k < k + n → 0 < r (fstF r n k))
  | 0, k => ⟨Nat.le_refl _, Nat.le_refl _, fun j h1 h2 => by simp only [fstF] at h2; omega, fun h => by simp only [fstF] at h; omega⟩
  | n + 1, k => by
    by_cases c : 0 < r k
    · simp only [fstF, if_pos c]
      exact ⟨Nat.le_refl _, by omega, fun j h1 h2 => by omega, fun _ => c⟩
    · obtain ⟨h1, h2, h3, h4⟩ := fstF_spec r n (k + 1)
      simp only [fstF, if_neg c]
      refine ⟨by omega, by omega, fun j g1 g2 => ?_, fun g => h4 (by omega)⟩
      by_cases d : j = k
      · rw [d]; exact c
      · exact h3 j (by omega) g2
theorem fst_spec (r : Nat → Int) {k : Nat} (hk : k ≤ 300) : k ≤ fst r k ∧ fst r k ≤ 300 ∧ (∀ j, k ≤ j → j < fst r k → ¬ 0 < r j) ∧ (fst r k < 300 → 0 < r (fst r k)) := by
  obtain ⟨h1, h2, h3, h4⟩ := fstF_spec r (300 - k) k
  unfold fst
  exact ⟨h1, by omega, h3, fun h => h4 (by omega)⟩
theorem fst_uniq {r : Nat → Int} {k m : Nat} (hk : k ≤ m) (hm : m ≤ 300) (hz : ∀ j, k ≤ j → j < m → ¬ 0 < r j) (hp : m < 300 → 0 < r m) : fst r k = m := by
  obtain ⟨h1, h2, h3, h4⟩ := fst_spec r (k := k) (by omega)
  by_cases c : fst r k < m
  · exact absurd (h4 (by omega)) (hz _ h1 c)
  · by_cases d : m < fst r k
    · exact absurd (hp (by omega)) (h3 m hk d)
    · omega
theorem fst_self {r : Nat → Int} {k : Nat} (hk : k < 300) (h : 0 < r k) : fst r k = k := fst_uniq (Nat.le_refl _) (by omega) (fun j h1 h2 => by omega) (fun _ => h)
theorem fst_step {r : Nat → Int} {k : Nat} (hk : k < 300) (h : ¬ 0 < r k) : fst r k = fst r (k + 1) := by
  obtain ⟨h1, h2, h3, h4⟩ := fst_spec r (k := k + 1) (by omega)
  refine fst_uniq (by omega) h2 (fun j g1 g2 => ?_) h4
  by_cases d : j = k
  · rw [d]; exact h
  · exact h3 j (by omega) g2
theorem fst_300 (r : Nat → Int) : fst r 300 = 300 := rfl
theorem fst_congr {r r' : Nat → Int} {k : Nat} (hk : k ≤ 300) (h : ∀ j, k ≤ j → j < 300 → (0 < r j ↔ 0 < r' j)) : fst r k = fst r' k := by
  obtain ⟨h1, h2, h3, h4⟩ := fst_spec r' (k := k) hk
  exact fst_uniq h1 h2 (fun j g1 g2 => by rw [h j g1 (by omega)]; exact h3 j g1 g2) (fun g => by rw [h _ h1 g]; exact h4 g)
theorem cnt_fst (r : Nat → Int) {k : Nat} (hk : k ≤ 300) : cnt r (fst r k) = cnt r k := by
  obtain ⟨h1, h2, h3, h4⟩ := fst_spec r hk
  exact cnt_skip h1 h3
/-- a row that lists the keys; a row that lists their values -/
def Enm (r K : Nat → Int) : Prop := ∀ k, k < 300 → 0 < r k → K (cnt r k) = (k : Int)
def EnV (r V : Nat → Int) : Prop := ∀ k, k < 300 → 0 < r k → V (cnt r k) = r k
theorem Enm.key {r K : Nat → Int} (h : Enm r K) {j : Nat} (hj : j < cnt r 300) : ∃ k, k < 300 ∧ 0 < r k ∧ cnt r k = j ∧ K j = (k : Int) := by
  obtain ⟨k, h1, h2, h3⟩ := cnt_ex hj
  exact ⟨k, h1, h2, h3, by rw [← h3]; exact h k h1 h2⟩
theorem Enm.lt {r K : Nat → Int} (h : Enm r K) {j g : Nat} (hj : j < cnt r 300) : K j < (g : Int) ↔ j < cnt r g := by
  obtain ⟨k, h1, h2, h3, h4⟩ := h.key hj
  rw [h4]
  constructor
  · intro q
    rw [← h3]
    exact cnt_lt (by omega) h2
  · intro q
    by_cases c : g ≤ k
    · have := cnt_mono r c
      omega
    · omega
theorem Enm.ltI {r K : Nat → Int} (h : Enm r K) {j : Nat} {g : Int} (hg : 0 ≤ g) (hj : j < cnt r 300) : K j < g ↔ j < cnt r g.toNat := by
  have := h.lt (g := g.toNat) hj
  rw [Int.toNat_of_nonneg hg] at this
  exact this
theorem Enm.rng {r K : Nat → Int} (h : Enm r K) {j : Nat} (hj : j < cnt r 300) : 0 ≤ K j ∧ K j ≤ 299 := by
  obtain ⟨k, h1, h2, h3, h4⟩ := h.key hj
  omega
theorem Enm.first {r K : Nat → Int} (h : Enm r K) {k : Nat} (hk : k ≤ 300) (hc : cnt r k < cnt r 300) : K (cnt r k) = (fst r k : Int) := by
  obtain ⟨h1, h2, h3, h4⟩ := fst_spec r hk
  by_cases c : fst r k = 300
  · have := cnt_fst r hk
    rw [c] at this
    omega
  · rw [← cnt_fst r hk]
    exact h _ (by omega) (h4 (by omega))
theorem fst_none {r : Nat → Int} {k : Nat} (hk : k ≤ 300) (hc : ¬ cnt r k < cnt r 300) : fst r k = 300 := by
  obtain ⟨h1, h2, h3, h4⟩ := fst_spec r hk
  by_cases c : fst r k < 300
  · have := cnt_lt c (h4 c)
    rw [cnt_fst r hk] at this
    omega
  · omega
/-! what a leap costs: places alone, g: how many keys are short of the goal -/
def lkH : Nat → Int → Int → Int → Int
  | 0, _, _, _ => 0
  | f + 1, p, q, g => if q - p > 1 then (if (p + q) / 2 < g then lkH f ((p + q) / 2) q g else lkH f p ((p + q) / 2) g) + 1 else 0
def lk0 : Nat → Int → Int → Int → Int
  | 0, _, _, _ => 0
  | f + 1, i, n, g => if i < n then (if i < g then lk0 f (i + 1) n g + 1 else 1) else 0
def lk1 : Nat → Int → Int → Int → Int → Int → Int
  | 0, _, _, _, _, _ => 0
  | f + 1, i, b, p, n, g => if i + b < n then (if i + b < g then lk1 f i (b * 2) (i + b) n g + 1 else lkH 40 p (i + b) g + 1) else lkH 40 p n g
def lks (s i n g : Int) : Int := if s = 0 then lk0 40 (i + 1) n g else if s = 1 then lk1 40 i 1 i n g else lkH 40 i n g
theorem lkH_b : ∀ (f : Nat) (p q g : Int), 0 ≤ lkH f p q g ∧ lkH f p q g ≤ f
  | 0, _, _, _ => ⟨Int.le_refl _, Int.le_refl _⟩
  | f + 1, p, q, g => by
    have h1 := lkH_b f ((p + q) / 2) q g
    have h2 := lkH_b f p ((p + q) / 2) g
    simp only [lkH]
    split
    · split <;> omega
    · omega
theorem lk0_b : ∀ (f : Nat) (i n g : Int), 0 ≤ lk0 f i n g ∧ lk0 f i n g ≤ f
  | 0, _, _, _ => ⟨Int.le_refl _, Int.le_refl _⟩
  | f + 1, i, n, g => by
    have h1 := lk0_b f (i + 1) n g
    simp only [lk0]
    split
    · split <;> omega
    · omega
theorem lk1_b : ∀ (f : Nat) (i b p n g : Int), 0 ≤ lk1 f i b p n g ∧ lk1 f i b p n g ≤ f + 40
  | 0, _, _, _, _, _ => by simp only [lk1]; omega
  | f + 1, i, b, p, n, g => by
    have h1 := lk1_b f i (b * 2) (i + b) n g
    have h2 := lkH_b 40 p (i + b) g
    have h3 := lkH_b 40 p n g
    simp only [lk1]
    split
    · split <;> omega
    · omega
theorem lks_b (s i n g : Int) : 0 ≤ lks s i n g ∧ lks s i n g ≤ 80 := by
  have h1 := lk0_b 40 (i + 1) n g
  have h2 := lk1_b 40 i 1 i n g
  have h3 := lkH_b 40 i n g
  unfold lks
  split
  · omega
  · split <;> omega
/-! memory, row by row -/
theorem updM_ne {S : MM} {i j k : Nat} {z : Int} (h : j ≠ i) : updM S i k z j = S j := by
  funext b
  unfold updM
  rw [if_neg (fun w => h w.1)]
theorem updM_eq {S : MM} {i k : Nat} {z : Int} : updM S i k z i = up (S i) k z := by
  funext b
  unfold updM up
  by_cases h : b = k
  · rw [if_pos ⟨rfl, h⟩, if_pos h]
  · rw [if_neg (fun w => h w.2), if_neg h]
theorem up_eq {f : Nat → Int} {k : Nat} {v : Int} : up f k v k = v := by unfold up; rw [if_pos rfl]
theorem up_ne {f : Nat → Int} {k j : Nat} {v : Int} (h : j ≠ k) : up f k v j = f j := by unfold up; rw [if_neg h]
theorem up_at {f : Nat → Int} {k j : Nat} {v : Int} : up f k v j = if j = k then v else f j := rfl
theorem cpyM_ne {S : MM} {i a j b n x : Nat} (h : x ≠ j) : cpyM S i a j b n x = S x := by
  funext y
  unfold cpyM
  rw [if_neg (fun w => h w.1)]
