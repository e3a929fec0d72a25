/-- the text: its bytes up to its size -/
def tx (b : Nat → Int32) (n : Int) (i : Int) : Int := if 0 ≤ i ∧ i < n then (b i.toNat).toInt else -1000000
/-- what sort of byte: letter 1, figure 2, stop 3, none of these 4 -/
def srt (c : Int) : Int := if 97 ≤ c ∧ c ≤ 122 then 1 else if 48 ≤ c ∧ c ≤ 57 then 2 else if c = 59 then 3 else 4
def blA (t : Int → Int) : Nat → Int → Int
  | 0, k => k
  | g + 1, k => if t k = 32 ∨ t k = 10 then blA t g (k + 1) else k
/-- behind the blanks -/
def tS (t : Int → Int) (k : Int) : Int := blA t (401 - k).toNat k
def eeA (t : Int → Int) (s : Int) : Nat → Int → Int
  | 0, k => k
  | g + 1, k => if srt (t k) = s then eeA t s g (k + 1) else k
/-- behind a run of letters or figures -/
def ee (t : Int → Int) (s k : Int) : Int := if s = 1 ∨ s = 2 then eeA t s (401 - k).toNat k else k
def tEn (t : Int → Int) (a : Int) : Int := if t a = -1000000 then a else ee t (srt (t a)) (a + 1)
def tK (t : Int → Int) (a : Int) : Int := if t a = -1000000 then 0 else if srt (t a) = 2 ∧ 3 < tEn t a - a then 4 else srt (t a)
def vlA (t : Int → Int) : Nat → Int → Int → Int
  | 0, _, v => v
  | g + 1, i, v => vlA t g (i + 1) (v * 10 + t i - 48)
def vl (t : Int → Int) (e i v : Int) : Int := vlA t (e - i).toNat i v
def tV (t : Int → Int) (a : Int) : Int := vl t (tEn t a) a 0
def pkA (t : Int → Int) : Nat → Int → Int → Int
  | 0, _, v => v
  | g + 1, i, v => pkA t g (i + 1) (v * 256 + t i)
def pk (t : Int → Int) (e i v : Int) : Int := pkA t (e - i).toNat i v
/-- the letters of a short name, packed -/
def tNm (t : Int → Int) (a : Int) : Int := if tK t a = 1 ∧ tEn t a - a < 8 then pk t (tEn t a) a 0 else 0
def nx (t : Int → Int) (a : Int) : Int := tS t (tEn t a)
theorem tx_get {f : Nat → Int32} {n : Int} {i x : Int32} (h0 : 0 ≤ i.toInt) (h1 : i.toInt < n) (e : x = f i.toNatClampNeg) : tx f n i.toInt = x.toInt := by
  unfold tx
  rw [if_pos ⟨h0, h1⟩, e]
  rfl
theorem tx_out {f : Nat → Int32} {n k : Int} (h : n ≤ k) : tx f n k = -1000000 := if_neg (by omega)
theorem tx_eq {f g : Nat → Int32} {n : Int} (h : ∀ j : Nat, (j : Int) < n → f j = g j) : tx f n = tx g n := by
  funext i
  unfold tx
  split
  · next q => rw [h i.toNat (by omega)]
  · rfl
theorem srt_1 {c : Int} (h : 97 ≤ c ∧ c ≤ 122) : srt c = 1 := if_pos h
theorem srt_2 {c : Int} (h : 48 ≤ c ∧ c ≤ 57) : srt c = 2 := by unfold srt; rw [if_neg (by omega), if_pos h]
theorem srt_3 {c : Int} (h : c = 59) : srt c = 3 := by unfold srt; rw [if_neg (by omega), if_neg (by omega), if_pos h]
theorem srt_4 {c : Int} (h1 : ¬ (97 ≤ c ∧ c ≤ 122)) (h2 : ¬ (48 ≤ c ∧ c ≤ 57)) (h3 : ¬ c = 59) : srt c = 4 := by unfold srt; rw [if_neg h1, if_neg h2, if_neg h3]
theorem srt_c (c : Int) : (97 ≤ c ∧ c ≤ 122 ∧ srt c = 1) ∨ (48 ≤ c ∧ c ≤ 57 ∧ srt c = 2) ∨ (c = 59 ∧ srt c = 3) ∨ (¬ (97 ≤ c ∧ c ≤ 122) ∧ ¬ (48 ≤ c ∧ c ≤ 57) ∧ ¬ c = 59 ∧ srt c = 4) := by
  unfold srt
  split
  · omega
  · split
    · omega
    · split <;> omega
-- blanks
theorem tS_go {t : Int → Int} {k : Int} (h : t k = 32 ∨ t k = 10) (hk : k ≤ 400) : tS t k = tS t (k + 1) := by
  unfold tS
  rw [show (401 - k).toNat = (401 - (k + 1)).toNat + 1 from by omega]
  exact if_pos h
theorem tS_no {t : Int → Int} {k : Int} (h : ¬ (t k = 32 ∨ t k = 10)) : tS t k = k := by
  unfold tS
  cases (401 - k).toNat with
  | zero => rfl
  | succ g => exact if_neg h
theorem tS_bl {t : Int → Int} {k k2 c d : Int} (hs : tS t k = d) (h : t k = c) (hc : c = 32 ∨ c = 10) (hk : k ≤ 400) (h2 : k2 = k + 1) : tS t k2 = d := by
  subst h
  rw [h2, ← tS_go hc hk]
  exact hs
theorem tS_ne {t : Int → Int} {k c : Int} (h : t k = c) (h1 : ¬ c = 32) (h2 : ¬ c = 10) : tS t k = k := tS_no (by rw [h]; omega)
theorem tS_out {f : Nat → Int32} {n k : Int} (h : n ≤ k) : tS (tx f n) k = k := tS_ne (tx_out h) (by decide) (by decide)
theorem blA_fix (t : Int → Int) : ∀ (g : Nat) (k : Int), (g : Int) = (401 - k).toNat → tS t (blA t g k) = blA t g k := by
  intro g
  induction g with
  | zero =>
    intro k hk
    show tS t k = k
    unfold tS
    rw [show (401 - k).toNat = 0 from by omega]
    rfl
  | succ g ih =>
    intro k hk
    show tS t (if t k = 32 ∨ t k = 10 then blA t g (k + 1) else k) = (if t k = 32 ∨ t k = 10 then blA t g (k + 1) else k)
    split
    · exact ih (k + 1) (by omega)
    · next q => exact tS_no q
theorem tS_fix (t : Int → Int) (k : Int) : tS t (tS t k) = tS t k := blA_fix t _ k rfl
-- runs
theorem ee_go {t : Int → Int} {s k k2 c d : Int} (h : ee t s k = d) (hc : t k = c) (hs : srt c = s) (h12 : s = 1 ∨ s = 2) (hk : k ≤ 400) (h2 : k2 = k + 1) : ee t s k2 = d := by
  subst hc
  rw [← h, h2]
  unfold ee
  rw [if_pos h12, if_pos h12, show (401 - k).toNat = (401 - (k + 1)).toNat + 1 from by omega]
  exact (if_pos hs).symm
theorem ee_no {t : Int → Int} {s k c : Int} (hc : t k = c) (hs : ¬ srt c = s) : ee t s k = k := by
  subst hc
  unfold ee
  split
  · cases (401 - k).toNat with
    | zero => rfl
    | succ g => exact if_neg hs
  · rfl
theorem ee_st {t : Int → Int} {s k : Int} (h : ¬ (s = 1 ∨ s = 2)) : ee t s k = k := if_neg h
theorem ee_out {f : Nat → Int32} {n s k : Int} (h12 : s = 1 ∨ s = 2) (h : n ≤ k) : ee (tx f n) s k = k := ee_no (tx_out h) (by rw [srt_4 (by omega) (by omega) (by omega)]; omega)
-- values
theorem vl_st {t : Int → Int} {e i v i2 v2 x c : Int} (h : vl t e i v = c) (hi : i < e) (h2 : i2 = i + 1) (hx : t i = x) (hv : v2 = v * 10 + x - 48) : vl t e i2 v2 = c := by
  rw [← h, h2, hv, ← hx]
  unfold vl
  rw [show (e - i).toNat = (e - (i + 1)).toNat + 1 from by omega]
  rfl
theorem vl_en {t : Int → Int} {e i v c : Int} (h : vl t e i v = c) (hi : e ≤ i) : c = v := by
  rw [← h]
  unfold vl
  rw [show (e - i).toNat = 0 from by omega]
  rfl
theorem pk_st {t : Int → Int} {e i v i2 v2 x c : Int} (h : pk t e i v = c) (hi : i < e) (h2 : i2 = i + 1) (hx : t i = x) (hv : v2 = v * 256 + x) : pk t e i2 v2 = c := by
  rw [← h, h2, hv, ← hx]
  unfold pk
  rw [show (e - i).toNat = (e - (i + 1)).toNat + 1 from by omega]
  rfl
theorem pk_en {t : Int → Int} {e i v c : Int} (h : pk t e i v = c) (hi : e ≤ i) : c = v := by
  rw [← h]
  unfold pk
  rw [show (e - i).toNat = 0 from by omega]
  rfl
theorem eeA_all (t : Int → Int) (s : Int) : ∀ (g : Nat) (k i : Int), k ≤ i → i < eeA t s g k → srt (t i) = s := by
  intro g
  induction g with
  | zero =>
    intro k i h1 h2
    exact absurd (show i < k from h2) (by omega)
  | succ g ih =>
    intro k i h1 h2
    have h2 : i < (if srt (t k) = s then eeA t s g (k + 1) else k) := h2
    rcases Classical.em (srt (t k) = s) with q | q
    · rw [if_pos q] at h2
      rcases (show i = k ∨ k + 1 ≤ i by omega) with e | e
      · rw [e]; exact q
      · exact ih (k + 1) i e h2
    · rw [if_neg q] at h2
      omega
theorem tK_ltr {t : Int → Int} {a : Int} (h : tK t a = 1) : ∀ i, a ≤ i → i < tEn t a → 97 ≤ t i ∧ t i ≤ 122 := by
  intro i h1 h2
  have hn : ¬ t a = -1000000 := by
    intro q
    unfold tK at h
    rw [if_pos q] at h
    omega
  have hs : srt (t a) = 1 := by
    unfold tK at h
    rw [if_neg hn] at h
    split at h
    · omega
    · exact h
  have hi : srt (t i) = 1 := by
    rcases (show i = a ∨ a + 1 ≤ i by omega) with e | e
    · rw [e]; exact hs
    · unfold tEn at h2
      rw [if_neg hn, hs] at h2
      exact eeA_all t 1 _ (a + 1) i e h2
  have h3 := srt_c (t i)
  omega
theorem tK_fig {t : Int → Int} {a : Int} (h : tK t a = 2) : tEn t a - a ≤ 3 ∧ ∀ i, a ≤ i → i < tEn t a → 48 ≤ t i ∧ t i ≤ 57 := by
  have hn : ¬ t a = -1000000 := by
    intro q
    unfold tK at h
    rw [if_pos q] at h
    omega
  have hs : srt (t a) = 2 ∧ tEn t a - a ≤ 3 := by
    unfold tK at h
    rw [if_neg hn] at h
    split at h
    · omega
    · next q => exact ⟨h, by omega⟩
  refine ⟨hs.2, ?_⟩
  intro i h1 h2
  have hi : srt (t i) = 2 := by
    rcases (show i = a ∨ a + 1 ≤ i by omega) with e | e
    · rw [e]; exact hs.1
    · unfold tEn at h2
      rw [if_neg hn, hs.1] at h2
      exact eeA_all t 2 _ (a + 1) i e h2
  have h3 := srt_c (t i)
  omega
/-- the words, packed -/
def wC (w : Nat) : Int := [0x726f77, 0x7072696365, 0x66726565, 0x706572736f6e, 0x6368696c64, 0x677569646564].getD w 0
def mtw (t : Int → Int) (a : Int) (w : Nat) (i : Int) : Prop := ∀ j : Nat, (j : Int) < i → t (a + j) = ((wordB.getD w []).getD j 0).toInt
theorem pk_1 {t : Int → Int} {a e : Int} (h : e = a + 1) : pk t e a 0 = t a := by
  subst h
  unfold pk
  rw [show (a + 1 - a).toNat = 1 from by omega]
  show 0 * 256 + t a = _
  omega
theorem pk_2 {t : Int → Int} {a e : Int} (h : e = a + 2) : pk t e a 0 = t a * 256 + t (a + 1) := by
  subst h
  unfold pk
  rw [show (a + 2 - a).toNat = 2 from by omega]
  show (0 * 256 + t a) * 256 + t (a + 1) = _
  omega
theorem pk_3 {t : Int → Int} {a e : Int} (h : e = a + 3) : pk t e a 0 = (t a * 256 + t (a + 1)) * 256 + t (a + 2) := by
  subst h
  unfold pk
  rw [show (a + 3 - a).toNat = 3 from by omega]
  show ((0 * 256 + t a) * 256 + t (a + 1)) * 256 + t (a + 1 + 1) = _
  rw [show a + 1 + 1 = a + 2 from by omega]
  omega
theorem pk_4 {t : Int → Int} {a e : Int} (h : e = a + 4) : pk t e a 0 = ((t a * 256 + t (a + 1)) * 256 + t (a + 2)) * 256 + t (a + 3) := by
  subst h
  unfold pk
  rw [show (a + 4 - a).toNat = 4 from by omega]
  show (((0 * 256 + t a) * 256 + t (a + 1)) * 256 + t (a + 1 + 1)) * 256 + t (a + 1 + 1 + 1) = _
  rw [show a + 1 + 1 = a + 2 from by omega, show a + 2 + 1 = a + 3 from by omega]
  omega
theorem pk_5 {t : Int → Int} {a e : Int} (h : e = a + 5) : pk t e a 0 = (((t a * 256 + t (a + 1)) * 256 + t (a + 2)) * 256 + t (a + 3)) * 256 + t (a + 4) := by
  subst h
  unfold pk
  rw [show (a + 5 - a).toNat = 5 from by omega]
  show ((((0 * 256 + t a) * 256 + t (a + 1)) * 256 + t (a + 1 + 1)) * 256 + t (a + 1 + 1 + 1)) * 256 + t (a + 1 + 1 + 1 + 1) = _
  rw [show a + 1 + 1 = a + 2 from by omega, show a + 2 + 1 = a + 3 from by omega, show a + 3 + 1 = a + 4 from by omega]
  omega
theorem pk_6 {t : Int → Int} {a e : Int} (h : e = a + 6) : pk t e a 0 = ((((t a * 256 + t (a + 1)) * 256 + t (a + 2)) * 256 + t (a + 3)) * 256 + t (a + 4)) * 256 + t (a + 5) := by
  subst h
  unfold pk
  rw [show (a + 6 - a).toNat = 6 from by omega]
  show (((((0 * 256 + t a) * 256 + t (a + 1)) * 256 + t (a + 1 + 1)) * 256 + t (a + 1 + 1 + 1)) * 256 + t (a + 1 + 1 + 1 + 1)) * 256 + t (a + 1 + 1 + 1 + 1 + 1) = _
  rw [show a + 1 + 1 = a + 2 from by omega, show a + 2 + 1 = a + 3 from by omega, show a + 3 + 1 = a + 4 from by omega, show a + 4 + 1 = a + 5 from by omega]
  omega
theorem pk_7 {t : Int → Int} {a e : Int} (h : e = a + 7) : pk t e a 0 = (((((t a * 256 + t (a + 1)) * 256 + t (a + 2)) * 256 + t (a + 3)) * 256 + t (a + 4)) * 256 + t (a + 5)) * 256 + t (a + 6) := by
  subst h
  unfold pk
  rw [show (a + 7 - a).toNat = 7 from by omega]
  show ((((((0 * 256 + t a) * 256 + t (a + 1)) * 256 + t (a + 1 + 1)) * 256 + t (a + 1 + 1 + 1)) * 256 + t (a + 1 + 1 + 1 + 1)) * 256 + t (a + 1 + 1 + 1 + 1 + 1)) * 256 + t (a + 1 + 1 + 1 + 1 + 1 + 1) = _
  rw [show a + 1 + 1 = a + 2 from by omega, show a + 2 + 1 = a + 3 from by omega, show a + 3 + 1 = a + 4 from by omega, show a + 4 + 1 = a + 5 from by omega, show a + 5 + 1 = a + 6 from by omega]
  omega
theorem eeA_ge (t : Int → Int) (s : Int) : ∀ (g : Nat) (k : Int), k ≤ eeA t s g k := by
  intro g
  induction g with
  | zero => intro k; exact Int.le_refl k
  | succ g ih =>
    intro k
    show k ≤ (if srt (t k) = s then eeA t s g (k + 1) else k)
    split
    · have := ih (k + 1); omega
    · omega
theorem tK_pos {t : Int → Int} {a : Int} (h : ¬ tK t a = 0) : a < tEn t a := by
  have hn : ¬ t a = -1000000 := by
    intro q
    unfold tK at h
    rw [if_pos q] at h
    omega
  unfold tEn
  rw [if_neg hn]
  unfold ee
  split
  · have := eeA_ge t (srt (t a)) (401 - (a + 1)).toNat (a + 1); omega
  · omega
theorem nm_0 {t : Int → Int} {a : Int} (hk : tK t a = 1) : tNm t a = wC 0 ↔ (tEn t a - a = 3 ∧ t a = 114 ∧ t (a + 1) = 111 ∧ t (a + 2) = 119) := by
  have hl := tK_ltr hk
  have hp := tK_pos (t := t) (a := a) (by omega)
  unfold tNm
  rw [show wC 0 = 7499639 from rfl]
  rcases (show 8 ≤ tEn t a - a ∨ tEn t a - a < 8 by omega) with h8 | h8
  · rw [if_neg (by omega)]
    omega
  · rw [if_pos ⟨hk, h8⟩]
    have l0 := hl a (by omega) (by omega)
    rcases (show tEn t a = a + 1 ∨ tEn t a = a + 2 ∨ tEn t a = a + 3 ∨ tEn t a = a + 4 ∨ tEn t a = a + 5 ∨ tEn t a = a + 6 ∨ tEn t a = a + 7 by omega) with h | h | h | h | h | h | h
    · rw [pk_1 h]
      omega
    · have l1 := hl (a + 1) (by omega) (by omega)
      rw [pk_2 h]
      omega
    · have l1 := hl (a + 1) (by omega) (by omega)
      have l2 := hl (a + 2) (by omega) (by omega)
      rw [pk_3 h]
      omega
    · have l1 := hl (a + 1) (by omega) (by omega)
      have l2 := hl (a + 2) (by omega) (by omega)
      have l3 := hl (a + 3) (by omega) (by omega)
      rw [pk_4 h]
      omega
    · have l1 := hl (a + 1) (by omega) (by omega)
      have l2 := hl (a + 2) (by omega) (by omega)
      have l3 := hl (a + 3) (by omega) (by omega)
      have l4 := hl (a + 4) (by omega) (by omega)
      rw [pk_5 h]
      omega
    · have l1 := hl (a + 1) (by omega) (by omega)
      have l2 := hl (a + 2) (by omega) (by omega)
      have l3 := hl (a + 3) (by omega) (by omega)
      have l4 := hl (a + 4) (by omega) (by omega)
      have l5 := hl (a + 5) (by omega) (by omega)
      rw [pk_6 h]
      omega
    · have l1 := hl (a + 1) (by omega) (by omega)
      have l2 := hl (a + 2) (by omega) (by omega)
      have l3 := hl (a + 3) (by omega) (by omega)
      have l4 := hl (a + 4) (by omega) (by omega)
      have l5 := hl (a + 5) (by omega) (by omega)
      have l6 := hl (a + 6) (by omega) (by omega)
      rw [pk_7 h]
      omega
theorem wy_0 {t : Int → Int} {a : Int} (hk : tK t a = 1) (hL : tEn t a - a = 3) (hM : mtw t a 0 3) : tNm t a = wC 0 := by
  refine (nm_0 hk).mpr ⟨hL, ?_, ?_, ?_⟩
  · have q := hM 0 (by decide)
    rw [show ((wordB.getD 0 []).getD 0 0).toInt = 114 from by decide] at q
    rw [← q]
    exact congrArg t (by omega)
  · have q := hM 1 (by decide)
    rw [show ((wordB.getD 0 []).getD 1 0).toInt = 111 from by decide] at q
    rw [← q]
    rfl
  · have q := hM 2 (by decide)
    rw [show ((wordB.getD 0 []).getD 2 0).toInt = 119 from by decide] at q
    rw [← q]
    rfl
theorem wn_0 {t : Int → Int} {a : Int} (h : tNm t a = wC 0) : tK t a = 1 ∧ tEn t a - a = 3 ∧ mtw t a 0 3 := by
  have hk : tK t a = 1 := by
    rcases Classical.em (tK t a = 1) with q | q
    · exact q
    · unfold tNm at h
      rw [if_neg (fun z => q z.1)] at h
      exact absurd h (by decide)
  have g := (nm_0 hk).mp h
  refine ⟨hk, g.1, ?_⟩
  intro j hj
  rcases (show j = 0 ∨ j = 1 ∨ j = 2 by omega) with rfl | rfl | rfl
  · rw [show ((wordB.getD 0 []).getD 0 0).toInt = 114 from by decide]
    have q := g.2.1
    rw [← q]; exact congrArg t (by omega)
  · rw [show ((wordB.getD 0 []).getD 1 0).toInt = 111 from by decide]
    have q := g.2.2.1
    exact q
  · rw [show ((wordB.getD 0 []).getD 2 0).toInt = 119 from by decide]
    have q := g.2.2.2
    exact q
theorem nm_1 {t : Int → Int} {a : Int} (hk : tK t a = 1) : tNm t a = wC 1 ↔ (tEn t a - a = 5 ∧ t a = 112 ∧ t (a + 1) = 114 ∧ t (a + 2) = 105 ∧ t (a + 3) = 99 ∧ t (a + 4) = 101) := by
  have hl := tK_ltr hk
  have hp := tK_pos (t := t) (a := a) (by omega)
  unfold tNm
  rw [show wC 1 = 482955846501 from rfl]
  rcases (show 8 ≤ tEn t a - a ∨ tEn t a - a < 8 by omega) with h8 | h8
  · rw [if_neg (by omega)]
    omega
  · rw [if_pos ⟨hk, h8⟩]
    have l0 := hl a (by omega) (by omega)
    rcases (show tEn t a = a + 1 ∨ tEn t a = a + 2 ∨ tEn t a = a + 3 ∨ tEn t a = a + 4 ∨ tEn t a = a + 5 ∨ tEn t a = a + 6 ∨ tEn t a = a + 7 by omega) with h | h | h | h | h | h | h
    · rw [pk_1 h]
      omega
    · have l1 := hl (a + 1) (by omega) (by omega)
      rw [pk_2 h]
      omega
    · have l1 := hl (a + 1) (by omega) (by omega)
      have l2 := hl (a + 2) (by omega) (by omega)
      rw [pk_3 h]
      omega
    · have l1 := hl (a + 1) (by omega) (by omega)
      have l2 := hl (a + 2) (by omega) (by omega)
      have l3 := hl (a + 3) (by omega) (by omega)
      rw [pk_4 h]
      omega
    · have l1 := hl (a + 1) (by omega) (by omega)
      have l2 := hl (a + 2) (by omega) (by omega)
      have l3 := hl (a + 3) (by omega) (by omega)
      have l4 := hl (a + 4) (by omega) (by omega)
      rw [pk_5 h]
      omega
    · have l1 := hl (a + 1) (by omega) (by omega)
      have l2 := hl (a + 2) (by omega) (by omega)
      have l3 := hl (a + 3) (by omega) (by omega)
      have l4 := hl (a + 4) (by omega) (by omega)
      have l5 := hl (a + 5) (by omega) (by omega)
      rw [pk_6 h]
      omega
    · have l1 := hl (a + 1) (by omega) (by omega)
      have l2 := hl (a + 2) (by omega) (by omega)
      have l3 := hl (a + 3) (by omega) (by omega)
      have l4 := hl (a + 4) (by omega) (by omega)
      have l5 := hl (a + 5) (by omega) (by omega)
      have l6 := hl (a + 6) (by omega) (by omega)
      rw [pk_7 h]
      omega
theorem wy_1 {t : Int → Int} {a : Int} (hk : tK t a = 1) (hL : tEn t a - a = 5) (hM : mtw t a 1 5) : tNm t a = wC 1 := by
  refine (nm_1 hk).mpr ⟨hL, ?_, ?_, ?_, ?_, ?_⟩
  · have q := hM 0 (by decide)
    rw [show ((wordB.getD 1 []).getD 0 0).toInt = 112 from by decide] at q
    rw [← q]
    exact congrArg t (by omega)
  · have q := hM 1 (by decide)
    rw [show ((wordB.getD 1 []).getD 1 0).toInt = 114 from by decide] at q
    rw [← q]
    rfl
  · have q := hM 2 (by decide)
    rw [show ((wordB.getD 1 []).getD 2 0).toInt = 105 from by decide] at q
    rw [← q]
    rfl
  · have q := hM 3 (by decide)
    rw [show ((wordB.getD 1 []).getD 3 0).toInt = 99 from by decide] at q
    rw [← q]
    rfl
  · have q := hM 4 (by decide)
    rw [show ((wordB.getD 1 []).getD 4 0).toInt = 101 from by decide] at q
    rw [← q]
    rfl
theorem wn_1 {t : Int → Int} {a : Int} (h : tNm t a = wC 1) : tK t a = 1 ∧ tEn t a - a = 5 ∧ mtw t a 1 5 := by
  have hk : tK t a = 1 := by
    rcases Classical.em (tK t a = 1) with q | q
    · exact q
    · unfold tNm at h
      rw [if_neg (fun z => q z.1)] at h
      exact absurd h (by decide)
  have g := (nm_1 hk).mp h
  refine ⟨hk, g.1, ?_⟩
  intro j hj
  rcases (show j = 0 ∨ j = 1 ∨ j = 2 ∨ j = 3 ∨ j = 4 by omega) with rfl | rfl | rfl | rfl | rfl
  · rw [show ((wordB.getD 1 []).getD 0 0).toInt = 112 from by decide]
    have q := g.2.1
    rw [← q]; exact congrArg t (by omega)
  · rw [show ((wordB.getD 1 []).getD 1 0).toInt = 114 from by decide]
    have q := g.2.2.1
    exact q
  · rw [show ((wordB.getD 1 []).getD 2 0).toInt = 105 from by decide]
    have q := g.2.2.2.1
    exact q
  · rw [show ((wordB.getD 1 []).getD 3 0).toInt = 99 from by decide]
    have q := g.2.2.2.2.1
    exact q
  · rw [show ((wordB.getD 1 []).getD 4 0).toInt = 101 from by decide]
    have q := g.2.2.2.2.2
    exact q
theorem nm_2 {t : Int → Int} {a : Int} (hk : tK t a = 1) : tNm t a = wC 2 ↔ (tEn t a - a = 4 ∧ t a = 102 ∧ t (a + 1) = 114 ∧ t (a + 2) = 101 ∧ t (a + 3) = 101) := by
  have hl := tK_ltr hk
  have hp := tK_pos (t := t) (a := a) (by omega)
  unfold tNm
  rw [show wC 2 = 1718773093 from rfl]
  rcases (show 8 ≤ tEn t a - a ∨ tEn t a - a < 8 by omega) with h8 | h8
  · rw [if_neg (by omega)]
    omega
  · rw [if_pos ⟨hk, h8⟩]
    have l0 := hl a (by omega) (by omega)
    rcases (show tEn t a = a + 1 ∨ tEn t a = a + 2 ∨ tEn t a = a + 3 ∨ tEn t a = a + 4 ∨ tEn t a = a + 5 ∨ tEn t a = a + 6 ∨ tEn t a = a + 7 by omega) with h | h | h | h | h | h | h
    · rw [pk_1 h]
      omega
    · have l1 := hl (a + 1) (by omega) (by omega)
      rw [pk_2 h]
      omega
    · have l1 := hl (a + 1) (by omega) (by omega)
      have l2 := hl (a + 2) (by omega) (by omega)
      rw [pk_3 h]
      omega
    · have l1 := hl (a + 1) (by omega) (by omega)
      have l2 := hl (a + 2) (by omega) (by omega)
      have l3 := hl (a + 3) (by omega) (by omega)
      rw [pk_4 h]
      omega
    · have l1 := hl (a + 1) (by omega) (by omega)
      have l2 := hl (a + 2) (by omega) (by omega)
      have l3 := hl (a + 3) (by omega) (by omega)
      have l4 := hl (a + 4) (by omega) (by omega)
      rw [pk_5 h]
      omega
    · have l1 := hl (a + 1) (by omega) (by omega)
      have l2 := hl (a + 2) (by omega) (by omega)
      have l3 := hl (a + 3) (by omega) (by omega)
      have l4 := hl (a + 4) (by omega) (by omega)
      have l5 := hl (a + 5) (by omega) (by omega)
      rw [pk_6 h]
      omega
    · have l1 := hl (a + 1) (by omega) (by omega)
      have l2 := hl (a + 2) (by omega) (by omega)
      have l3 := hl (a + 3) (by omega) (by omega)
      have l4 := hl (a + 4) (by omega) (by omega)
      have l5 := hl (a + 5) (by omega) (by omega)
      have l6 := hl (a + 6) (by omega) (by omega)
      rw [pk_7 h]
      omega
theorem wy_2 {t : Int → Int} {a : Int} (hk : tK t a = 1) (hL : tEn t a - a = 4) (hM : mtw t a 2 4) : tNm t a = wC 2 := by
  refine (nm_2 hk).mpr ⟨hL, ?_, ?_, ?_, ?_⟩
  · have q := hM 0 (by decide)
    rw [show ((wordB.getD 2 []).getD 0 0).toInt = 102 from by decide] at q
    rw [← q]
    exact congrArg t (by omega)
  · have q := hM 1 (by decide)
    rw [show ((wordB.getD 2 []).getD 1 0).toInt = 114 from by decide] at q
    rw [← q]
    rfl
  · have q := hM 2 (by decide)
    rw [show ((wordB.getD 2 []).getD 2 0).toInt = 101 from by decide] at q
    rw [← q]
    rfl
  · have q := hM 3 (by decide)
    rw [show ((wordB.getD 2 []).getD 3 0).toInt = 101 from by decide] at q
    rw [← q]
    rfl
theorem wn_2 {t : Int → Int} {a : Int} (h : tNm t a = wC 2) : tK t a = 1 ∧ tEn t a - a = 4 ∧ mtw t a 2 4 := by
  have hk : tK t a = 1 := by
    rcases Classical.em (tK t a = 1) with q | q
    · exact q
    · unfold tNm at h
      rw [if_neg (fun z => q z.1)] at h
      exact absurd h (by decide)
  have g := (nm_2 hk).mp h
  refine ⟨hk, g.1, ?_⟩
  intro j hj
  rcases (show j = 0 ∨ j = 1 ∨ j = 2 ∨ j = 3 by omega) with rfl | rfl | rfl | rfl
  · rw [show ((wordB.getD 2 []).getD 0 0).toInt = 102 from by decide]
    have q := g.2.1
    rw [← q]; exact congrArg t (by omega)
  · rw [show ((wordB.getD 2 []).getD 1 0).toInt = 114 from by decide]
    have q := g.2.2.1
    exact q
  · rw [show ((wordB.getD 2 []).getD 2 0).toInt = 101 from by decide]
    have q := g.2.2.2.1
    exact q
  · rw [show ((wordB.getD 2 []).getD 3 0).toInt = 101 from by decide]
    have q := g.2.2.2.2
    exact q
theorem nm_3 {t : Int → Int} {a : Int} (hk : tK t a = 1) : tNm t a = wC 3 ↔ (tEn t a - a = 6 ∧ t a = 112 ∧ t (a + 1) = 101 ∧ t (a + 2) = 114 ∧ t (a + 3) = 115 ∧ t (a + 4) = 111 ∧ t (a + 5) = 110) := by
  have hl := tK_ltr hk
  have hp := tK_pos (t := t) (a := a) (by omega)
  unfold tNm
  rw [show wC 3 = 123581014175598 from rfl]
  rcases (show 8 ≤ tEn t a - a ∨ tEn t a - a < 8 by omega) with h8 | h8
  · rw [if_neg (by omega)]
    omega
  · rw [if_pos ⟨hk, h8⟩]
    have l0 := hl a (by omega) (by omega)
    rcases (show tEn t a = a + 1 ∨ tEn t a = a + 2 ∨ tEn t a = a + 3 ∨ tEn t a = a + 4 ∨ tEn t a = a + 5 ∨ tEn t a = a + 6 ∨ tEn t a = a + 7 by omega) with h | h | h | h | h | h | h
    · rw [pk_1 h]
      omega
    · have l1 := hl (a + 1) (by omega) (by omega)
      rw [pk_2 h]
      omega
    · have l1 := hl (a + 1) (by omega) (by omega)
      have l2 := hl (a + 2) (by omega) (by omega)
      rw [pk_3 h]
      omega
    · have l1 := hl (a + 1) (by omega) (by omega)
      have l2 := hl (a + 2) (by omega) (by omega)
      have l3 := hl (a + 3) (by omega) (by omega)
      rw [pk_4 h]
      omega
    · have l1 := hl (a + 1) (by omega) (by omega)
      have l2 := hl (a + 2) (by omega) (by omega)
      have l3 := hl (a + 3) (by omega) (by omega)
      have l4 := hl (a + 4) (by omega) (by omega)
      rw [pk_5 h]
      omega
    · have l1 := hl (a + 1) (by omega) (by omega)
      have l2 := hl (a + 2) (by omega) (by omega)
      have l3 := hl (a + 3) (by omega) (by omega)
      have l4 := hl (a + 4) (by omega) (by omega)
      have l5 := hl (a + 5) (by omega) (by omega)
      rw [pk_6 h]
      omega
    · have l1 := hl (a + 1) (by omega) (by omega)
      have l2 := hl (a + 2) (by omega) (by omega)
      have l3 := hl (a + 3) (by omega) (by omega)
      have l4 := hl (a + 4) (by omega) (by omega)
      have l5 := hl (a + 5) (by omega) (by omega)
      have l6 := hl (a + 6) (by omega) (by omega)
      rw [pk_7 h]
      omega
theorem wy_3 {t : Int → Int} {a : Int} (hk : tK t a = 1) (hL : tEn t a - a = 6) (hM : mtw t a 3 6) : tNm t a = wC 3 := by
  refine (nm_3 hk).mpr ⟨hL, ?_, ?_, ?_, ?_, ?_, ?_⟩
  · have q := hM 0 (by decide)
    rw [show ((wordB.getD 3 []).getD 0 0).toInt = 112 from by decide] at q
    rw [← q]
    exact congrArg t (by omega)
  · have q := hM 1 (by decide)
    rw [show ((wordB.getD 3 []).getD 1 0).toInt = 101 from by decide] at q
    rw [← q]
    rfl
  · have q := hM 2 (by decide)
    rw [show ((wordB.getD 3 []).getD 2 0).toInt = 114 from by decide] at q
    rw [← q]
    rfl
  · have q := hM 3 (by decide)
    rw [show ((wordB.getD 3 []).getD 3 0).toInt = 115 from by decide] at q
    rw [← q]
    rfl
  · have q := hM 4 (by decide)
    rw [show ((wordB.getD 3 []).getD 4 0).toInt = 111 from by decide] at q
    rw [← q]
    rfl
  · have q := hM 5 (by decide)
    rw [show ((wordB.getD 3 []).getD 5 0).toInt = 110 from by decide] at q
    rw [← q]
    rfl
theorem wn_3 {t : Int → Int} {a : Int} (h : tNm t a = wC 3) : tK t a = 1 ∧ tEn t a - a = 6 ∧ mtw t a 3 6 := by
  have hk : tK t a = 1 := by
    rcases Classical.em (tK t a = 1) with q | q
    · exact q
    · unfold tNm at h
      rw [if_neg (fun z => q z.1)] at h
      exact absurd h (by decide)
  have g := (nm_3 hk).mp h
  refine ⟨hk, g.1, ?_⟩
  intro j hj
  rcases (show j = 0 ∨ j = 1 ∨ j = 2 ∨ j = 3 ∨ j = 4 ∨ j = 5 by omega) with rfl | rfl | rfl | rfl | rfl | rfl
  · rw [show ((wordB.getD 3 []).getD 0 0).toInt = 112 from by decide]
    have q := g.2.1
    rw [← q]; exact congrArg t (by omega)
  · rw [show ((wordB.getD 3 []).getD 1 0).toInt = 101 from by decide]
    have q := g.2.2.1
    exact q
  · rw [show ((wordB.getD 3 []).getD 2 0).toInt = 114 from by decide]
    have q := g.2.2.2.1
    exact q
  · rw [show ((wordB.getD 3 []).getD 3 0).toInt = 115 from by decide]
    have q := g.2.2.2.2.1
    exact q
  · rw [show ((wordB.getD 3 []).getD 4 0).toInt = 111 from by decide]
    have q := g.2.2.2.2.2.1
    exact q
  · rw [show ((wordB.getD 3 []).getD 5 0).toInt = 110 from by decide]
    have q := g.2.2.2.2.2.2
    exact q
theorem nm_4 {t : Int → Int} {a : Int} (hk : tK t a = 1) : tNm t a = wC 4 ↔ (tEn t a - a = 5 ∧ t a = 99 ∧ t (a + 1) = 104 ∧ t (a + 2) = 105 ∧ t (a + 3) = 108 ∧ t (a + 4) = 100) := by
  have hl := tK_ltr hk
  have hp := tK_pos (t := t) (a := a) (by omega)
  unfold tNm
  rw [show wC 4 = 426953501796 from rfl]
  rcases (show 8 ≤ tEn t a - a ∨ tEn t a - a < 8 by omega) with h8 | h8
  · rw [if_neg (by omega)]
    omega
  · rw [if_pos ⟨hk, h8⟩]
    have l0 := hl a (by omega) (by omega)
    rcases (show tEn t a = a + 1 ∨ tEn t a = a + 2 ∨ tEn t a = a + 3 ∨ tEn t a = a + 4 ∨ tEn t a = a + 5 ∨ tEn t a = a + 6 ∨ tEn t a = a + 7 by omega) with h | h | h | h | h | h | h
    · rw [pk_1 h]
      omega
    · have l1 := hl (a + 1) (by omega) (by omega)
      rw [pk_2 h]
      omega
    · have l1 := hl (a + 1) (by omega) (by omega)
      have l2 := hl (a + 2) (by omega) (by omega)
      rw [pk_3 h]
      omega
    · have l1 := hl (a + 1) (by omega) (by omega)
      have l2 := hl (a + 2) (by omega) (by omega)
      have l3 := hl (a + 3) (by omega) (by omega)
      rw [pk_4 h]
      omega
    · have l1 := hl (a + 1) (by omega) (by omega)
      have l2 := hl (a + 2) (by omega) (by omega)
      have l3 := hl (a + 3) (by omega) (by omega)
      have l4 := hl (a + 4) (by omega) (by omega)
      rw [pk_5 h]
      omega
    · have l1 := hl (a + 1) (by omega) (by omega)
      have l2 := hl (a + 2) (by omega) (by omega)
      have l3 := hl (a + 3) (by omega) (by omega)
      have l4 := hl (a + 4) (by omega) (by omega)
      have l5 := hl (a + 5) (by omega) (by omega)
      rw [pk_6 h]
      omega
    · have l1 := hl (a + 1) (by omega) (by omega)
      have l2 := hl (a + 2) (by omega) (by omega)
      have l3 := hl (a + 3) (by omega) (by omega)
      have l4 := hl (a + 4) (by omega) (by omega)
      have l5 := hl (a + 5) (by omega) (by omega)
      have l6 := hl (a + 6) (by omega) (by omega)
      rw [pk_7 h]
      omega
theorem wy_4 {t : Int → Int} {a : Int} (hk : tK t a = 1) (hL : tEn t a - a = 5) (hM : mtw t a 4 5) : tNm t a = wC 4 := by
  refine (nm_4 hk).mpr ⟨hL, ?_, ?_, ?_, ?_, ?_⟩
  · have q := hM 0 (by decide)
    rw [show ((wordB.getD 4 []).getD 0 0).toInt = 99 from by decide] at q
    rw [← q]
    exact congrArg t (by omega)
  · have q := hM 1 (by decide)
    rw [show ((wordB.getD 4 []).getD 1 0).toInt = 104 from by decide] at q
    rw [← q]
    rfl
  · have q := hM 2 (by decide)
    rw [show ((wordB.getD 4 []).getD 2 0).toInt = 105 from by decide] at q
    rw [← q]
    rfl
  · have q := hM 3 (by decide)
    rw [show ((wordB.getD 4 []).getD 3 0).toInt = 108 from by decide] at q
    rw [← q]
    rfl
  · have q := hM 4 (by decide)
    rw [show ((wordB.getD 4 []).getD 4 0).toInt = 100 from by decide] at q
    rw [← q]
    rfl
theorem wn_4 {t : Int → Int} {a : Int} (h : tNm t a = wC 4) : tK t a = 1 ∧ tEn t a - a = 5 ∧ mtw t a 4 5 := by
  have hk : tK t a = 1 := by
    rcases Classical.em (tK t a = 1) with q | q
    · exact q
    · unfold tNm at h
      rw [if_neg (fun z => q z.1)] at h
      exact absurd h (by decide)
  have g := (nm_4 hk).mp h
  refine ⟨hk, g.1, ?_⟩
  intro j hj
  rcases (show j = 0 ∨ j = 1 ∨ j = 2 ∨ j = 3 ∨ j = 4 by omega) with rfl | rfl | rfl | rfl | rfl
  · rw [show ((wordB.getD 4 []).getD 0 0).toInt = 99 from by decide]
    have q := g.2.1
    rw [← q]; exact congrArg t (by omega)
  · rw [show ((wordB.getD 4 []).getD 1 0).toInt = 104 from by decide]
    have q := g.2.2.1
    exact q
  · rw [show ((wordB.getD 4 []).getD 2 0).toInt = 105 from by decide]
    have q := g.2.2.2.1
    exact q
  · rw [show ((wordB.getD 4 []).getD 3 0).toInt = 108 from by decide]
    have q := g.2.2.2.2.1
    exact q
  · rw [show ((wordB.getD 4 []).getD 4 0).toInt = 100 from by decide]
    have q := g.2.2.2.2.2
    exact q
theorem nm_5 {t : Int → Int} {a : Int} (hk : tK t a = 1) : tNm t a = wC 5 ↔ (tEn t a - a = 6 ∧ t a = 103 ∧ t (a + 1) = 117 ∧ t (a + 2) = 105 ∧ t (a + 3) = 100 ∧ t (a + 4) = 101 ∧ t (a + 5) = 100) := by
  have hl := tK_ltr hk
  have hp := tK_pos (t := t) (a := a) (by omega)
  unfold tNm
  rw [show wC 5 = 113753977021796 from rfl]
  rcases (show 8 ≤ tEn t a - a ∨ tEn t a - a < 8 by omega) with h8 | h8
  · rw [if_neg (by omega)]
    omega
  · rw [if_pos ⟨hk, h8⟩]
    have l0 := hl a (by omega) (by omega)
    rcases (show tEn t a = a + 1 ∨ tEn t a = a + 2 ∨ tEn t a = a + 3 ∨ tEn t a = a + 4 ∨ tEn t a = a + 5 ∨ tEn t a = a + 6 ∨ tEn t a = a + 7 by omega) with h | h | h | h | h | h | h
    · rw [pk_1 h]
      omega
    · have l1 := hl (a + 1) (by omega) (by omega)
      rw [pk_2 h]
      omega
    · have l1 := hl (a + 1) (by omega) (by omega)
      have l2 := hl (a + 2) (by omega) (by omega)
      rw [pk_3 h]
      omega
    · have l1 := hl (a + 1) (by omega) (by omega)
      have l2 := hl (a + 2) (by omega) (by omega)
      have l3 := hl (a + 3) (by omega) (by omega)
      rw [pk_4 h]
      omega
    · have l1 := hl (a + 1) (by omega) (by omega)
      have l2 := hl (a + 2) (by omega) (by omega)
      have l3 := hl (a + 3) (by omega) (by omega)
      have l4 := hl (a + 4) (by omega) (by omega)
      rw [pk_5 h]
      omega
    · have l1 := hl (a + 1) (by omega) (by omega)
      have l2 := hl (a + 2) (by omega) (by omega)
      have l3 := hl (a + 3) (by omega) (by omega)
      have l4 := hl (a + 4) (by omega) (by omega)
      have l5 := hl (a + 5) (by omega) (by omega)
      rw [pk_6 h]
      omega
    · have l1 := hl (a + 1) (by omega) (by omega)
      have l2 := hl (a + 2) (by omega) (by omega)
      have l3 := hl (a + 3) (by omega) (by omega)
      have l4 := hl (a + 4) (by omega) (by omega)
      have l5 := hl (a + 5) (by omega) (by omega)
      have l6 := hl (a + 6) (by omega) (by omega)
      rw [pk_7 h]
      omega
theorem wy_5 {t : Int → Int} {a : Int} (hk : tK t a = 1) (hL : tEn t a - a = 6) (hM : mtw t a 5 6) : tNm t a = wC 5 := by
  refine (nm_5 hk).mpr ⟨hL, ?_, ?_, ?_, ?_, ?_, ?_⟩
  · have q := hM 0 (by decide)
    rw [show ((wordB.getD 5 []).getD 0 0).toInt = 103 from by decide] at q
    rw [← q]
    exact congrArg t (by omega)
  · have q := hM 1 (by decide)
    rw [show ((wordB.getD 5 []).getD 1 0).toInt = 117 from by decide] at q
    rw [← q]
    rfl
  · have q := hM 2 (by decide)
    rw [show ((wordB.getD 5 []).getD 2 0).toInt = 105 from by decide] at q
    rw [← q]
    rfl
  · have q := hM 3 (by decide)
    rw [show ((wordB.getD 5 []).getD 3 0).toInt = 100 from by decide] at q
    rw [← q]
    rfl
  · have q := hM 4 (by decide)
    rw [show ((wordB.getD 5 []).getD 4 0).toInt = 101 from by decide] at q
    rw [← q]
    rfl
  · have q := hM 5 (by decide)
    rw [show ((wordB.getD 5 []).getD 5 0).toInt = 100 from by decide] at q
    rw [← q]
    rfl
theorem wn_5 {t : Int → Int} {a : Int} (h : tNm t a = wC 5) : tK t a = 1 ∧ tEn t a - a = 6 ∧ mtw t a 5 6 := by
  have hk : tK t a = 1 := by
    rcases Classical.em (tK t a = 1) with q | q
    · exact q
    · unfold tNm at h
      rw [if_neg (fun z => q z.1)] at h
      exact absurd h (by decide)
  have g := (nm_5 hk).mp h
  refine ⟨hk, g.1, ?_⟩
  intro j hj
  rcases (show j = 0 ∨ j = 1 ∨ j = 2 ∨ j = 3 ∨ j = 4 ∨ j = 5 by omega) with rfl | rfl | rfl | rfl | rfl | rfl
  · rw [show ((wordB.getD 5 []).getD 0 0).toInt = 103 from by decide]
    have q := g.2.1
    rw [← q]; exact congrArg t (by omega)
  · rw [show ((wordB.getD 5 []).getD 1 0).toInt = 117 from by decide]
    have q := g.2.2.1
    exact q
  · rw [show ((wordB.getD 5 []).getD 2 0).toInt = 105 from by decide]
    have q := g.2.2.2.1
    exact q
  · rw [show ((wordB.getD 5 []).getD 3 0).toInt = 100 from by decide]
    have q := g.2.2.2.2.1
    exact q
  · rw [show ((wordB.getD 5 []).getD 4 0).toInt = 101 from by decide]
    have q := g.2.2.2.2.2.1
    exact q
  · rw [show ((wordB.getD 5 []).getD 5 0).toInt = 100 from by decide]
    have q := g.2.2.2.2.2.2
    exact q
noncomputable def ifP {α : Type} (P : Prop) (x y : α) : α := @ite α P (Classical.propDecidable P) x y
theorem ifP_y {α : Type} {P : Prop} {x y : α} (h : P) : ifP P x y = x := @if_pos P (Classical.propDecidable P) h α x y
theorem ifP_n {α : Type} {P : Prop} {x y : α} (h : ¬ P) : ifP P x y = y := @if_neg P (Classical.propDecidable P) h α x y
/-- the letters of a row of cells -/
def clL (c : Int) : Prop := c = 111 ∨ c = 119 ∨ c = 109 ∨ (97 ≤ c ∧ c ≤ 102)
/-- what a letter is in the grid -/
def codC (c : Int) : Int := if 97 ≤ c ∧ c ≤ 102 then c - 94 else if c = 111 then 0 else if c = 119 then 1 else if c = 109 then 2 else -1
theorem codC_c (c : Int) : (97 ≤ c ∧ c ≤ 102 ∧ codC c = c - 94) ∨ (c = 111 ∧ codC c = 0) ∨ (c = 119 ∧ codC c = 1) ∨ (c = 109 ∧ codC c = 2) ∨ (¬ clL c ∧ codC c = -1) := by
  unfold codC clL
  split
  · omega
  · split
    · omega
    · split
      · omega
      · split <;> omega
/-- the token is a row of cells, in a city that has h rows of w cells -/
def isC (t : Int → Int) (h w a : Int) : Prop := tK t a = 1 ∧ tEn t a - a ≤ 10 ∧ (¬ h = 0 → tEn t a - a = w) ∧ ∀ i, a ≤ i → i < tEn t a → clL (t i)
/-- what is read: fault, its place, width, height, people; prices, free, places, homes, manners -/
def fltR (f p : Int) : Int × Int × Int × Int × Int × (Nat → Int) × (Nat → Int) × (Nat → Int) × (Nat → Int) × (Nat → Int) := (f, p, 0, 0, 0, fun _ => 0, fun _ => 0, fun _ => 0, fun _ => 0, fun _ => 0)
def okR (w h n : Int) (P F L H M : Nat → Int) : Int × Int × Int × Int × Int × (Nat → Int) × (Nat → Int) × (Nat → Int) × (Nat → Int) × (Nat → Int) := (0, 0, w, h, n, P, F, L, H, M)
def updI (P : Nat → Int) (k v : Int) : Nat → Int := fun j => if (j : Int) = k then v else P j
/-- where the rows begin -/
def rwS (t : Int → Int) : Nat → Int
  | 0 => tS t 0
  | y + 1 => nx t (nx t (nx t (rwS t y)))
def cSt (t : Int → Int) (y : Nat) : Int := nx t (rwS t y)
/-- a number below a bound: its fault -/
noncomputable def nF (t : Int → Int) (b a : Int) : Int := ifP (¬ tK t a = 2) 1 (ifP (b ≤ tV t a) 2 0)
/-- a cell that is told and open -/
def opT (t : Int → Int) (h x y : Int) : Prop := y < h ∧ t (cSt t y.toNat + x) = 111
noncomputable def yF (t : Int → Int) (h x a : Int) : Int := ifP (¬ tK t a = 2) 1 (ifP (opT t h x (tV t a)) 0 2)
/-- an open cell by two numbers: its fault, and where -/
noncomputable def oF (t : Int → Int) (w h a : Int) : Int := ifP (nF t w a = 0) (yF t h (tV t a) (nx t a)) (nF t w a)
noncomputable def oP (t : Int → Int) (w a : Int) : Int := ifP (nF t w a = 0) (nx t a) a
noncomputable def mnT (t : Int → Int) (a : Int) : Int := ifP (tNm t a = wC 4) 1 (ifP (tNm t a = wC 5) 2 0)
noncomputable def rQA (t : Int → Int) (w h : Int) (P F : Nat → Int) : Nat → Int → Int → (Nat → Int) → (Nat → Int) → (Nat → Int) → Int × Int × Int × Int × Int × (Nat → Int) × (Nat → Int) × (Nat → Int) × (Nat → Int) × (Nat → Int)
  | 0, _, a, _, _, _ => fltR 9 a
  | g + 1, n, a, L, H, M => ifP (tNm t a = wC 3)
      (ifP (n = 6) (fltR 3 a)
        (ifP (¬ oF t w h (nx t a) = 0) (fltR (oF t w h (nx t a)) (oP t w (nx t a)))
          (ifP (¬ oF t w h (nx t (nx t (nx t a))) = 0) (fltR (oF t w h (nx t (nx t (nx t a)))) (oP t w (nx t (nx t (nx t a)))))
            (ifP (tK t (ifP (mnT t (nx t (nx t (nx t (nx t (nx t a))))) = 0) (nx t (nx t (nx t (nx t (nx t a))))) (nx t (nx t (nx t (nx t (nx t (nx t a))))))) = 3)
              (rQA t w h P F g (n + 1) (nx t (ifP (mnT t (nx t (nx t (nx t (nx t (nx t a))))) = 0) (nx t (nx t (nx t (nx t (nx t a))))) (nx t (nx t (nx t (nx t (nx t (nx t a)))))))) (updI L n (tV t (nx t a) + 10 * tV t (nx t (nx t a)))) (updI H n (tV t (nx t (nx t (nx t a))) + 10 * tV t (nx t (nx t (nx t (nx t a)))))) (updI M n (mnT t (nx t (nx t (nx t (nx t (nx t a))))))))
              (fltR 1 (ifP (mnT t (nx t (nx t (nx t (nx t (nx t a))))) = 0) (nx t (nx t (nx t (nx t (nx t a))))) (nx t (nx t (nx t (nx t (nx t (nx t a)))))))) ))))
      (ifP (tK t a = 0) (okR w h n P F L H M) (fltR 1 a))
noncomputable def rQ (t : Int → Int) (w h : Int) (P F : Nat → Int) (n a : Int) (L H M : Nat → Int) := rQA t w h P F (7 - n).toNat n a L H M
noncomputable def rPA (t : Int → Int) (w h : Int) : Nat → Int → Int → (Nat → Int) → (Nat → Int) → Int × Int × Int × Int × Int × (Nat → Int) × (Nat → Int) × (Nat → Int) × (Nat → Int) × (Nat → Int)
  | 0, _, a, _, _ => fltR 9 a
  | g + 1, n, a, P, F => ifP (tNm t a = wC 1)
      (ifP (n = 6) (fltR 3 a)
        (ifP (¬ nF t 6 (nx t a) = 0) (fltR (nF t 6 (nx t a)) (nx t a))
          (ifP (¬ nF t 100 (nx t (nx t a)) = 0) (fltR (nF t 100 (nx t (nx t a))) (nx t (nx t a)))
            (ifP (tK t (ifP (tNm t (nx t (nx t (nx t a))) = wC 2) (nx t (nx t (nx t (nx t a)))) (nx t (nx t (nx t a)))) = 3)
              (rPA t w h g (n + 1) (nx t (ifP (tNm t (nx t (nx t (nx t a))) = wC 2) (nx t (nx t (nx t (nx t a)))) (nx t (nx t (nx t a))))) (updI P (tV t (nx t a)) (tV t (nx t (nx t a)))) (updI F (tV t (nx t a)) (ifP (tNm t (nx t (nx t (nx t a))) = wC 2) 1 0)))
              (fltR 1 (ifP (tNm t (nx t (nx t (nx t a))) = wC 2) (nx t (nx t (nx t (nx t a)))) (nx t (nx t (nx t a)))))))))
      (rQ t w h P F 0 a (fun _ => 0) (fun _ => 0) (fun _ => 0))
noncomputable def rP (t : Int → Int) (w h : Int) (n a : Int) (P F : Nat → Int) := rPA t w h (7 - n).toNat n a P F
noncomputable def rRA (t : Int → Int) : Nat → Int → Int → Int → Int × Int × Int × Int × Int × (Nat → Int) × (Nat → Int) × (Nat → Int) × (Nat → Int) × (Nat → Int)
  | 0, _, _, a => fltR 9 a
  | g + 1, h, w, a => ifP (tNm t a = wC 0)
      (ifP (h = 8) (fltR 3 a)
        (ifP (¬ isC t h w (nx t a)) (fltR 1 (nx t a))
          (ifP (tK t (nx t (nx t a)) = 3) (rRA t g (h + 1) (tEn t (nx t a) - nx t a) (nx t (nx t (nx t a)))) (fltR 1 (nx t (nx t a))))))
      (rP t w h 0 a (fun _ => 0) (fun _ => 0))
noncomputable def rR (t : Int → Int) (h w a : Int) := rRA t (9 - h).toNat h w a
noncomputable def RD (t : Int → Int) := ifP (tNm t (tS t 0) = wC 0) (rR t 0 0 (tS t 0)) (fltR 1 (tS t 0))
-- rows
theorem rR_0 {t : Int → Int} {h w a : Int} (hh : h ≤ 8) : rR t h w a = ifP (tNm t a = wC 0) (ifP (h = 8) (fltR 3 a) (ifP (¬ isC t h w (nx t a)) (fltR 1 (nx t a)) (ifP (tK t (nx t (nx t a)) = 3) (rR t (h + 1) (tEn t (nx t a) - nx t a) (nx t (nx t (nx t a)))) (fltR 1 (nx t (nx t a)))))) (rP t w h 0 a (fun _ => 0) (fun _ => 0)) := by
  unfold rR
  rw [show (9 - h).toNat = (9 - (h + 1)).toNat + 1 from by omega]
  rfl
theorem rR_end {t : Int → Int} {h w a : Int} (hh : h ≤ 8) (hn : ¬ tNm t a = wC 0) : rR t h w a = rP t w h 0 a (fun _ => 0) (fun _ => 0) := by
  rw [rR_0 hh, ifP_n hn]
theorem rR_8 {t : Int → Int} {h w a : Int} (hh : h = 8) (hn : tNm t a = wC 0) : rR t h w a = fltR 3 a := by
  rw [rR_0 (by omega), ifP_y hn, ifP_y hh]
theorem rR_c {t : Int → Int} {h w a : Int} (hh : h < 8) (hn : tNm t a = wC 0) (hc : ¬ isC t h w (nx t a)) : rR t h w a = fltR 1 (nx t a) := by
  rw [rR_0 (by omega), ifP_y hn, ifP_n (by omega), ifP_y hc]
theorem rR_s {t : Int → Int} {h w a : Int} (hh : h < 8) (hn : tNm t a = wC 0) (hc : isC t h w (nx t a)) (hs : ¬ tK t (nx t (nx t a)) = 3) : rR t h w a = fltR 1 (nx t (nx t a)) := by
  rw [rR_0 (by omega), ifP_y hn, ifP_n (by omega), ifP_n (fun q => q hc), ifP_n hs]
theorem rR_go {t : Int → Int} {h w a : Int} (hh : h < 8) (hn : tNm t a = wC 0) (hc : isC t h w (nx t a)) (hs : tK t (nx t (nx t a)) = 3) : rR t h w a = rR t (h + 1) (tEn t (nx t a) - nx t a) (nx t (nx t (nx t a))) := by
  rw [rR_0 (by omega), ifP_y hn, ifP_n (by omega), ifP_n (fun q => q hc), ifP_y hs]
-- prices
theorem rP_0 {t : Int → Int} {w h n a : Int} {P F : Nat → Int} (hn : n ≤ 6) : rP t w h n a P F = ifP (tNm t a = wC 1)
      (ifP (n = 6) (fltR 3 a)
        (ifP (¬ nF t 6 (nx t a) = 0) (fltR (nF t 6 (nx t a)) (nx t a))
          (ifP (¬ nF t 100 (nx t (nx t a)) = 0) (fltR (nF t 100 (nx t (nx t a))) (nx t (nx t a)))
            (ifP (tK t (ifP (tNm t (nx t (nx t (nx t a))) = wC 2) (nx t (nx t (nx t (nx t a)))) (nx t (nx t (nx t a)))) = 3)
              (rP t w h (n + 1) (nx t (ifP (tNm t (nx t (nx t (nx t a))) = wC 2) (nx t (nx t (nx t (nx t a)))) (nx t (nx t (nx t a))))) (updI P (tV t (nx t a)) (tV t (nx t (nx t a)))) (updI F (tV t (nx t a)) (ifP (tNm t (nx t (nx t (nx t a))) = wC 2) 1 0)))
              (fltR 1 (ifP (tNm t (nx t (nx t (nx t a))) = wC 2) (nx t (nx t (nx t (nx t a)))) (nx t (nx t (nx t a)))))))))
      (rQ t w h P F 0 a (fun _ => 0) (fun _ => 0) (fun _ => 0)) := by
  unfold rP
  rw [show (7 - n).toNat = (7 - (n + 1)).toNat + 1 from by omega]
  rfl
theorem rP_end {t : Int → Int} {w h n a : Int} {P F : Nat → Int} (hn : n ≤ 6) (hw : ¬ tNm t a = wC 1) : rP t w h n a P F = rQ t w h P F 0 a (fun _ => 0) (fun _ => 0) (fun _ => 0) := by
  rw [rP_0 hn, ifP_n hw]
theorem rP_6 {t : Int → Int} {w h n a : Int} {P F : Nat → Int} (hn : n = 6) (hw : tNm t a = wC 1) : rP t w h n a P F = fltR 3 a := by
  rw [rP_0 (by omega), ifP_y hw, ifP_y hn]
theorem rP_a {t : Int → Int} {w h n a f : Int} {P F : Nat → Int} (hn : n < 6) (hw : tNm t a = wC 1) (h1 : nF t 6 (nx t a) = f) (hf : ¬ f = 0) : rP t w h n a P F = fltR f (nx t a) := by
  subst h1
  rw [rP_0 (by omega), ifP_y hw, ifP_n (by omega), ifP_y hf]
theorem rP_b {t : Int → Int} {w h n a f : Int} {P F : Nat → Int} (hn : n < 6) (hw : tNm t a = wC 1) (h1 : nF t 6 (nx t a) = 0) (h2 : nF t 100 (nx t (nx t a)) = f) (hf : ¬ f = 0) : rP t w h n a P F = fltR f (nx t (nx t a)) := by
  subst h2
  rw [rP_0 (by omega), ifP_y hw, ifP_n (by omega), ifP_n (fun q => q h1), ifP_y hf]
theorem rP_fs {t : Int → Int} {w h n a : Int} {P F : Nat → Int} (hn : n < 6) (hw : tNm t a = wC 1) (h1 : nF t 6 (nx t a) = 0) (h2 : nF t 100 (nx t (nx t a)) = 0) (h3 : tNm t (nx t (nx t (nx t a))) = wC 2) (hs : ¬ tK t (nx t (nx t (nx t (nx t a)))) = 3) : rP t w h n a P F = fltR 1 (nx t (nx t (nx t (nx t a)))) := by
  rw [rP_0 (by omega), ifP_y hw, ifP_n (by omega), ifP_n (fun q => q h1), ifP_n (fun q => q h2), ifP_y h3, ifP_n hs]
theorem rP_ns {t : Int → Int} {w h n a : Int} {P F : Nat → Int} (hn : n < 6) (hw : tNm t a = wC 1) (h1 : nF t 6 (nx t a) = 0) (h2 : nF t 100 (nx t (nx t a)) = 0) (h3 : ¬ tNm t (nx t (nx t (nx t a))) = wC 2) (hs : ¬ tK t (nx t (nx t (nx t a))) = 3) : rP t w h n a P F = fltR 1 (nx t (nx t (nx t a))) := by
  rw [rP_0 (by omega), ifP_y hw, ifP_n (by omega), ifP_n (fun q => q h1), ifP_n (fun q => q h2), ifP_n h3, ifP_n hs]
theorem rP_f {t : Int → Int} {w h n a : Int} {P F : Nat → Int} (hn : n < 6) (hw : tNm t a = wC 1) (h1 : nF t 6 (nx t a) = 0) (h2 : nF t 100 (nx t (nx t a)) = 0) (h3 : tNm t (nx t (nx t (nx t a))) = wC 2) (hs : tK t (nx t (nx t (nx t (nx t a)))) = 3) : rP t w h n a P F = rP t w h (n + 1) (nx t (nx t (nx t (nx t (nx t a))))) (updI P (tV t (nx t a)) (tV t (nx t (nx t a)))) (updI F (tV t (nx t a)) 1) := by
  rw [rP_0 (by omega), ifP_y hw, ifP_n (by omega), ifP_n (fun q => q h1), ifP_n (fun q => q h2), ifP_y h3, ifP_y hs, ifP_y h3]
theorem rP_n {t : Int → Int} {w h n a : Int} {P F : Nat → Int} (hn : n < 6) (hw : tNm t a = wC 1) (h1 : nF t 6 (nx t a) = 0) (h2 : nF t 100 (nx t (nx t a)) = 0) (h3 : ¬ tNm t (nx t (nx t (nx t a))) = wC 2) (hs : tK t (nx t (nx t (nx t a))) = 3) : rP t w h n a P F = rP t w h (n + 1) (nx t (nx t (nx t (nx t a)))) (updI P (tV t (nx t a)) (tV t (nx t (nx t a)))) (updI F (tV t (nx t a)) 0) := by
  rw [rP_0 (by omega), ifP_y hw, ifP_n (by omega), ifP_n (fun q => q h1), ifP_n (fun q => q h2), ifP_n h3, ifP_y hs, ifP_n h3]
theorem rQ_0 {t : Int → Int} {w h n a : Int} {P F L H M : Nat → Int} (hn : n ≤ 6) : rQ t w h P F n a L H M = ifP (tNm t a = wC 3)
      (ifP (n = 6) (fltR 3 a)
        (ifP (¬ oF t w h (nx t a) = 0) (fltR (oF t w h (nx t a)) (oP t w (nx t a)))
          (ifP (¬ oF t w h (nx t (nx t (nx t a))) = 0) (fltR (oF t w h (nx t (nx t (nx t a)))) (oP t w (nx t (nx t (nx t a)))))
            (ifP (tK t (ifP (mnT t (nx t (nx t (nx t (nx t (nx t a))))) = 0) (nx t (nx t (nx t (nx t (nx t a))))) (nx t (nx t (nx t (nx t (nx t (nx t a))))))) = 3) (rQ t w h P F (n + 1) (nx t (ifP (mnT t (nx t (nx t (nx t (nx t (nx t a))))) = 0) (nx t (nx t (nx t (nx t (nx t a))))) (nx t (nx t (nx t (nx t (nx t (nx t a)))))))) (updI L n (tV t (nx t a) + 10 * tV t (nx t (nx t a)))) (updI H n (tV t (nx t (nx t (nx t a))) + 10 * tV t (nx t (nx t (nx t (nx t a)))))) (updI M n (mnT t (nx t (nx t (nx t (nx t (nx t a)))))))) (fltR 1 (ifP (mnT t (nx t (nx t (nx t (nx t (nx t a))))) = 0) (nx t (nx t (nx t (nx t (nx t a))))) (nx t (nx t (nx t (nx t (nx t (nx t a))))))))))))
      (ifP (tK t a = 0) (okR w h n P F L H M) (fltR 1 a)) := by
  unfold rQ
  rw [show (7 - n).toNat = (7 - (n + 1)).toNat + 1 from by omega]
  rfl
theorem rQ_ok {t : Int → Int} {w h n a : Int} {P F L H M : Nat → Int} (hn : n ≤ 6) (hw : ¬ tNm t a = wC 3) (hk : tK t a = 0) : rQ t w h P F n a L H M = okR w h n P F L H M := by
  rw [rQ_0 hn, ifP_n hw, ifP_y hk]
theorem rQ_more {t : Int → Int} {w h n a : Int} {P F L H M : Nat → Int} (hn : n ≤ 6) (hw : ¬ tNm t a = wC 3) (hk : ¬ tK t a = 0) : rQ t w h P F n a L H M = fltR 1 a := by
  rw [rQ_0 hn, ifP_n hw, ifP_n hk]
theorem rQ_6 {t : Int → Int} {w h n a : Int} {P F L H M : Nat → Int} (hn : n = 6) (hw : tNm t a = wC 3) : rQ t w h P F n a L H M = fltR 3 a := by
  rw [rQ_0 (by omega), ifP_y hw, ifP_y hn]
theorem rQ_a {t : Int → Int} {w h n a : Int} {P F L H M : Nat → Int} (hn : n < 6) (hw : tNm t a = wC 3) {f p : Int} (h1 : oF t w h (nx t a) = f) (hp : oP t w (nx t a) = p) (hf : ¬ f = 0) : rQ t w h P F n a L H M = fltR f p := by
  subst h1 hp
  rw [rQ_0 (by omega), ifP_y hw, ifP_n (by omega), ifP_y hf]
theorem rQ_b {t : Int → Int} {w h n a : Int} {P F L H M : Nat → Int} (hn : n < 6) (hw : tNm t a = wC 3) {f p : Int} (h1 : oF t w h (nx t a) = 0) (h2 : oF t w h (nx t (nx t (nx t a))) = f) (hp : oP t w (nx t (nx t (nx t a))) = p) (hf : ¬ f = 0) : rQ t w h P F n a L H M = fltR f p := by
  subst h2 hp
  rw [rQ_0 (by omega), ifP_y hw, ifP_n (by omega), ifP_n (fun q => q h1), ifP_y hf]
theorem rQ_cs {t : Int → Int} {w h n a : Int} {P F L H M : Nat → Int} (hn : n < 6) (hw : tNm t a = wC 3) (h1 : oF t w h (nx t a) = 0) (h2 : oF t w h (nx t (nx t (nx t a))) = 0) {m : Int} (hm : mnT t (nx t (nx t (nx t (nx t (nx t a))))) = m) (h0 : ¬ m = 0) (hs : ¬ tK t (nx t (nx t (nx t (nx t (nx t (nx t a)))))) = 3) : rQ t w h P F n a L H M = fltR 1 (nx t (nx t (nx t (nx t (nx t (nx t a)))))) := by
  subst hm
  rw [rQ_0 (by omega), ifP_y hw, ifP_n (by omega), ifP_n (fun q => q h1), ifP_n (fun q => q h2), ifP_n h0, ifP_n hs]
theorem rQ_c {t : Int → Int} {w h n a : Int} {P F L H M : Nat → Int} (hn : n < 6) (hw : tNm t a = wC 3) (h1 : oF t w h (nx t a) = 0) (h2 : oF t w h (nx t (nx t (nx t a))) = 0) {m : Int} (hm : mnT t (nx t (nx t (nx t (nx t (nx t a))))) = m) (h0 : ¬ m = 0) (hs : tK t (nx t (nx t (nx t (nx t (nx t (nx t a)))))) = 3) : rQ t w h P F n a L H M = rQ t w h P F (n + 1) (nx t (nx t (nx t (nx t (nx t (nx t (nx t a))))))) (updI L n (tV t (nx t a) + 10 * tV t (nx t (nx t a)))) (updI H n (tV t (nx t (nx t (nx t a))) + 10 * tV t (nx t (nx t (nx t (nx t a)))))) (updI M n m) := by
  subst hm
  rw [rQ_0 (by omega), ifP_y hw, ifP_n (by omega), ifP_n (fun q => q h1), ifP_n (fun q => q h2), ifP_n h0, ifP_y hs]
theorem rQ_us {t : Int → Int} {w h n a : Int} {P F L H M : Nat → Int} (hn : n < 6) (hw : tNm t a = wC 3) (h1 : oF t w h (nx t a) = 0) (h2 : oF t w h (nx t (nx t (nx t a))) = 0) {m : Int} (hm : mnT t (nx t (nx t (nx t (nx t (nx t a))))) = m) (h0 : m = 0) (hs : ¬ tK t (nx t (nx t (nx t (nx t (nx t a))))) = 3) : rQ t w h P F n a L H M = fltR 1 (nx t (nx t (nx t (nx t (nx t a))))) := by
  subst hm
  rw [rQ_0 (by omega), ifP_y hw, ifP_n (by omega), ifP_n (fun q => q h1), ifP_n (fun q => q h2), ifP_y h0, ifP_n hs]
theorem rQ_u {t : Int → Int} {w h n a : Int} {P F L H M : Nat → Int} (hn : n < 6) (hw : tNm t a = wC 3) (h1 : oF t w h (nx t a) = 0) (h2 : oF t w h (nx t (nx t (nx t a))) = 0) {m : Int} (hm : mnT t (nx t (nx t (nx t (nx t (nx t a))))) = m) (h0 : m = 0) (hs : tK t (nx t (nx t (nx t (nx t (nx t a))))) = 3) : rQ t w h P F n a L H M = rQ t w h P F (n + 1) (nx t (nx t (nx t (nx t (nx t (nx t a)))))) (updI L n (tV t (nx t a) + 10 * tV t (nx t (nx t a)))) (updI H n (tV t (nx t (nx t (nx t a))) + 10 * tV t (nx t (nx t (nx t (nx t a)))))) (updI M n m) := by
  subst hm
  rw [rQ_0 (by omega), ifP_y hw, ifP_n (by omega), ifP_n (fun q => q h1), ifP_n (fun q => q h2), ifP_y h0, ifP_y hs]
theorem RD_no {t : Int → Int} (h : ¬ tNm t (tS t 0) = wC 0) : RD t = fltR 1 (tS t 0) := ifP_n h
theorem RD_go {t : Int → Int} (h : tNm t (tS t 0) = wC 0) : RD t = rR t 0 0 (tS t 0) := ifP_y h
theorem nF_1 {t : Int → Int} {b a : Int} (h : ¬ tK t a = 2) : nF t b a = 1 := ifP_y h
theorem nF_2 {t : Int → Int} {b a : Int} (h : tK t a = 2) (hv : b ≤ tV t a) : nF t b a = 2 := (ifP_n (fun q => q h)).trans (ifP_y hv)
theorem nF_0 {t : Int → Int} {b a : Int} (h : tK t a = 2) (hv : tV t a < b) : nF t b a = 0 := (ifP_n (fun q => q h)).trans (ifP_n (by omega))
theorem oF_x {t : Int → Int} {w h a f : Int} (h1 : nF t w a = f) (hf : ¬ f = 0) : oF t w h a = f ∧ oP t w a = a := by
  subst h1
  exact ⟨ifP_n hf, ifP_n hf⟩
theorem oF_y1 {t : Int → Int} {w h a : Int} (h1 : nF t w a = 0) (h2 : ¬ tK t (nx t a) = 2) : oF t w h a = 1 ∧ oP t w a = nx t a := ⟨(ifP_y h1).trans (ifP_y h2), ifP_y h1⟩
theorem oF_y2 {t : Int → Int} {w h a : Int} (h1 : nF t w a = 0) (h2 : tK t (nx t a) = 2) (h3 : ¬ opT t h (tV t a) (tV t (nx t a))) : oF t w h a = 2 ∧ oP t w a = nx t a := ⟨(ifP_y h1).trans ((ifP_n (fun q => q h2)).trans (ifP_n h3)), ifP_y h1⟩
theorem oF_0 {t : Int → Int} {w h a : Int} (h1 : nF t w a = 0) (h2 : tK t (nx t a) = 2) (h3 : opT t h (tV t a) (tV t (nx t a))) : oF t w h a = 0 := (ifP_y h1).trans ((ifP_n (fun q => q h2)).trans (ifP_y h3))
theorem mnT_1 {t : Int → Int} {a : Int} (h : tNm t a = wC 4) : mnT t a = 1 := ifP_y h
theorem mnT_2 {t : Int → Int} {a : Int} (h : ¬ tNm t a = wC 4) (h2 : tNm t a = wC 5) : mnT t a = 2 := (ifP_n h).trans (ifP_y h2)
theorem mnT_0 {t : Int → Int} {a : Int} (h : ¬ tNm t a = wC 4) (h2 : ¬ tNm t a = wC 5) : mnT t a = 0 := (ifP_n h).trans (ifP_n h2)
/-- the token that is looked at -/
def tok (t : Int → Int) (a ts ta tb tv : Int) : Prop := ta = a ∧ ts = tK t a ∧ tb = tEn t a ∧ (ts = 2 → tv = tV t a)
theorem tok_ta {t : Int → Int} {a ts ta tb tv : Int} (h : tok t a ts ta tb tv) : tok t ta ts ta tb tv := by
  rw [h.1]
  exact ⟨rfl, h.2.1, h.2.2.1, h.2.2.2⟩
theorem tE_end {t : Int → Int} {a : Int} (h : t a = -1000000) : tEn t a = a ∧ tK t a = 0 := ⟨if_pos h, if_pos h⟩
theorem tok_end {f : Nat → Int32} {n b p s tv : Int} (hp : b = p) (h : n ≤ b) (h0 : s = 0) : tok (tx f n) p s b b tv := by
  subst hp h0
  exact ⟨rfl, (tE_end (tx_out h)).2.symm, (tE_end (tx_out h)).1.symm, fun q => absurd q (by decide)⟩
theorem tE_run {t : Int → Int} {a b s c : Int} (hc : t a = c) (h0 : 0 ≤ c) (hs : srt c = s) (he : ee t s (a + 1) = b) : tEn t a = b := by
  unfold tEn
  rw [if_neg (by omega), hc, hs, he]
theorem tK_run {t : Int → Int} {a s c : Int} (hc : t a = c) (h0 : 0 ≤ c) (hs : srt c = s) (h2 : ¬ s = 2) : tK t a = s := by
  unfold tK
  rw [if_neg (by omega), if_neg (by rw [hc, hs]; omega), hc, hs]
theorem tK_num {t : Int → Int} {a b c : Int} (hc : t a = c) (h0 : 0 ≤ c) (hs : srt c = 2) (he : ee t 2 (a + 1) = b) : (3 < b - a ∧ tK t a = 4) ∨ (b - a ≤ 3 ∧ tK t a = 2) := by
  have h1 := tE_run hc h0 hs he
  unfold tK
  rw [if_neg (by omega), h1, hc, hs]
  split <;> omega
theorem tok_run {t : Int → Int} {a p b s c tv : Int} (hp : a = p) (hc : t a = c) (h0 : 0 ≤ c) (hs : srt c = s) (he : ee t s (a + 1) = b) (h2 : ¬ s = 2) : tok t p s a b tv := by
  subst hp
  exact ⟨rfl, (tK_run hc h0 hs h2).symm, (tE_run hc h0 hs he).symm, fun q => absurd q h2⟩
theorem tok_num {t : Int → Int} {a p b s s0 c tv : Int} (hp : a = p) (hc : t a = c) (h0 : 0 ≤ c) (h2 : s0 = 2) (hs : srt c = s0) (he : ee t s0 (a + 1) = b) (hf : (s = 4 ∧ 3 < b - a) ∨ (s = 2 ∧ b - a ≤ 3 ∧ tv = vl t b a 0)) : tok t p s a b tv := by
  subst hp h2
  have h1 := tK_num hc h0 hs he
  have h3 := tE_run hc h0 hs he
  refine ⟨rfl, by omega, h3.symm, fun q => ?_⟩
  unfold tV
  rw [h3]
  rcases hf with hf | hf
  · omega
  · exact hf.2.2
theorem adv_p {t : Int → Int} {a0 ts ta tb tv b1 : Int} (h : tok t a0 ts ta tb tv) (hs : tS t b1 = tS t tb) (hx : tS t b1 = b1) : b1 = nx t a0 := by
  rw [← hx, hs, h.2.2.1]
  rfl
theorem ee_outs {f : Nat → Int32} {n s k : Int} (h : n ≤ k) : ee (tx f n) s k = k := by
  rcases Classical.em (s = 1 ∨ s = 2) with q | q
  · exact ee_out q h
  · exact ee_st q
-- words
theorem mtw_0 {t : Int → Int} {a i : Int} {w : Nat} (h : i ≤ 0) : mtw t a w i := fun j hj => absurd hj (by omega)
theorem mtw_st {t : Int → Int} {a k x i2 : Int} {w : Nat} {i r : Int32} (h : mtw t a w i.toInt) (hx : t k = x) (hk : k = a + i.toInt) (h0 : 0 ≤ i.toInt) (h2 : i2 = i.toInt + 1) (hr : r = (wordB.getD w []).getD i.toNatClampNeg 0) (hxr : x = r.toInt) : mtw t a w i2 := by
  intro j hj
  have h3 : i.toNatClampNeg = i.toInt.toNat := rfl
  rcases (show (j : Int) < i.toInt ∨ j = i.toNatClampNeg by omega) with q | q
  · exact h j q
  · rw [q, ← hr, ← hxr, ← hx, hk]
    exact congrArg t (by omega)
theorem mtw_no {t : Int → Int} {a k x N : Int} {w : Nat} {i r : Int32} (h : mtw t a w N) (hx : t k = x) (hk : k = a + i.toInt) (h0 : 0 ≤ i.toInt) (h1 : i.toInt < N) (hr : r = (wordB.getD w []).getD i.toNatClampNeg 0) (hn : ¬ x = r.toInt) : False := by
  have h3 : i.toNatClampNeg = i.toInt.toNat := rfl
  have g := h i.toNatClampNeg (by omega)
  rw [← hr, show a + (i.toNatClampNeg : Int) = k from by omega, hx] at g
  exact hn g
theorem mtw_sub {t : Int → Int} {a i N : Int} {w : Nat} (h : mtw t a w i) (hn : N ≤ i) : mtw t a w N := fun j hj => h j (by omega)
/-- zeros ahead of a place -/
def zr (f : Nat → Int32) (i : Int) : Prop := ∀ j : Nat, (j : Int) < i → f j = 0
theorem zr_0 {f : Nat → Int32} {i : Int} (h : i ≤ 0) : zr f i := fun j hj => absurd hj (by omega)
/-- prices and the like, out of a row of ints -/
def pI6 (f : Nat → Int32) (j : Nat) : Int := if j < 6 then (f j).toInt else 0
def pN (n : Int) (f : Nat → Int32) (j : Nat) : Int := if (j : Int) < n then (f j).toInt else 0
theorem pN_0 (f : Nat → Int32) : pN 0 f = fun _ => 0 := by
  funext j
  exact if_neg (by omega)
/-- the grid, as it was told -/
def CLc (t : Int → Int) (w h : Int) (fc : Nat → Int32) : Prop := ∀ y x : Nat, (y : Int) < h → (x : Int) < w → (fc (x + 10 * y)).toInt = codC (t (cSt t y + x))
theorem zr_sub {f : Nat → Int32} {i n : Int} (h : zr f i) (hn : n ≤ i) : zr f n := fun j hj => h j (by omega)
theorem CLc_0 {t : Int → Int} {w h : Int} {fc : Nat → Int32} (hh : h ≤ 0) : CLc t w h fc := fun y x h1 h2 => absurd h1 (by omega)
/-- a row of the grid, as far as it is laid -/
def CLr (t : Int → Int) (a y i : Int) (fc0 fc : Nat → Int32) : Prop := (∀ x : Nat, (x : Int) < i → (fc (x + 10 * y.toNat)).toInt = codC (t (a + x))) ∧ ∀ k : Nat, (k : Int) < 10 * y → fc k = fc0 k
theorem CLr_0 {t : Int → Int} {a y i : Int} {fc : Nat → Int32} (h : i ≤ 0) : CLr t a y i fc fc := ⟨fun x hx => absurd hx (by omega), fun _ _ => rfl⟩
theorem CLc_row {t : Int → Int} {a w w2 y y2 : Int} {fc0 fc : Nat → Int32} (h : CLc t w y fc0) (hr : CLr t a y w2 fc0 fc) (ha : a = cSt t y.toNat) (hw : ¬ y = 0 → w2 = w) (h10 : w2 ≤ 10) (h0 : 0 ≤ y) (h2 : y2 = y + 1) : CLc t w2 y2 fc := by
  intro k x hk hx
  rcases (show (k : Int) < y ∨ k = y.toNat by omega) with q | q
  · rw [hr.2 (x + 10 * k) (by omega)]
    have e := hw (by omega)
    exact h k x q (by omega)
  · rw [q, hr.1 x hx, ha]
theorem b255a : ∀ j : Fin 32, (255#32).getLsbD j.val = decide (j.val < 8) := by decide
theorem b255b : ∀ j : Fin 32, (255#64).getLsbD j.val = decide (j.val < 8) := by decide
theorem bvB (x : BitVec 64) (n : Nat) (hn : n ≤ 56) : (x >>> n).setWidth 32 &&& 255#32 = ((x.sshiftRight n) &&& 255#64).setWidth 32 := by
  apply BitVec.eq_of_getLsbD_eq
  intro i hi
  rw [BitVec.getLsbD_and, BitVec.getLsbD_setWidth, BitVec.getLsbD_ushiftRight, BitVec.getLsbD_setWidth, BitVec.getLsbD_and, BitVec.getLsbD_sshiftRight, b255a ⟨i, hi⟩, b255b ⟨i, hi⟩]
  rcases Nat.lt_or_ge i 8 with h | h
  · rw [if_pos (show n + i < 64 by omega), decide_eq_false (show ¬ 64 ≤ i by omega), decide_eq_true h]
    simp
  · rw [decide_eq_false (show ¬ i < 8 by omega)]
    simp
theorem andB (x : Int32) : 0 ≤ (x &&& 255).toInt ∧ (x &&& 255).toInt ≤ 255 := by
  have h : (x &&& 255).toBitVec.toNat ≤ 255 := by
    rw [Int32.toBitVec_and, BitVec.toNat_and]
    exact Nat.and_le_right
  have h2 : (x &&& 255).toInt = (x &&& 255).toBitVec.toInt := rfl
  rw [h2, BitVec.toInt_eq_toNat_cond]
  split <;> omega
theorem i8_of {s i : Int32} (hi : 0 ≤ i.toInt ∧ i.toInt < 8) (hs : s.toInt = 8 * i.toInt) : ∃ k : Nat, k < 8 ∧ i = Int32.ofNat k ∧ s = Int32.ofNat (8 * k) ∧ i.toInt = k := by
  refine ⟨i.toInt.toNat, by omega, ?_, ?_, by omega⟩
  · apply Int32.toInt_inj.mp
    rw [Int32.toInt_ofNat_of_lt (by omega)]
    omega
  · apply Int32.toInt_inj.mp
    rw [Int32.toInt_ofNat_of_lt (by omega)]
    omega
theorem shA : ∀ k : Fin 8, ((Int32.ofNat (8 * k.val)).toInt64.toUInt64 &&& Int64.toUInt64 63).toBitVec % 64 = BitVec.ofNat 64 (8 * k.val) := by decide
theorem shD : ∀ k : Fin 8, ((Int32.ofNat (8 * k.val)).toInt64 &&& 63).toBitVec.smod 64 = BitVec.ofNat 64 (8 * k.val) := by decide
/-- a byte of a word -/
def bytW (w : Int64) (i : Int) : Int32 := Int32.ofBitVec ((w.toBitVec >>> (8 * i.toNat)).setWidth 32 &&& 255#32)
theorem byC {i s x y : Int32} {w z : Int64} (hi : 0 ≤ i.toInt ∧ i.toInt < 8) (ey : y = x &&& 255) (ex : x = z.toInt32) (ez : z = (w.toUInt64 >>> (s.toInt64.toUInt64 &&& Int64.toUInt64 63)).toInt64) (hs : s.toInt = 8 * i.toInt) : y = bytW w i.toInt ∧ 0 ≤ y.toInt ∧ y.toInt ≤ 255 := by
  refine ⟨?_, by rw [ey]; exact andB x⟩
  obtain ⟨k, hk, rfl, rfl, h⟩ := i8_of hi hs
  rw [h, ey, ex, ez]
  apply Int32.toBitVec_inj.mp
  show _ = (w.toBitVec >>> (8 * (k : Int).toNat)).setWidth 32 &&& 255#32
  rw [Int32.toBitVec_and, Int64.toBitVec_toInt32]
  show (w.toUInt64 >>> ((Int32.ofNat (8 * k)).toInt64.toUInt64 &&& Int64.toUInt64 63)).toBitVec.signExtend 32 &&& 255#32 = _
  rw [UInt64.toBitVec_shiftRight, shA ⟨k, hk⟩, BitVec.signExtend_eq_setWidth_of_le _ (by decide)]
  show (w.toBitVec >>> (BitVec.ofNat 64 (8 * k)).toNat).setWidth 32 &&& 255#32 = _
  rw [BitVec.toNat_ofNat, Nat.mod_eq_of_lt (by omega), Int.toNat_natCast]
theorem byM {i s x : Int32} {w z z2 : Int64} (hi : 0 ≤ i.toInt ∧ i.toInt < 8) (ex : x = z2.toInt32) (e2 : z2 = z &&& 255) (ez : z = w >>> (s.toInt64 &&& 63)) (hs : s.toInt = 8 * i.toInt) : x = bytW w i.toInt ∧ 0 ≤ x.toInt ∧ x.toInt ≤ 255 := by
  have key : x = bytW w i.toInt := by
    obtain ⟨k, hk, rfl, rfl, h⟩ := i8_of hi hs
    rw [h, ex, e2, ez]
    apply Int32.toBitVec_inj.mp
    show _ = (w.toBitVec >>> (8 * (k : Int).toNat)).setWidth 32 &&& 255#32
    rw [Int.toNat_natCast, bvB _ _ (by omega), Int64.toBitVec_toInt32, Int64.toBitVec_and, Int64.toBitVec_shiftRight, shD ⟨k, hk⟩, BitVec.signExtend_eq_setWidth_of_le _ (by decide)]
    show (w.toBitVec.sshiftRight (BitVec.ofNat 64 (8 * k)).toNat &&& 255#64).setWidth 32 = _
    rw [BitVec.toNat_ofNat, Nat.mod_eq_of_lt (by omega)]
  refine ⟨key, ?_⟩
  rw [key]
  have h : bytW w i.toInt = Int32.ofBitVec ((w.toBitVec >>> (8 * i.toInt.toNat)).setWidth 32) &&& 255 := rfl
  rw [h]
  exact andB _
/-- what feed lays: the old bytes, and behind them those of a word -/
def fdB (w : Int64) (f0 : Nat → Int32) (a e : Int) (f : Nat → Int32) (q : Int) : Prop := ∀ j : Nat, (j : Int) < q → f j = if (j : Int) < a then f0 j else bytW w (e - 1 - j)
theorem fdB_0 (w : Int64) (f0 : Nat → Int32) (a e : Int) : fdB w f0 a e f0 a := fun j hj => (if_pos hj).symm
theorem zr_st {f g : Nat → Int32} {i : Int32} {i2 : Int} (h : zr f i.toInt) (e : upd f i.toNatClampNeg 0 = g) (h0 : 0 ≤ i.toInt) (h2 : i2 = i.toInt + 1) : zr g i2 := by
  intro j hj
  have h3 : i.toNatClampNeg = i.toInt.toNat := rfl
  rw [← e]
  show (if j = i.toNatClampNeg then 0 else f j) = 0
  split
  · rfl
  · exact h j (by omega)
theorem CLr_st {t : Int → Int} {a y i i2 c p : Int} {k v : Int32} {fc0 fc g : Nat → Int32} (h : CLr t a y i fc0 fc) (e : upd fc k.toNatClampNeg v = g) (hk : k.toInt = i + 10 * y) (h0 : 0 ≤ i) (hy : 0 ≤ y) (hv : v.toInt = codC c) (hc : t p = c) (hp : p = a + i) (h2 : i2 = i + 1) : CLr t a y i2 fc0 g := by
  have h3 : k.toNatClampNeg = k.toInt.toNat := rfl
  rw [← e]
  refine ⟨fun x hx => ?_, fun q hq => ?_⟩
  · show (if x + 10 * y.toNat = k.toNatClampNeg then v else fc (x + 10 * y.toNat)).toInt = _
    split
    · rw [hv, ← hc]
      exact congrArg (fun z => codC (t z)) (by omega)
    · exact h.1 x (by omega)
  · show (if q = k.toNatClampNeg then v else fc q) = _
    rw [if_neg (by omega)]
    exact h.2 q hq
theorem pI6_upd {f g : Nat → Int32} {k v : Int32} {K V : Int} (e : upd f k.toNatClampNeg v = g) (h0 : 0 ≤ k.toInt ∧ k.toInt < 6) (hk : k.toInt = K) (hv : v.toInt = V) : pI6 g = updI (pI6 f) K V := by
  have h3 : k.toNatClampNeg = k.toInt.toNat := rfl
  funext j
  rw [← e]
  show (if j < 6 then (if j = k.toNatClampNeg then v else f j).toInt else 0) = (if (j : Int) = K then V else (if j < 6 then (f j).toInt else 0))
  rcases Classical.em (j = k.toNatClampNeg) with q | q
  · rw [if_pos q, if_pos (by omega), if_pos (by omega)]
    exact hv
  · rw [if_neg q, if_neg (show ¬ (j : Int) = K by omega)]
theorem pN_upd {f g : Nat → Int32} {k v : Int32} {n n2 V : Int} (e : upd f k.toNatClampNeg v = g) (h0 : 0 ≤ k.toInt) (hk : k.toInt = n) (h2 : n2 = n + 1) (hv : v.toInt = V) : pN n2 g = updI (pN n f) n V := by
  have h3 : k.toNatClampNeg = k.toInt.toNat := rfl
  funext j
  rw [← e]
  show (if (j : Int) < n2 then (if j = k.toNatClampNeg then v else f j).toInt else 0) = (if (j : Int) = n then V else (if (j : Int) < n then (f j).toInt else 0))
  rcases Classical.em (j = k.toNatClampNeg) with q | q
  · rw [if_pos q, if_pos (by omega), if_pos (by omega)]
    exact hv
  · rw [if_neg q, if_neg (show ¬ (j : Int) = n by omega)]
    rcases Classical.em ((j : Int) < n) with z | z
    · rw [if_pos z, if_pos (by omega)]
    · rw [if_neg z, if_neg (by omega)]
theorem pI6_z {f : Nat → Int32} (h : zr f 6) : pI6 f = fun _ => 0 := by
  funext j
  unfold pI6
  split
  · next q => rw [h j (by omega)]; rfl
  · rfl
theorem fdB_st {w : Int64} {f0 f g : Nat → Int32} {a e q q2 i : Int} {k v : Int32} (h : fdB w f0 a e f q) (eu : upd f k.toNatClampNeg v = g) (hv : v = bytW w i ∧ 0 ≤ v.toInt ∧ v.toInt ≤ 255) (hk : k.toInt = q) (h0 : 0 ≤ q) (ha : a ≤ q) (hi : i = e - 1 - q) (h2 : q2 = q + 1) : fdB w f0 a e g q2 := by
  intro j hj
  have h3 : k.toNatClampNeg = k.toInt.toNat := rfl
  rw [← eu]
  show (if j = k.toNatClampNeg then v else f j) = _
  rcases Classical.em (j = k.toNatClampNeg) with z | z
  · rw [if_pos z, if_neg (by omega), hv.1, hi]
    exact congrArg (bytW w) (by omega)
  · rw [if_neg z]
    exact h j (by omega)
theorem tok_k {t : Int → Int} {a ts ta tb tv v : Int} (h : tok t a ts ta tb tv) (e : ts = v) : tK t a = v := by rw [← h.2.1]; exact e
theorem tok_nk {t : Int → Int} {a ts ta tb tv v : Int} (h : tok t a ts ta tb tv) (e : ¬ ts = v) : ¬ tK t a = v := by rw [← h.2.1]; exact e
theorem tok_a {t : Int → Int} {a ts ta tb tv : Int} (h : tok t a ts ta tb tv) : ta = a := h.1
theorem tok_v {t : Int → Int} {a ts ta tb tv : Int} (h : tok t a ts ta tb tv) (e : ts = 2) : tv = tV t a := h.2.2.2 e
theorem opT_of {t : Int → Int} {w h x y k : Int} {fc : Nat → Int32} (hc : CLc t w h fc) (hx : 0 ≤ x) (hxw : x < w) (hw : w ≤ 10) (hy : 0 ≤ y) (hk : k = x + 10 * y) (ho : 0 ≤ k ∧ k % 10 < w ∧ k / 10 < h ∧ (fc k.toNat).toInt = 0) : opT t h x y := by
  have h1 := hc y.toNat x.toNat (by omega) (by omega)
  rw [show x.toNat + 10 * y.toNat = k.toNat from by omega, ho.2.2.2] at h1
  have h2 := codC_c (t (cSt t y.toNat + (x.toNat : Int)))
  have h3 : ((x.toNat : Nat) : Int) = x := by omega
  rw [h3] at h1 h2
  exact ⟨by omega, by omega⟩
theorem opT_no {t : Int → Int} {w h x y k : Int} {fc : Nat → Int32} (hc : CLc t w h fc) (hx : 0 ≤ x) (hxw : x < w) (hw : w ≤ 10) (hy : 0 ≤ y) (hk : k = x + 10 * y) (ho : ¬ (0 ≤ k ∧ k % 10 < w ∧ k / 10 < h ∧ (fc k.toNat).toInt = 0)) : ¬ opT t h x y := by
  intro q
  apply ho
  have z := q.1
  have h1 := hc y.toNat x.toNat (by omega) (by omega)
  have h3 : ((x.toNat : Nat) : Int) = x := by omega
  rw [show x.toNat + 10 * y.toNat = k.toNat from by omega, h3, q.2] at h1
  exact ⟨by omega, by omega, by omega, h1⟩
theorem rOC1 {t : Int → Int} {w h a f p : Int} (h1 : nF t w a = f ∧ ¬ f = 0 ∧ p = a) : oF t w h a = f ∧ oP t w a = p ∧ ¬ f = 0 := by
  have z := oF_x (h := h) h1.1 h1.2.1
  exact ⟨z.1, by rw [z.2, h1.2.2], h1.2.1⟩
theorem rOC2 {t : Int → Int} {w h a f p ts ta tb tv : Int} (h1 : nF t w a = 0) (hk : tok t (nx t a) ts ta tb tv) (hn : ¬ ts = 2) (h2 : nF t h (nx t a) = f ∧ ¬ f = 0 ∧ p = nx t a) : oF t w h a = f ∧ oP t w a = p ∧ ¬ f = 0 := by
  have z := oF_y1 (h := h) h1 (tok_nk hk hn)
  rw [nF_1 (tok_nk hk hn)] at h2
  exact ⟨by rw [z.1, h2.1], by rw [z.2, h2.2.2], h2.2.1⟩
theorem rOC3 {t : Int → Int} {w h a f ts ta tb tv x k : Int} {fc : Nat → Int32} (hk : tok t (nx t a) ts ta tb tv) (h1 : nF t w a = 0) (h2 : ts = 2) (hcl : CLc t w h fc) (hx : 0 ≤ x ∧ x < w ∧ x ≤ 999 ∧ x = tV t a) (ho : ¬ (0 ≤ k ∧ k % 10 < w ∧ k / 10 < h ∧ (fc k.toNat).toInt = 0)) (hkx : k = x + 10 * tv) (hv : 0 ≤ tv) (hw : w ≤ 10) (hf : f = 2) : oF t w h a = f ∧ oP t w a = ta ∧ ¬ f = 0 := by
  have q := opT_no hcl hx.1 hx.2.1 hw hv hkx ho
  rw [hx.2.2.2, tok_v hk h2] at q
  have z := oF_y2 h1 (tok_k hk h2) q
  exact ⟨by rw [z.1, hf], by rw [z.2, tok_a hk], by omega⟩
theorem rOC4 {t : Int → Int} {w h a f p ts ta tb tv x k : Int} {fc : Nat → Int32} (hk : tok t (nx t a) ts ta tb tv) (h2 : ts = 2) (hx : 0 ≤ x ∧ x < w ∧ x ≤ 999 ∧ x = tV t a) (ho : 0 ≤ k ∧ k % 10 < w ∧ k / 10 < h ∧ (fc k.toNat).toInt = 0) (hf : nF t h (nx t a) = f ∧ ¬ f = 0 ∧ p = nx t a) (hkx : k = x + 10 * tv) (hw : w ≤ 10) : False := by
  have z := tok_v hk h2
  rw [nF_0 (tok_k hk h2) (by omega)] at hf
  omega
theorem rOC5 {t : Int → Int} {w h a ts ta tb tv x k : Int} {fc : Nat → Int32} (hk : tok t (nx t a) ts ta tb tv) (h1 : nF t w a = 0) (h2 : ts = 2) (hcl : CLc t w h fc) (hx : 0 ≤ x ∧ x < w ∧ x ≤ 999 ∧ x = tV t a) (ho : 0 ≤ k ∧ k % 10 < w ∧ k / 10 < h ∧ (fc k.toNat).toInt = 0) (hkx : k = x + 10 * tv) (hv : 0 ≤ tv) (hw : w ≤ 10) : oF t w h a = 0 := by
  have q := opT_of hcl hx.1 hx.2.1 hw hv hkx ho
  rw [hx.2.2.2, tok_v hk h2] at q
  exact oF_0 h1 (tok_k hk h2) q
theorem rOC6 {t : Int → Int} {h a ts ta tb tv : Int} (hk : tok t a ts ta tb tv) (hn : ¬ ts = 2) (h2 : nF t h a = 0) : False := by
  rw [nF_1 (tok_nk hk hn)] at h2
  omega
/-- the letters so far are cells -/
def clT (t : Int → Int) (a b : Int) : Prop := ∀ i, a ≤ i → i < b → clL (t i)
theorem clT_0 {t : Int → Int} {a b : Int} (h : b ≤ a) : clT t a b := fun i h1 h2 => absurd h2 (by omega)
theorem clT_st {t : Int → Int} {a b b2 c v : Int} (h : clT t a b) (hc : t b = c) (hv : v = codC c) (hn : ¬ v = -1) (h2 : b2 = b + 1) : clT t a b2 := by
  intro i h1 h3
  rcases (show i < b ∨ i = b by omega) with q | q
  · exact h i h1 q
  · rw [q, hc]
    have z := codC_c c
    unfold clL
    omega
theorem clT_no {t : Int → Int} {a b c i v : Int} (h : clT t a b) (hc : t i = c) (hv : v = codC c) (hi : a ≤ i ∧ i < b) (hn : v = -1) : False := by
  have z := h i hi.1 hi.2
  have y := codC_c c
  rw [hc] at z
  unfold clL at z y
  omega
theorem clT_sub {t : Int → Int} {a b c : Int} (h : clT t a b) (hc : c ≤ b) : clT t a c := fun i h1 h2 => h i h1 (by omega)
theorem isC_y {t : Int → Int} {h w a ts ta tb tv : Int} (hk : tok t a ts ta tb tv) (h1 : ts = 1) (h10 : tb - ta ≤ 10) (hw : ¬ h = 0 → tb - ta = w) (hc : clT t ta tb) : isC t h w a := by
  obtain ⟨rfl, e1, rfl, _⟩ := hk
  exact ⟨by omega, h10, hw, hc⟩
theorem isC_n {t : Int → Int} {h w a ts ta tb tv : Int} (hk : tok t a ts ta tb tv) (h1 : ¬ ts = 1 ∨ 10 < tb - ta ∨ (¬ h = 0 ∧ ¬ tb - ta = w) ∨ ¬ clT t ta tb) : ¬ isC t h w a := by
  intro q
  obtain ⟨rfl, e1, rfl, _⟩ := hk
  have q4 := q.2.2.2
  have q1 := q.1; have q2 := q.2.1; have q3 := q.2.2.1
  rcases h1 with z | z | z | z
  · omega
  · omega
  · exact z.2 (q3 z.1)
  · exact z q4
theorem isC_w {t : Int → Int} {h w a ts ta tb tv : Int} (hc : isC t h w a) (hk : tok t a ts ta tb tv) : tb - ta ≤ 10 ∧ tb - ta = tEn t a - a ∧ 1 ≤ tb - ta ∧ (¬ h = 0 → tb - ta = w) := by
  have z := tK_pos (t := t) (a := a) (by have q := hc.1; omega)
  obtain ⟨rfl, e1, rfl, _⟩ := hk
  exact ⟨hc.2.1, rfl, by omega, hc.2.2.1⟩
theorem CLr_sub {t : Int → Int} {a y i j : Int} {fc0 fc : Nat → Int32} (h : CLr t a y i fc0 fc) (hj : j ≤ i) : CLr t a y j fc0 fc := ⟨fun x hx => h.1 x (by omega), h.2⟩
theorem cS_of {t : Int → Int} {a ts ta tb tv : Int} {y : Nat} (hk : tok t (nx t a) ts ta tb tv) (hr : a = rwS t y) : ta = cSt t y := by
  rw [hk.1, hr]
  rfl
theorem rwS_st {t : Int → Int} {a y y2 ts ta tb tv : Int} (hk : tok t (nx t (nx t (nx t a))) ts ta tb tv) (hr : a = rwS t y.toNat) (h2 : y2 = y + 1) (h0 : 0 ≤ y) : ta = rwS t y2.toNat := by
  rw [hk.1, hr, show y2.toNat = y.toNat + 1 from by omega]
  rfl
-- what a row, a price, a person does to what is still to be read
theorem rRow1 {t : Int → Int} {h w a h2 w2 ts ta tb tv : Int} (hk : tok t (nx t (nx t (nx t a))) ts ta tb tv) (hn : tNm t a = wC 0) (hh : h < 8) (hc : isC t h w (nx t a)) (hs : tK t (nx t (nx t a)) = 3) (hw2 : w2 = tEn t (nx t a) - nx t a) (hh2 : h2 = h + 1) : rR t h w a = rR t h2 w2 ta := by
  rw [rR_go hh hn hc hs, hk.1, hw2, hh2]
theorem rRow2 {t : Int → Int} {h w a f ts ta tb tv : Int} (hk : tok t (nx t a) ts ta tb tv) (hc : ¬ isC t h w (nx t a)) (hn : tNm t a = wC 0) (hh : h < 8) (hf : f = 1) : rR t h w a = fltR f ta := by
  rw [rR_c hh hn hc, hk.1, hf]
theorem rRow3 {t : Int → Int} {h w a f p : Int} (hc : isC t h w (nx t a)) (hs : ¬ tK t (nx t (nx t a)) = 3) (hf : f = 1 ∧ p = nx t (nx t a)) (hn : tNm t a = wC 0) (hh : h < 8) : rR t h w a = fltR f p := by
  rw [rR_s hh hn hc hs, hf.1, hf.2]
theorem rPr_a {t : Int → Int} {w h n a f p : Int} {P F : Nat → Int} (hn : n < 6) (hw : tNm t a = wC 1) (h1 : nF t 6 (nx t a) = f ∧ ¬ f = 0 ∧ p = nx t a) : rP t w h n a P F = fltR f p := by
  rw [rP_a hn hw h1.1 h1.2.1, h1.2.2]
theorem rPr_b {t : Int → Int} {w h n a f p : Int} {P F : Nat → Int} (hn : n < 6) (hw : tNm t a = wC 1) (h1 : nF t 6 (nx t a) = 0) (h2 : nF t 100 (nx t (nx t a)) = f ∧ ¬ f = 0 ∧ p = nx t (nx t a)) : rP t w h n a P F = fltR f p := by
  rw [rP_b hn hw h1 h2.1 h2.2.1, h2.2.2]
theorem rPr_fs {t : Int → Int} {w h n a f p : Int} {P F : Nat → Int} (hn : n < 6) (hw : tNm t a = wC 1) (h1 : nF t 6 (nx t a) = 0) (h2 : nF t 100 (nx t (nx t a)) = 0) (h3 : tNm t (nx t (nx t (nx t a))) = wC 2) (hs : ¬ tK t (nx t (nx t (nx t (nx t a)))) = 3) (hf : f = 1 ∧ p = nx t (nx t (nx t (nx t a)))) : rP t w h n a P F = fltR f p := by
  rw [rP_fs hn hw h1 h2 h3 hs, hf.1, hf.2]
theorem rPr_ns {t : Int → Int} {w h n a f p : Int} {P F : Nat → Int} (hn : n < 6) (hw : tNm t a = wC 1) (h1 : nF t 6 (nx t a) = 0) (h2 : nF t 100 (nx t (nx t a)) = 0) (h3 : ¬ tNm t (nx t (nx t (nx t a))) = wC 2) (hs : ¬ tK t (nx t (nx t (nx t a))) = 3) (hf : f = 1 ∧ p = nx t (nx t (nx t a))) : rP t w h n a P F = fltR f p := by
  rw [rP_ns hn hw h1 h2 h3 hs, hf.1, hf.2]
theorem rPr_f {t : Int → Int} {w h n a ts ta tb tv : Int} {P F P2 F2 : Nat → Int} (hn : n < 6) (hw : tNm t a = wC 1) (h1 : nF t 6 (nx t a) = 0) (h2 : nF t 100 (nx t (nx t a)) = 0) (h3 : tNm t (nx t (nx t (nx t a))) = wC 2) (hs : tK t (nx t (nx t (nx t (nx t a)))) = 3) (hk : tok t (nx t (nx t (nx t (nx t (nx t a))))) ts ta tb tv) (hP : P2 = updI P (tV t (nx t a)) (tV t (nx t (nx t a)))) (hF : F2 = updI F (tV t (nx t a)) 1) : rP t w h n a P F = rP t w h (n + 1) ta P2 F2 := by
  rw [rP_f hn hw h1 h2 h3 hs, hk.1, hP, hF]
theorem rPr_n {t : Int → Int} {w h n a ts ta tb tv : Int} {P F P2 F2 : Nat → Int} (hn : n < 6) (hw : tNm t a = wC 1) (h1 : nF t 6 (nx t a) = 0) (h2 : nF t 100 (nx t (nx t a)) = 0) (h3 : ¬ tNm t (nx t (nx t (nx t a))) = wC 2) (hs : tK t (nx t (nx t (nx t a))) = 3) (hk : tok t (nx t (nx t (nx t (nx t a)))) ts ta tb tv) (hP : P2 = updI P (tV t (nx t a)) (tV t (nx t (nx t a)))) (hF : F2 = updI F (tV t (nx t a)) 0) : rP t w h n a P F = rP t w h (n + 1) ta P2 F2 := by
  rw [rP_n hn hw h1 h2 h3 hs, hk.1, hP, hF]
theorem rQr_a {t : Int → Int} {w h n a : Int} {P F L H M : Nat → Int} (hn : n < 6) (hw : tNm t a = wC 3) {f p : Int} (h1 : oF t w h (nx t a) = f ∧ oP t w (nx t a) = p ∧ ¬ f = 0) : rQ t w h P F n a L H M = fltR f p := rQ_a hn hw h1.1 h1.2.1 h1.2.2
theorem rQr_b {t : Int → Int} {w h n a : Int} {P F L H M : Nat → Int} (hn : n < 6) (hw : tNm t a = wC 3) (h1 : oF t w h (nx t a) = 0) {f p : Int} (h2 : oF t w h (nx t (nx t (nx t a))) = f ∧ oP t w (nx t (nx t (nx t a))) = p ∧ ¬ f = 0) : rQ t w h P F n a L H M = fltR f p := rQ_b hn hw h1 h2.1 h2.2.1 h2.2.2
theorem rQr_cs {t : Int → Int} {w h n a : Int} {P F L H M : Nat → Int} (hn : n < 6) (hw : tNm t a = wC 3) (h1 : oF t w h (nx t a) = 0) (h2 : oF t w h (nx t (nx t (nx t a))) = 0) {m : Int} (hm : mnT t (nx t (nx t (nx t (nx t (nx t a))))) = m) (h0 : ¬ m = 0) (hs : ¬ tK t (nx t (nx t (nx t (nx t (nx t (nx t a)))))) = 3) {f p : Int} (hf : f = 1 ∧ p = (nx t (nx t (nx t (nx t (nx t (nx t a))))))) : rQ t w h P F n a L H M = fltR f p := by
  rw [rQ_cs hn hw h1 h2 hm h0 hs, hf.1, hf.2]
theorem rQr_c {t : Int → Int} {w h n a : Int} {P F L H M : Nat → Int} (hn : n < 6) (hw : tNm t a = wC 3) (h1 : oF t w h (nx t a) = 0) (h2 : oF t w h (nx t (nx t (nx t a))) = 0) {m : Int} (hm : mnT t (nx t (nx t (nx t (nx t (nx t a))))) = m) (h0 : ¬ m = 0) (hs : tK t (nx t (nx t (nx t (nx t (nx t (nx t a)))))) = 3) {n2 ts ta tb tv : Int} {L2 H2 M2 : Nat → Int} (hk : tok t (nx t (nx t (nx t (nx t (nx t (nx t (nx t a))))))) ts ta tb tv) (hn2 : n2 = n + 1) (hL : L2 = updI L n (tV t (nx t a) + 10 * tV t (nx t (nx t a)))) (hH : H2 = updI H n (tV t (nx t (nx t (nx t a))) + 10 * tV t (nx t (nx t (nx t (nx t a)))))) (hM : M2 = updI M n m) : rQ t w h P F n a L H M = rQ t w h P F n2 ta L2 H2 M2 := by
  rw [rQ_c hn hw h1 h2 hm h0 hs, hk.1, hn2, hL, hH, hM]
theorem rQr_us {t : Int → Int} {w h n a : Int} {P F L H M : Nat → Int} (hn : n < 6) (hw : tNm t a = wC 3) (h1 : oF t w h (nx t a) = 0) (h2 : oF t w h (nx t (nx t (nx t a))) = 0) {m : Int} (hm : mnT t (nx t (nx t (nx t (nx t (nx t a))))) = m) (h0 : m = 0) (hs : ¬ tK t (nx t (nx t (nx t (nx t (nx t a))))) = 3) {f p : Int} (hf : f = 1 ∧ p = (nx t (nx t (nx t (nx t (nx t a)))))) : rQ t w h P F n a L H M = fltR f p := by
  rw [rQ_us hn hw h1 h2 hm h0 hs, hf.1, hf.2]
theorem rQr_u {t : Int → Int} {w h n a : Int} {P F L H M : Nat → Int} (hn : n < 6) (hw : tNm t a = wC 3) (h1 : oF t w h (nx t a) = 0) (h2 : oF t w h (nx t (nx t (nx t a))) = 0) {m : Int} (hm : mnT t (nx t (nx t (nx t (nx t (nx t a))))) = m) (h0 : m = 0) (hs : tK t (nx t (nx t (nx t (nx t (nx t a))))) = 3) {n2 ts ta tb tv : Int} {L2 H2 M2 : Nat → Int} (hk : tok t (nx t (nx t (nx t (nx t (nx t (nx t a)))))) ts ta tb tv) (hn2 : n2 = n + 1) (hL : L2 = updI L n (tV t (nx t a) + 10 * tV t (nx t (nx t a)))) (hH : H2 = updI H n (tV t (nx t (nx t (nx t a))) + 10 * tV t (nx t (nx t (nx t (nx t a)))))) (hM : M2 = updI M n m) : rQ t w h P F n a L H M = rQ t w h P F n2 ta L2 H2 M2 := by
  rw [rQ_u hn hw h1 h2 hm h0 hs, hk.1, hn2, hL, hH, hM]
/-- the token, as the other reader holds it -/
def tokM (t : Int → Int) (a tk st ti cu : Int) : Prop := st = a ∧ ti = tEn t a ∧ cu = tEn t a ∧ ((tK t a = 4 ∧ tk = 0) ∨ (¬ tK t a = 4 ∧ tk = tK t a + 1))
theorem tokM_ta {t : Int → Int} {a tk st ti cu : Int} (h : tokM t a tk st ti cu) : tokM t st tk st ti cu := by
  rw [h.1]
  exact ⟨rfl, h.2.1, h.2.2.1, h.2.2.2⟩
theorem tokM_a {t : Int → Int} {a tk st ti cu : Int} (h : tokM t a tk st ti cu) : st = a := h.1
theorem tokM_k {t : Int → Int} {a tk st ti cu v : Int} (h : tokM t a tk st ti cu) (e : tk = v + 1) (hv : 0 ≤ v) : tK t a = v := by
  have z := h.2.2.2
  omega
theorem tokM_nk {t : Int → Int} {a tk st ti cu v : Int} (h : tokM t a tk st ti cu) (e : ¬ tk = v + 1) (hv : ¬ v = 4) : ¬ tK t a = v := by
  have z := h.2.2.2
  omega
theorem adM_p {t : Int → Int} {a0 tk st ti cu c1 : Int} (h : tokM t a0 tk st ti cu) (hs : tS t c1 = tS t cu) (hx : tS t c1 = c1) : c1 = nx t a0 := by
  rw [← hx, hs, h.2.2.1]
  rfl
theorem toM_end {t : Int → Int} {b p tk : Int} (h : t b = -1000000) (hp : b = p) (hk : tk = 1) : tokM t p tk b b b := by
  subst hp
  have z := tE_end h
  exact ⟨rfl, z.1.symm, z.1.symm, Or.inr ⟨by omega, by omega⟩⟩
theorem toM_run {t : Int → Int} {a p b s c tk : Int} (hc : t a = c) (hp : a = p) (h0 : 0 ≤ c) (hs : srt c = s) (he : ee t s (a + 1) = b) (h2 : ¬ s = 2) (hk : (s = 4 ∧ tk = 0) ∨ (¬ s = 4 ∧ tk = s + 1)) : tokM t p tk a b b := by
  subst hp
  have z1 := tK_run hc h0 hs h2
  have z2 := tE_run hc h0 hs he
  exact ⟨rfl, z2.symm, z2.symm, by omega⟩
theorem toM_num {t : Int → Int} {a p b c tk : Int} (hc : t a = c) (hp : a = p) (h0 : 0 ≤ c) (hs : srt c = 2) (he : ee t 2 (a + 1) = b) (hk : (3 < b - a ∧ tk = 0) ∨ (b - a ≤ 3 ∧ tk = 3)) : tokM t p tk a b b := by
  subst hp
  have z1 := tK_num hc h0 hs he
  have z2 := tE_run hc h0 hs he
  exact ⟨rfl, z2.symm, z2.symm, by omega⟩
theorem ee_in {t : Int → Int} {s k c : Int} (hc : t k = c) (hs : srt c = s) (h12 : s = 1 ∨ s = 2) (hk : k ≤ 400) : ee t s k = ee t s (k + 1) := (ee_go rfl hc hs h12 hk rfl).symm
theorem srt_n1 {c : Int} (h : ¬ (97 ≤ c ∧ c ≤ 122)) : ¬ srt c = 1 := by have z := srt_c c; omega
theorem srt_n2 {c : Int} (h : ¬ (48 ≤ c ∧ c ≤ 57)) : ¬ srt c = 2 := by have z := srt_c c; omega
-- names
theorem lorB {zv z z2 : Int64} {x : Int32} (e2 : z2 = z ||| x.toInt64) (ez : z = zv <<< ((8 : Int32).toInt64 &&& 63)) (hz : 0 ≤ zv.toInt ∧ zv.toInt < 281474976710656) (hx : 0 ≤ x.toInt ∧ x.toInt ≤ 255) : z2.toInt = zv.toInt * 256 + x.toInt := by
  obtain ⟨a, ha⟩ : ∃ a : Nat, zv.toInt = a := ⟨zv.toInt.toNat, by omega⟩
  obtain ⟨b, hb⟩ : ∃ b : Nat, x.toInt = b := ⟨x.toInt.toNat, by omega⟩
  have hzN : zv.toBitVec.toNat = a := by
    have q : zv.toInt = zv.toBitVec.toInt := rfl
    have h1 := BitVec.toInt_eq_toNat_cond zv.toBitVec
    have h2 := zv.toBitVec.isLt
    rw [← q, ha] at h1
    split at h1 <;> omega
  have hxN : x.toInt64.toBitVec.toNat = b := by
    have q : x.toInt64.toInt = x.toInt64.toBitVec.toInt := rfl
    rw [Int32.toInt_toInt64, hb] at q
    have h1 := BitVec.toInt_eq_toNat_cond x.toInt64.toBitVec
    have h2 := x.toInt64.toBitVec.isLt
    rw [← q] at h1
    split at h1 <;> omega
  have hsh : ((8 : Int32).toInt64 &&& 63).toBitVec.smod 64 = 8#64 := by decide
  have key : z2.toBitVec.toNat = a * 256 + b := by
    rw [e2, ez, Int64.toBitVec_or, Int64.toBitVec_shiftLeft, hsh]
    rw [BitVec.toNat_or, hxN]
    have h8 : (zv.toBitVec <<< (8#64)).toNat = a <<< 8 := by
      show (zv.toBitVec <<< (8#64).toNat).toNat = _
      rw [BitVec.toNat_shiftLeft, hzN, show (8#64).toNat = 8 from by decide, Nat.shiftLeft_eq]
      exact Nat.mod_eq_of_lt (by omega)
    rw [h8, ← Nat.shiftLeft_add_eq_or_of_lt (show b < 2 ^ 8 by omega), Nat.shiftLeft_eq]
  have h1 : z2.toInt = z2.toBitVec.toInt := rfl
  rw [h1, BitVec.toInt_eq_toNat_cond, key]
  split <;> omega
theorem nm_en {t : Int → Int} {a tk st ti cu i v : Int} (hk : tokM t a tk st ti cu) (hpk : pk t ti i v = pk t ti st 0) (hx : ti ≤ i ∨ ¬ tk = 2 ∨ 8 ≤ ti - st) (h0 : (tk = 2 ∧ ti - st < 8) ∨ v = 0) : v = tNm t a := by
  have z := hk.2.2.2
  have e1 := hk.1
  have e2 := hk.2.1
  unfold tNm
  rcases Classical.em (tk = 2 ∧ ti - st < 8) with q | q
  · rw [if_pos (by omega)]
    have y := pk_en hpk (by omega)
    rw [← y, e1, e2]
  · rw [if_neg (by omega)]
    omega
theorem fig_of {t : Int → Int} {a tk st ti cu i x : Int} (hk : tokM t a tk st ti cu) (h3 : tk = 3) (hx : t i = x) (hi : st ≤ i ∧ i < ti) : 48 ≤ x ∧ x ≤ 57 ∧ ti - st ≤ 3 := by
  have z := tK_fig (tokM_k (v := 2) hk (by omega) (by decide))
  have e1 := hk.1
  have e2 := hk.2.1
  have y := z.2 i (by omega) (by omega)
  rw [hx] at y
  omega
theorem fig_3 {t : Int → Int} {a tk st ti cu : Int} (hk : tokM t a tk st ti cu) : tk = 3 → ti - st ≤ 3 := by
  intro h3
  have z := tK_fig (tokM_k (v := 2) hk (by omega) (by decide))
  have e1 := hk.1
  have e2 := hk.2.1
  omega
theorem fg_en {t : Int → Int} {a tk st ti cu i v : Int} (hk : tokM t a tk st ti cu) (hvl : vl t ti i v = vl t ti st 0) (hx : ti ≤ i) : v = tV t a := by
  have y := vl_en hvl hx
  rw [← y, hk.1, hk.2.1]
  rfl
theorem nM_1 {t : Int → Int} {a b tk st ti cu : Int} (hk : tokM t a tk st ti cu) (h : ¬ tk = 3) : nF t b a = 1 := nF_1 (tokM_nk (v := 2) hk (by omega) (by decide))
theorem nM_2 {t : Int → Int} {a b tk st ti cu v : Int} (hk : tokM t a tk st ti cu) (h : tk = 3) (hv : v = tV t a) (hb : b ≤ v) : nF t b a = 2 := nF_2 (tokM_k (v := 2) hk (by omega) (by decide)) (by omega)
theorem nM_0 {t : Int → Int} {a b tk st ti cu v : Int} (hk : tokM t a tk st ti cu) (h : tk = 3) (hv : v = tV t a) (hb : v < b) : nF t b a = 0 := nF_0 (tokM_k (v := 2) hk (by omega) (by decide)) (by omega)
theorem isM_y {t : Int → Int} {h w a tk st ti cu : Int} (hk : tokM t a tk st ti cu) (h1 : tk = 2) (h10 : ti - st ≤ 10) (hw : ¬ h = 0 → ti - st = w) (hc : clT t st ti) : isC t h w a := by
  have z := tokM_k (v := 1) hk (by omega) (by decide)
  obtain ⟨rfl, rfl, _, _⟩ := hk
  exact ⟨z, h10, hw, hc⟩
theorem isM_n {t : Int → Int} {h w a tk st ti cu : Int} (hk : tokM t a tk st ti cu) (h1 : ¬ tk = 2 ∨ 10 < ti - st ∨ (¬ h = 0 ∧ ¬ ti - st = w) ∨ ¬ clT t st ti) : ¬ isC t h w a := by
  intro q
  rcases h1 with z | z | z | z
  · exact (tokM_nk (v := 1) hk (by omega) (by decide)) q.1
  · obtain ⟨rfl, rfl, _, _⟩ := hk
    have := q.2.1
    omega
  · obtain ⟨rfl, rfl, _, _⟩ := hk
    exact z.2 (q.2.2.1 z.1)
  · obtain ⟨rfl, rfl, _, _⟩ := hk
    exact z q.2.2.2
theorem isM_w {t : Int → Int} {h w a tk st ti cu : Int} (hc : isC t h w a) (hk : tokM t a tk st ti cu) : ti - st ≤ 10 ∧ ti - st = tEn t a - a ∧ 1 ≤ ti - st ∧ (¬ h = 0 → ti - st = w) ∧ clT t st ti := by
  have z := tK_pos (t := t) (a := a) (by have q := hc.1; omega)
  obtain ⟨rfl, rfl, _, _⟩ := hk
  exact ⟨hc.2.1, rfl, by omega, hc.2.2.1, hc.2.2.2⟩
/-! a name's bytes laid one behind the other: how large the long may be at each place -/
theorem zb_lt {s i z : Int} (h : (i = s + 0 ∧ 0 ≤ z ∧ z < 1) ∨ (i = s + 1 ∧ 0 ≤ z ∧ z < 256) ∨ (i = s + 2 ∧ 0 ≤ z ∧ z < 65536) ∨ (i = s + 3 ∧ 0 ≤ z ∧ z < 16777216) ∨ (i = s + 4 ∧ 0 ≤ z ∧ z < 4294967296) ∨ (i = s + 5 ∧ 0 ≤ z ∧ z < 1099511627776) ∨ (i = s + 6 ∧ 0 ≤ z ∧ z < 281474976710656) ∨ (i = s + 7 ∧ 0 ≤ z ∧ z < 72057594037927936)) (hl : i < s + 7) : 0 ≤ z ∧ z < 281474976710656 := by
  rcases h with ⟨a, b, c⟩ | ⟨a, b, c⟩ | ⟨a, b, c⟩ | ⟨a, b, c⟩ | ⟨a, b, c⟩ | ⟨a, b, c⟩ | ⟨a, b, c⟩ | ⟨a, b, c⟩ <;> exact ⟨b, by omega⟩
theorem zb_st {s i i2 z z2 x : Int} (h : (i = s + 0 ∧ 0 ≤ z ∧ z < 1) ∨ (i = s + 1 ∧ 0 ≤ z ∧ z < 256) ∨ (i = s + 2 ∧ 0 ≤ z ∧ z < 65536) ∨ (i = s + 3 ∧ 0 ≤ z ∧ z < 16777216) ∨ (i = s + 4 ∧ 0 ≤ z ∧ z < 4294967296) ∨ (i = s + 5 ∧ 0 ≤ z ∧ z < 1099511627776) ∨ (i = s + 6 ∧ 0 ≤ z ∧ z < 281474976710656) ∨ (i = s + 7 ∧ 0 ≤ z ∧ z < 72057594037927936)) (hi : i2 = i + 1) (hz : z2 = z * 256 + x) (hx : 0 ≤ x ∧ x ≤ 255) (hl : i < s + 7) : (i2 = s + 0 ∧ 0 ≤ z2 ∧ z2 < 1) ∨ (i2 = s + 1 ∧ 0 ≤ z2 ∧ z2 < 256) ∨ (i2 = s + 2 ∧ 0 ≤ z2 ∧ z2 < 65536) ∨ (i2 = s + 3 ∧ 0 ≤ z2 ∧ z2 < 16777216) ∨ (i2 = s + 4 ∧ 0 ≤ z2 ∧ z2 < 4294967296) ∨ (i2 = s + 5 ∧ 0 ≤ z2 ∧ z2 < 1099511627776) ∨ (i2 = s + 6 ∧ 0 ≤ z2 ∧ z2 < 281474976710656) ∨ (i2 = s + 7 ∧ 0 ≤ z2 ∧ z2 < 72057594037927936) := by
  rcases h with ⟨a, b, c⟩ | ⟨a, b, c⟩ | ⟨a, b, c⟩ | ⟨a, b, c⟩ | ⟨a, b, c⟩ | ⟨a, b, c⟩ | ⟨a, b, c⟩ | ⟨a, b, c⟩
  · exact Or.inr (Or.inl ⟨by omega, by omega, by omega⟩)
  · exact Or.inr (Or.inr (Or.inl ⟨by omega, by omega, by omega⟩))
  · exact Or.inr (Or.inr (Or.inr (Or.inl ⟨by omega, by omega, by omega⟩)))
  · exact Or.inr (Or.inr (Or.inr (Or.inr (Or.inl ⟨by omega, by omega, by omega⟩))))
  · exact Or.inr (Or.inr (Or.inr (Or.inr (Or.inr (Or.inl ⟨by omega, by omega, by omega⟩)))))
  · exact Or.inr (Or.inr (Or.inr (Or.inr (Or.inr (Or.inr (Or.inl ⟨by omega, by omega, by omega⟩))))))
  · exact Or.inr (Or.inr (Or.inr (Or.inr (Or.inr (Or.inr (Or.inr ⟨by omega, by omega, by omega⟩))))))
  · exact absurd hl (by omega)
theorem ro_y {t : Int → Int} {a : Int} {r K : Int64} {w : Nat} (hn : r.toInt = tNm t a) (e : r = K) (hK : K.toInt = wC w) : tNm t a = wC w := by rw [← hn, e, hK]
theorem ro_n {t : Int → Int} {a : Int} {r K : Int64} {w : Nat} (hn : r.toInt = tNm t a) (e : ¬ r = K) (hK : K.toInt = wC w) : ¬ tNm t a = wC w := by
  intro q
  exact e (Int64.toInt_inj.mp (by rw [hn, q, hK]))
theorem wn_k {t : Int → Int} {a : Int} {w : Nat} (h : tNm t a = wC w) (hw : ¬ wC w = 0) : tK t a = 1 := by
  rcases Classical.em (tK t a = 1) with q | q
  · exact q
  · unfold tNm at h
    rw [if_neg (fun z => q z.1)] at h
    exact absurd h.symm hw
theorem tokM_2 {t : Int → Int} {a tk st ti cu : Int} {w : Nat} (hk : tokM t a tk st ti cu) (h : tNm t a = wC w) (hw : ¬ wC w = 0) : tk = 2 := by
  have z := wn_k h hw
  have y := hk.2.2.2
  omega
/-- the other reader's grid -/
def CLm (t : Int → Int) (w h : Int) (fr : Nat → Int32) : Prop := ∀ y x : Nat, (y : Int) < h → (x : Int) < w → (fr (4 + x + 10 * y)).toInt = codC (t (cSt t y + x)) - 3
theorem CLm_0 {t : Int → Int} {w h : Int} {fr : Nat → Int32} (hh : h ≤ 0) : CLm t w h fr := fun y x h1 h2 => absurd h1 (by omega)
theorem CLm_cg {t : Int → Int} {w h : Int} {fr g : Nat → Int32} (hc : CLm t w h fr) (hw : w ≤ 10) (hh : h ≤ 8) (e : ∀ k : Nat, 4 ≤ k → k < 84 → g k = fr k) : CLm t w h g := by
  intro y x h1 h2
  rw [e _ (by omega) (by omega)]
  exact hc y x h1 h2
def CLq (t : Int → Int) (a y i : Int) (f0 f : Nat → Int32) : Prop := (∀ x : Nat, (x : Int) < i → (f (4 + x + 10 * y.toNat)).toInt = codC (t (a + x)) - 3) ∧ ∀ k : Nat, 1 ≤ k → ((k : Int) < 4 + 10 * y ∨ 84 ≤ k) → f k = f0 k
theorem CLq_0 {t : Int → Int} {a y i : Int} {i0 v : Int32} {f0 f : Nat → Int32} (e : upd f0 i0.toNatClampNeg v = f) (h0 : i0.toInt = 0) (h : i ≤ 0) : CLq t a y i f0 f := by
  have h3 : i0.toNatClampNeg = i0.toInt.toNat := rfl
  refine ⟨fun x hx => absurd hx (by omega), fun k h1 _ => ?_⟩
  rw [← e]
  exact if_neg (by omega)
theorem CLq_st {t : Int → Int} {a y i i2 c p : Int} {k v : Int32} {f0 f g : Nat → Int32} (h : CLq t a y i f0 f) (e : upd f k.toNatClampNeg v = g) (hk : k.toInt = 4 + i + 10 * y) (h0 : 0 ≤ i) (hy : 0 ≤ y ∧ y < 8) (h10 : i < 10) (hv : v.toInt = codC c - 3) (hc : t p = c) (hp : p = a + i) (h2 : i2 = i + 1) : CLq t a y i2 f0 g := by
  have h3 : k.toNatClampNeg = k.toInt.toNat := rfl
  rw [← e]
  refine ⟨fun x hx => ?_, fun q h1 hq => ?_⟩
  · show (if 4 + x + 10 * y.toNat = k.toNatClampNeg then v else f (4 + x + 10 * y.toNat)).toInt = _
    split
    · rw [hv, ← hc]
      exact congrArg (fun z => codC (t z) - 3) (by omega)
    · exact h.1 x (by omega)
  · show (if q = k.toNatClampNeg then v else f q) = _
    rw [if_neg (by omega)]
    exact h.2 q h1 hq
theorem CLq_w {i : Int} {k v : Int32} {f g : Nat → Int32} (e : upd f k.toNatClampNeg v = g) (h : (f 0).toInt = i) (hk : 4 ≤ k.toInt) : (g 0).toInt = i := by
  have h3 : k.toNatClampNeg = k.toInt.toNat := rfl
  rw [← e]
  show (if 0 = k.toNatClampNeg then v else f 0).toInt = i
  rw [if_neg (by omega)]
  exact h
theorem CLm_row {t : Int → Int} {a w w2 y y2 : Int} {k v : Int32} {f0 f g : Nat → Int32} (h : CLm t w y f0) (hr : CLq t a y w2 f0 f) (e : upd f k.toNatClampNeg v = g) (hk : k.toInt = 1) (ha : a = cSt t y.toNat) (hw : ¬ y = 0 → w2 = w) (h10 : w2 ≤ 10) (h0 : 0 ≤ y ∧ y < 8) (h2 : y2 = y + 1) : CLm t w2 y2 g ∧ ∀ j : Nat, (j = 2 ∨ j = 3 ∨ 84 ≤ j) → g j = f0 j := by
  have h3 : k.toNatClampNeg = k.toInt.toNat := rfl
  have ho : ∀ j : Nat, ¬ j = 1 → g j = f j := fun j hj => by
    rw [← e]
    exact if_neg (by omega)
  refine ⟨fun y1 x hy hx => ?_, fun j hj => ?_⟩
  · rw [ho _ (by omega)]
    rcases (show (y1 : Int) < y ∨ y1 = y.toNat by omega) with q | q
    · rw [hr.2 (4 + x + 10 * y1) (by omega) (by omega)]
      have e1 := hw (by omega)
      exact h y1 x q (by omega)
    · rw [q, hr.1 x hx, ha]
  · rw [ho _ (by omega)]
    exact hr.2 j (by omega) (by omega)
/-- six of the other reader's row -/
def pM6 (b : Nat) (f : Nat → Int32) (j : Nat) : Int := if j < 6 then (f (b + j)).toInt else 0
def pNM (b : Nat) (n : Int) (f : Nat → Int32) (j : Nat) : Int := if (j : Int) < n then (f (b + 4 * j)).toInt else 0
theorem pM6_z {b : Nat} {f : Nat → Int32} (h : ∀ j : Nat, b ≤ j → j < b + 6 → f j = 0) : pM6 b f = fun _ => 0 := by
  funext j
  unfold pM6
  split
  · rw [h (b + j) (by omega) (by omega)]; rfl
  · rfl
theorem pM6_cg {b : Nat} {f g : Nat → Int32} (h : ∀ j : Nat, b ≤ j → j < b + 6 → g j = f j) : pM6 b g = pM6 b f := by
  funext j
  unfold pM6
  split
  · rw [h (b + j) (by omega) (by omega)]
  · rfl
theorem pNM_0 (b : Nat) (f : Nat → Int32) : pNM b 0 f = fun _ => 0 := by
  funext j
  exact if_neg (by omega)
theorem prM {fr f1 f2 f3 : Nat → Int32} {i1 v1 i2 v2 i3 v3 : Int32} {o : Int} (h1 : upd fr i1.toNatClampNeg v1 = f1) (h2 : upd f1 i2.toNatClampNeg v2 = f2) (h3 : upd f2 i3.toNatClampNeg v3 = f3) (e1 : i1.toInt = 84 + o) (e2 : i2.toInt = 90 + o) (e3 : i3.toInt = 2) (ho : 0 ≤ o ∧ o < 6) : pM6 84 f3 = updI (pM6 84 fr) o v1.toInt ∧ pM6 90 f3 = updI (pM6 90 fr) o v2.toInt ∧ f3 2 = v3 ∧ ∀ k : Nat, (k < 2 ∨ k = 3 ∨ (4 ≤ k ∧ k < 84) ∨ 96 ≤ k) → f3 k = fr k := by
  have g1 : i1.toNatClampNeg = i1.toInt.toNat := rfl
  have g2 : i2.toNatClampNeg = i2.toInt.toNat := rfl
  have g3 : i3.toNatClampNeg = i3.toInt.toNat := rfl
  have key : ∀ k : Nat, f3 k = if k = 2 then v3 else if k = i2.toNatClampNeg then v2 else if k = i1.toNatClampNeg then v1 else fr k := by
    intro k
    rw [← h3, ← h2, ← h1]
    show (if k = i3.toNatClampNeg then v3 else if k = i2.toNatClampNeg then v2 else if k = i1.toNatClampNeg then v1 else fr k) = _
    rw [show i3.toNatClampNeg = 2 from by omega]
  refine ⟨?_, ?_, ?_, ?_⟩
  · funext j
    show (if j < 6 then (f3 (84 + j)).toInt else 0) = (if (j : Int) = o then v1.toInt else (if j < 6 then (fr (84 + j)).toInt else 0))
    rw [key]
    rcases Classical.em ((j : Int) = o) with q | q
    · rw [if_pos (show j < 6 by omega), if_neg (by omega), if_neg (by omega), if_pos (by omega), if_pos q]
    · rw [if_neg q]
      split
      · rw [if_neg (by omega), if_neg (by omega), if_neg (by omega)]
      · rfl
  · funext j
    show (if j < 6 then (f3 (90 + j)).toInt else 0) = (if (j : Int) = o then v2.toInt else (if j < 6 then (fr (90 + j)).toInt else 0))
    rw [key]
    rcases Classical.em ((j : Int) = o) with q | q
    · rw [if_pos (show j < 6 by omega), if_neg (by omega), if_pos (by omega), if_pos q]
    · rw [if_neg q]
      split
      · rw [if_neg (by omega), if_neg (by omega), if_neg (by omega)]
      · rfl
  · rw [key]
    exact if_pos rfl
  · intro k hk
    rw [key, if_neg (by omega), if_neg (by omega), if_neg (by omega)]
theorem psM {fr f1 f2 f3 f4 : Nat → Int32} {i1 v1 i2 v2 i3 v3 i4 v4 : Int32} {n n2 : Int} (h1 : upd fr i1.toNatClampNeg v1 = f1) (h2 : upd f1 i2.toNatClampNeg v2 = f2) (h3 : upd f2 i3.toNatClampNeg v3 = f3) (h4 : upd f3 i4.toNatClampNeg v4 = f4) (e1 : i1.toInt = 96 + 4 * n) (e2 : i2.toInt = 97 + 4 * n) (e3 : i3.toInt = 98 + 4 * n) (e4 : i4.toInt = 3) (hn : 0 ≤ n ∧ n < 6) (hn2 : n2 = n + 1) : pNM 96 n2 f4 = updI (pNM 96 n fr) n v1.toInt ∧ pNM 97 n2 f4 = updI (pNM 97 n fr) n v2.toInt ∧ pNM 98 n2 f4 = updI (pNM 98 n fr) n v3.toInt ∧ f4 3 = v4 ∧ ∀ k : Nat, (k < 3 ∨ (4 ≤ k ∧ k < 96) ∨ 120 ≤ k ∨ (96 ≤ k ∧ k % 4 = 3)) → f4 k = fr k := by
  have g1 : i1.toNatClampNeg = i1.toInt.toNat := rfl
  have g2 : i2.toNatClampNeg = i2.toInt.toNat := rfl
  have g3 : i3.toNatClampNeg = i3.toInt.toNat := rfl
  have g4 : i4.toNatClampNeg = i4.toInt.toNat := rfl
  have key : ∀ k : Nat, f4 k = if k = 3 then v4 else if k = i3.toNatClampNeg then v3 else if k = i2.toNatClampNeg then v2 else if k = i1.toNatClampNeg then v1 else fr k := by
    intro k
    rw [← h4, ← h3, ← h2, ← h1]
    show (if k = i4.toNatClampNeg then v4 else if k = i3.toNatClampNeg then v3 else if k = i2.toNatClampNeg then v2 else if k = i1.toNatClampNeg then v1 else fr k) = _
    rw [show i4.toNatClampNeg = 3 from by omega]
  refine ⟨?_, ?_, ?_, ?_, ?_⟩
  · funext j
    show (if (j : Int) < n2 then (f4 (96 + 4 * j)).toInt else 0) = (if (j : Int) = n then v1.toInt else (if (j : Int) < n then (fr (96 + 4 * j)).toInt else 0))
    rcases Classical.em ((j : Int) = n) with q | q
    · have kk : f4 (96 + 4 * j) = v1 := by rw [key, if_neg (by omega), if_neg (by omega), if_neg (by omega), if_pos (by omega)]
      rw [if_pos (show (j : Int) < n2 by omega), if_pos q, kk]
    · have kk : f4 (96 + 4 * j) = fr (96 + 4 * j) := by rw [key, if_neg (by omega), if_neg (by omega), if_neg (by omega), if_neg (by omega)]
      rw [if_neg q, kk]
      rcases Classical.em ((j : Int) < n) with z | z
      · rw [if_pos z, if_pos (by omega)]
      · rw [if_neg z, if_neg (by omega)]
  · funext j
    show (if (j : Int) < n2 then (f4 (97 + 4 * j)).toInt else 0) = (if (j : Int) = n then v2.toInt else (if (j : Int) < n then (fr (97 + 4 * j)).toInt else 0))
    rcases Classical.em ((j : Int) = n) with q | q
    · have kk : f4 (97 + 4 * j) = v2 := by rw [key, if_neg (by omega), if_neg (by omega), if_pos (by omega)]
      rw [if_pos (show (j : Int) < n2 by omega), if_pos q, kk]
    · have kk : f4 (97 + 4 * j) = fr (97 + 4 * j) := by rw [key, if_neg (by omega), if_neg (by omega), if_neg (by omega), if_neg (by omega)]
      rw [if_neg q, kk]
      rcases Classical.em ((j : Int) < n) with z | z
      · rw [if_pos z, if_pos (by omega)]
      · rw [if_neg z, if_neg (by omega)]
  · funext j
    show (if (j : Int) < n2 then (f4 (98 + 4 * j)).toInt else 0) = (if (j : Int) = n then v3.toInt else (if (j : Int) < n then (fr (98 + 4 * j)).toInt else 0))
    rcases Classical.em ((j : Int) = n) with q | q
    · have kk : f4 (98 + 4 * j) = v3 := by rw [key, if_neg (by omega), if_pos (by omega)]
      rw [if_pos (show (j : Int) < n2 by omega), if_pos q, kk]
    · have kk : f4 (98 + 4 * j) = fr (98 + 4 * j) := by rw [key, if_neg (by omega), if_neg (by omega), if_neg (by omega), if_neg (by omega)]
      rw [if_neg q, kk]
      rcases Classical.em ((j : Int) < n) with z | z
      · rw [if_pos z, if_pos (by omega)]
      · rw [if_neg z, if_neg (by omega)]
  · rw [key]
    exact if_pos rfl
  · intro k hk
    rw [key, if_neg (by omega), if_neg (by omega), if_neg (by omega), if_neg (by omega)]
theorem clT_s2 {t : Int → Int} {a b b2 c : Int} (h : clT t a b) (hc : t b = c) (hl : clL c) (h2 : b2 = b + 1) : clT t a b2 := by
  intro i h1 h3
  rcases (show i < b ∨ i = b by omega) with q | q
  · exact h i h1 q
  · rw [q, hc]
    exact hl
theorem clT_g {t : Int → Int} {a b i x : Int} (h : clT t a b) (hx : t i = x) (hi : a ≤ i ∧ i < b) : clL x := by
  rw [← hx]
  exact h i hi.1 hi.2
theorem clT_x {t : Int → Int} {a b i x : Int} (hx : t i = x) (hl : ¬ clL x) (hi : a ≤ i ∧ i < b) : ¬ clT t a b := fun h => hl (clT_g h hx hi)
theorem isv_c {v : Int32} {Q R : Prop} (h : (v = 1 ∧ Q) ∨ (v = 0 ∧ R)) (hn : ¬ v.toInt = 0) : Q := by
  rcases h with h | h
  · exact h.2
  · exact absurd (by rw [h.1]; rfl) hn
theorem isv_d {v : Int32} {Q R : Prop} (h : (v = 1 ∧ Q) ∨ (v = 0 ∧ R)) : v = 0 ∨ v = 1 := by
  rcases h with h | h
  · exact Or.inr h.1
  · exact Or.inl h.1
theorem isR_1 {t : Int → Int} {h w a tk st ti cu i : Int} {R : Prop} (hk : tokM t a tk st ti cu) (hc : ((1 : Int32) = 1 ∧ clT t st i) ∨ ((1 : Int32) = 0 ∧ R)) (ho : (1 : Int32) = 0 ∨ (tk = 2 ∧ ti - st ≤ 10 ∧ (¬ h = 0 → ti - st = w))) (hx : ti ≤ i ∨ (1 : Int32).toInt = 0) : isC t h w a := by
  rcases ho with q | q
  · exact absurd q (by decide)
  · rcases hc with z | z
    · rcases hx with y | y
      · exact isM_y hk q.1 q.2.1 q.2.2 (clT_sub z.2 y)
      · exact absurd y (by decide)
    · exact absurd z.1 (by decide)
theorem isR_0 {Q R : Prop} (hc : ((0 : Int32) = 1 ∧ Q) ∨ ((0 : Int32) = 0 ∧ R)) : R := by
  rcases hc with z | z
  · exact absurd z.1 (by decide)
  · exact z.2
theorem CLq_sub {t : Int → Int} {a y i j : Int} {f0 f : Nat → Int32} (h : CLq t a y i f0 f) (hj : j ≤ i) : CLq t a y j f0 f := ⟨fun x hx => h.1 x (by omega), h.2⟩
theorem cSm_of {t : Int → Int} {a tk st ti cu : Int} {y : Nat} (hk : tokM t (nx t a) tk st ti cu) (hr : a = rwS t y) : st = cSt t y := by
  rw [hk.1, hr]
  rfl
theorem rwSm_st {t : Int → Int} {a y y2 tk st ti cu : Int} (hk : tokM t (nx t (nx t (nx t a))) tk st ti cu) (hr : a = rwS t y.toNat) (h2 : y2 = y + 1) (h0 : 0 ≤ y) : st = rwS t y2.toNat := by
  rw [hk.1, hr, show y2.toNat = y.toNat + 1 from by omega]
  rfl
theorem rRm1 {t : Int → Int} {h w a h2 w2 tk st ti cu : Int} (hk : tokM t (nx t (nx t (nx t a))) tk st ti cu) (hn : tNm t a = wC 0) (hh : h < 8) (hc : isC t h w (nx t a)) (hs : tK t (nx t (nx t a)) = 3) (hw2 : w2 = tEn t (nx t a) - nx t a) (hh2 : h2 = h + 1) : rR t h w a = rR t h2 w2 st := by
  rw [rR_go hh hn hc hs, hk.1, hw2, hh2]
theorem rRm2 {t : Int → Int} {h w a f tk st ti cu : Int} (hk : tokM t (nx t a) tk st ti cu) (hc : ¬ isC t h w (nx t a)) (hn : tNm t a = wC 0) (hh : h < 8) (hf : f = 1) : rR t h w a = fltR f st := by
  rw [rR_c hh hn hc, hk.1, hf]
theorem rRm3 {t : Int → Int} {h w a f p : Int} (hc : isC t h w (nx t a)) (hs : ¬ tK t (nx t (nx t a)) = 3) (hp : p = nx t (nx t a)) (hn : tNm t a = wC 0) (hh : h < 8) (hf : f = 1) : rR t h w a = fltR f p := by
  rw [rR_s hh hn hc hs, hf, hp]
theorem rRm4 {t : Int → Int} {h w a f p : Int} (h8 : h = 8) (hp : p = a) (hn : tNm t a = wC 0) (hf : f = 3) : rR t h w a = fltR f p := by
  rw [rR_8 h8 hn, hf, hp]
theorem rPm6 {t : Int → Int} {w h n a f p : Int} {P F : Nat → Int} (h6 : n = 6) (hp : p = a) (hn : tNm t a = wC 1) (hf : f = 3) : rP t w h n a P F = fltR f p := by
  rw [rP_6 h6 hn, hf, hp]
theorem rPm_a {t : Int → Int} {w h n a f p b v : Int} {P F : Nat → Int} (h1 : nF t b (nx t a) = v) (hp : p = nx t a) (hw : tNm t a = wC 1) (hn : n < 6) (hb : b = 6) (hv : ¬ v = 0) (hf : f = v) : rP t w h n a P F = fltR f p := by
  subst hb
  rw [rP_a hn hw h1 hv, hp, hf]
theorem rPm_b {t : Int → Int} {w h n a f p b b2 v : Int} {P F : Nat → Int} (h1 : nF t b (nx t a) = 0) (h2 : nF t b2 (nx t (nx t a)) = v) (hp : p = nx t (nx t a)) (hw : tNm t a = wC 1) (hn : n < 6) (hb : b = 6) (hb2 : b2 = 100) (hv : ¬ v = 0) (hf : f = v) : rP t w h n a P F = fltR f p := by
  subst hb hb2
  rw [rP_b hn hw h1 h2 hv, hp, hf]
theorem rPm_fs {t : Int → Int} {w h n a f p b b2 : Int} {P F : Nat → Int} (h1 : nF t b (nx t a) = 0) (h2 : nF t b2 (nx t (nx t a)) = 0) (h3 : tNm t (nx t (nx t (nx t a))) = wC 2) (hs : ¬ tK t (nx t (nx t (nx t (nx t a)))) = 3) (hp : p = nx t (nx t (nx t (nx t a)))) (hw : tNm t a = wC 1) (hn : n < 6) (hb : b = 6) (hb2 : b2 = 100) (hf : f = 1) : rP t w h n a P F = fltR f p := by
  subst hb hb2
  rw [rP_fs hn hw h1 h2 h3 hs, hp, hf]
theorem rPm_ns {t : Int → Int} {w h n a f p b b2 : Int} {P F : Nat → Int} (h1 : nF t b (nx t a) = 0) (h2 : nF t b2 (nx t (nx t a)) = 0) (h3 : ¬ tNm t (nx t (nx t (nx t a))) = wC 2) (hs : ¬ tK t (nx t (nx t (nx t a))) = 3) (hp : p = nx t (nx t (nx t a))) (hw : tNm t a = wC 1) (hn : n < 6) (hb : b = 6) (hb2 : b2 = 100) (hf : f = 1) : rP t w h n a P F = fltR f p := by
  subst hb hb2
  rw [rP_ns hn hw h1 h2 h3 hs, hp, hf]
theorem rPm_f {t : Int → Int} {w h n n2 a tk st ti cu b b2 o v1 v2 : Int} {P F P2 F2 : Nat → Int} {S : Prop} (h1 : nF t b (nx t a) = 0) (h2 : nF t b2 (nx t (nx t a)) = 0) (h3 : tNm t (nx t (nx t (nx t a))) = wC 2) (hs : tK t (nx t (nx t (nx t (nx t a)))) = 3) (hk : tokM t (nx t (nx t (nx t (nx t (nx t a))))) tk st ti cu) (hPF : P2 = updI P o v1 ∧ F2 = updI F o v2 ∧ S) (hw : tNm t a = wC 1) (hn : n < 6) (hb : b = 6) (hb2 : b2 = 100) (ho : o = tV t (nx t a)) (hv1 : v1 = tV t (nx t (nx t a))) (hv2 : v2 = 1) (hn2 : n2 = n + 1) : rP t w h n a P F = rP t w h n2 st P2 F2 := by
  subst hb hb2
  rw [rP_f hn hw h1 h2 h3 hs, hk.1, hPF.1, hPF.2.1, hn2, ho, hv1, hv2]
theorem rPm_n {t : Int → Int} {w h n n2 a tk st ti cu b b2 o v1 v2 : Int} {P F P2 F2 : Nat → Int} {S : Prop} (h1 : nF t b (nx t a) = 0) (h2 : nF t b2 (nx t (nx t a)) = 0) (h3 : ¬ tNm t (nx t (nx t (nx t a))) = wC 2) (hs : tK t (nx t (nx t (nx t a))) = 3) (hk : tokM t (nx t (nx t (nx t (nx t a)))) tk st ti cu) (hPF : P2 = updI P o v1 ∧ F2 = updI F o v2 ∧ S) (hw : tNm t a = wC 1) (hn : n < 6) (hb : b = 6) (hb2 : b2 = 100) (ho : o = tV t (nx t a)) (hv1 : v1 = tV t (nx t (nx t a))) (hv2 : v2 = 0) (hn2 : n2 = n + 1) : rP t w h n a P F = rP t w h n2 st P2 F2 := by
  subst hb hb2
  rw [rP_n hn hw h1 h2 h3 hs, hk.1, hPF.1, hPF.2.1, hn2, ho, hv1, hv2]
-- an open cell
def cel (fr : Nat → Int32) (k : Nat) (v : Int) : Prop := v = (fr k).toInt
theorem opm_of {t : Int → Int} {w h x y : Int} {fr : Nat → Int32} {k : Nat} (hc : CLm t w h fr) (hx : 0 ≤ x ∧ x < w) (hy : 0 ≤ y ∧ y < h) (hk : (k : Int) = 4 + x + 10 * y) (ho : (fr k).toInt = -3) : opT t h x y := by
  have h1 := hc y.toNat x.toNat (by omega) (by omega)
  rw [show 4 + x.toNat + 10 * y.toNat = k from by omega, ho, show ((x.toNat : Nat) : Int) = x from by omega] at h1
  have h2 := codC_c (t (cSt t y.toNat + x))
  exact ⟨hy.2, by omega⟩
theorem opm_no {t : Int → Int} {w h x y : Int} {fr : Nat → Int32} {k : Nat} (hc : CLm t w h fr) (hx : 0 ≤ x ∧ x < w) (hy : 0 ≤ y ∧ y < h) (hk : (k : Int) = 4 + x + 10 * y) (ho : ¬ (fr k).toInt = -3) : ¬ opT t h x y := by
  intro q
  have h1 := hc y.toNat x.toNat (by omega) (by omega)
  rw [show 4 + x.toNat + 10 * y.toNat = k from by omega, show ((x.toNat : Nat) : Int) = x from by omega, q.2] at h1
  exact ho (by rw [h1]; rfl)
theorem oM_1 {t : Int → Int} {w h a b p f v : Int} (h1 : nF t b a = v) (hp : p = a) (hb : b = w) (hv : ¬ v = 0) (hf : f = v) : oF t w h a = f ∧ oP t w a = p := by
  subst hb hf hp
  exact oF_x h1 hv
theorem oM_2 {t : Int → Int} {w h a b p f tk st ti cu : Int} (h1 : nF t b a = 0) (hk : tokM t (nx t a) tk st ti cu) (h3 : ¬ tk = 3) (hp : p = nx t a) (hb : b = w) (hf : f = 1) : oF t w h a = f ∧ oP t w a = p := by
  subst hb hf hp
  exact oF_y1 h1 (tokM_nk (v := 2) hk (by omega) (by decide))
theorem oM_3 {t : Int → Int} {w h a b p f tk st ti cu y : Int} (h1 : nF t b a = 0) (hk : tokM t (nx t a) tk st ti cu) (h3 : tk = 3) (hy : tk = 3 → y = tV t (nx t a)) (hp : p = nx t a) (hb : b = w) (hh : h ≤ y) (hf : f = 2) : oF t w h a = f ∧ oP t w a = p := by
  subst hb hf hp
  have z := hy h3
  exact oF_y2 h1 (tokM_k (v := 2) hk (by omega) (by decide)) (fun q => by have z2 := q.1; omega)
theorem oM_4 {t : Int → Int} {w h a b f tk st ti cu y v : Int} {fr : Nat → Int32} {k : Nat} (h1 : nF t b a = 0) (hk : tokM t (nx t a) tk st ti cu) (h3 : tk = 3) (hy : tk = 3 → y = tV t (nx t a)) (hc : CLm t w h fr) (hv : cel fr k v) (hkk : (k : Int) = 4 + tV t a + 10 * y) (hn : ¬ v = -3) (hx0 : 0 ≤ tV t a ∧ tV t a < w) (hyh : 0 ≤ y ∧ y < h) (hb : b = w) (hf : f = 2) : oF t w h a = f ∧ oP t w a = st := by
  subst hb hf
  have z := hy h3
  have q := opm_no hc hx0 hyh hkk (by unfold cel at hv; omega)
  rw [z] at q
  rw [hk.1]
  exact oF_y2 h1 (tokM_k (v := 2) hk (by omega) (by decide)) q
theorem oM_0 {t : Int → Int} {w h a b tk st ti cu y v : Int} {fr : Nat → Int32} {k : Nat} (h1 : nF t b a = 0) (hk : tokM t (nx t a) tk st ti cu) (h3 : tk = 3) (hy : tk = 3 → y = tV t (nx t a)) (hc : CLm t w h fr) (hv : cel fr k v) (hkk : (k : Int) = 4 + tV t a + 10 * y) (hn : v = -3) (hx0 : 0 ≤ tV t a ∧ tV t a < w) (hyh : 0 ≤ y ∧ y < h) (hb : b = w) : oF t w h a = 0 := by
  subst hb
  have z := hy h3
  have q := opm_of hc hx0 hyh hkk (by unfold cel at hv; omega)
  rw [z] at q
  exact oF_0 h1 (tokM_k (v := 2) hk (by omega) (by decide)) q
theorem nM_c1 {t : Int → Int} {a b tk st ti cu : Int} (hk : tokM t a tk st ti cu) (h : ¬ tk = 3) (hf : nF t b a = 0 ∨ nF t b a = 2) : False := by
  rw [nM_1 hk h] at hf
  omega
theorem nM_c2 {t : Int → Int} {a b tk st ti cu y v : Int} (hk : tokM t a tk st ti cu) (h : tk = 3) (hy : tk = 3 → y = tV t a) (hf : nF t b a = v) (hv : (y < b ∧ ¬ v = 0) ∨ (b ≤ y ∧ ¬ v = 2)) : False := by
  rcases hv with q | q
  · rw [nM_0 hk h (hy h) q.1] at hf
    omega
  · rw [nM_2 hk h (hy h) q.1] at hf
    omega
theorem rQm6 {t : Int → Int} {w h n a : Int} {P F L H M : Nat → Int} {f p : Int} (h6 : n = 6) (hp : p = a) (hn : tNm t a = wC 3) (hf : f = 3) : rQ t w h P F n a L H M = fltR f p := by
  rw [rQ_6 h6 hn, hf, hp]
theorem rQm_a {t : Int → Int} {w h n a : Int} {P F L H M : Nat → Int} {f p : Int} (h1 : oF t w h (nx t a) = f ∧ oP t w (nx t a) = p) (hw : tNm t a = wC 3) (hn : n < 6) (hf : ¬ f = 0) : rQ t w h P F n a L H M = fltR f p := rQ_a hn hw h1.1 h1.2 hf
theorem rQm_b {t : Int → Int} {w h n a : Int} {P F L H M : Nat → Int} {f p : Int} (h1 : oF t w h (nx t a) = 0) (h2 : oF t w h (nx t (nx t (nx t a))) = f ∧ oP t w (nx t (nx t (nx t a))) = p) (hw : tNm t a = wC 3) (hn : n < 6) (hf : ¬ f = 0) : rQ t w h P F n a L H M = fltR f p := rQ_b hn hw h1 h2.1 h2.2 hf
theorem rQm_cs {t : Int → Int} {w h n a : Int} {P F L H M : Nat → Int} (h1 : oF t w h (nx t a) = 0) (h2 : oF t w h (nx t (nx t (nx t a))) = 0) {m : Int} (hm : mnT t (nx t (nx t (nx t (nx t (nx t a))))) = m) (h0 : ¬ m = 0) (hs : ¬ tK t (nx t (nx t (nx t (nx t (nx t (nx t a)))))) = 3) {f p : Int} (hp : p = (nx t (nx t (nx t (nx t (nx t (nx t a))))))) (hw : tNm t a = wC 3) (hn : n < 6) (hf : f = 1) : rQ t w h P F n a L H M = fltR f p := by
  rw [rQ_cs hn hw h1 h2 hm h0 hs, hf, hp]
theorem rQm_c {t : Int → Int} {w h n a : Int} {P F L H M : Nat → Int} (h1 : oF t w h (nx t a) = 0) (h2 : oF t w h (nx t (nx t (nx t a))) = 0) {m : Int} (hm : mnT t (nx t (nx t (nx t (nx t (nx t a))))) = m) (h0 : ¬ m = 0) (hs : tK t (nx t (nx t (nx t (nx t (nx t (nx t a)))))) = 3) {n2 tk st ti cu v1 v2 v3 : Int} {L2 H2 M2 : Nat → Int} {S : Prop} (hk : tokM t (nx t (nx t (nx t (nx t (nx t (nx t (nx t a))))))) tk st ti cu) (hA : L2 = updI L n v1 ∧ H2 = updI H n v2 ∧ M2 = updI M n v3 ∧ S) (hw : tNm t a = wC 3) (hn : n < 6) (hn2 : n2 = n + 1) (hv1 : v1 = tV t (nx t a) + 10 * tV t (nx t (nx t a))) (hv2 : v2 = tV t (nx t (nx t (nx t a))) + 10 * tV t (nx t (nx t (nx t (nx t a))))) (hv3 : v3 = m) : rQ t w h P F n a L H M = rQ t w h P F n2 st L2 H2 M2 := by
  rw [rQ_c hn hw h1 h2 hm h0 hs, hk.1, hn2, hA.1, hA.2.1, hA.2.2.1, hv1, hv2, hv3]
theorem rQm_us {t : Int → Int} {w h n a : Int} {P F L H M : Nat → Int} (h1 : oF t w h (nx t a) = 0) (h2 : oF t w h (nx t (nx t (nx t a))) = 0) {m : Int} (hm : mnT t (nx t (nx t (nx t (nx t (nx t a))))) = m) (h0 : m = 0) (hs : ¬ tK t (nx t (nx t (nx t (nx t (nx t a))))) = 3) {f p : Int} (hp : p = (nx t (nx t (nx t (nx t (nx t a)))))) (hw : tNm t a = wC 3) (hn : n < 6) (hf : f = 1) : rQ t w h P F n a L H M = fltR f p := by
  rw [rQ_us hn hw h1 h2 hm h0 hs, hf, hp]
theorem rQm_u {t : Int → Int} {w h n a : Int} {P F L H M : Nat → Int} (h1 : oF t w h (nx t a) = 0) (h2 : oF t w h (nx t (nx t (nx t a))) = 0) {m : Int} (hm : mnT t (nx t (nx t (nx t (nx t (nx t a))))) = m) (h0 : m = 0) (hs : tK t (nx t (nx t (nx t (nx t (nx t a))))) = 3) {n2 tk st ti cu v1 v2 v3 : Int} {L2 H2 M2 : Nat → Int} {S : Prop} (hk : tokM t (nx t (nx t (nx t (nx t (nx t (nx t a)))))) tk st ti cu) (hA : L2 = updI L n v1 ∧ H2 = updI H n v2 ∧ M2 = updI M n v3 ∧ S) (hw : tNm t a = wC 3) (hn : n < 6) (hn2 : n2 = n + 1) (hv1 : v1 = tV t (nx t a) + 10 * tV t (nx t (nx t a))) (hv2 : v2 = tV t (nx t (nx t (nx t a))) + 10 * tV t (nx t (nx t (nx t (nx t a))))) (hv3 : v3 = m) : rQ t w h P F n a L H M = rQ t w h P F n2 st L2 H2 M2 := by
  rw [rQ_u hn hw h1 h2 hm h0 hs, hk.1, hn2, hA.1, hA.2.1, hA.2.2.1, hv1, hv2, hv3]
theorem fl4 {v : Int32} (h : 0 ≤ v.toInt ∧ v.toInt ≤ 3) : v = 0 ∨ v = 1 ∨ v = 2 ∨ v = 3 := by
  rcases (show v.toInt = 0 ∨ v.toInt = 1 ∨ v.toInt = 2 ∨ v.toInt = 3 by omega) with q | q | q | q
  · exact Or.inl (Int32.toInt_inj.mp q)
  · exact Or.inr (Or.inl (Int32.toInt_inj.mp q))
  · exact Or.inr (Or.inr (Or.inl (Int32.toInt_inj.mp q)))
  · exact Or.inr (Or.inr (Or.inr (Int32.toInt_inj.mp q)))
/-- nothing told yet but walls -/
def frI (f : Nat → Int32) (i : Int) : Prop := ∀ j : Nat, (j : Int) < i → (j < 4 ∨ 84 ≤ j) → f j = 0
theorem frI_0 {f : Nat → Int32} {i : Int} (h : i ≤ 0) : frI f i := fun j hj _ => absurd hj (by omega)
theorem frI_st {f g : Nat → Int32} {i v : Int32} {i2 : Int} (h : frI f i.toInt) (e : upd f i.toNatClampNeg v = g) (hv : v.toInt = 0 ∨ (4 ≤ i.toInt ∧ i.toInt < 84)) (h0 : 0 ≤ i.toInt) (h2 : i2 = i.toInt + 1) : frI g i2 := by
  intro j hj hr
  have h3 : i.toNatClampNeg = i.toInt.toNat := rfl
  rw [← e]
  show (if j = i.toNatClampNeg then v else f j) = 0
  split
  · rcases hv with q | q
    · exact Int32.toInt_inj.mp q
    · omega
  · exact h j (by omega) hr
-- the three stages of the other reader
def stRw (t : Int → Int) (fr : Nat → Int32) (tk st ti cu : Int) : Prop := tokM t st tk st ti cu ∧ RD t = rR t (fr 1).toInt (fr 0).toInt st ∧ CLm t (fr 0).toInt (fr 1).toInt fr ∧ st = rwS t (fr 1).toInt.toNat ∧ (∀ j : Nat, j < 192 → (j = 2 ∨ j = 3 ∨ 84 ≤ j) → fr j = 0) ∧ ((fr 1).toInt = 0 ∨ 1 ≤ (fr 0).toInt) ∧ tNm t (tS t 0) = wC 0
def stP (t : Int → Int) (fr : Nat → Int32) (tk st ti cu : Int) : Prop := tokM t st tk st ti cu ∧ RD t = rP t (fr 0).toInt (fr 1).toInt (fr 2).toInt st (pM6 84 fr) (pM6 90 fr) ∧ CLm t (fr 0).toInt (fr 1).toInt fr ∧ (∀ j : Nat, j < 192 → (j = 3 ∨ 96 ≤ j) → fr j = 0) ∧ 1 ≤ (fr 0).toInt
def stQ (t : Int → Int) (fr : Nat → Int32) (tk st ti cu : Int) : Prop := tokM t st tk st ti cu ∧ RD t = rQ t (fr 0).toInt (fr 1).toInt (pM6 84 fr) (pM6 90 fr) (fr 3).toInt st (pNM 96 (fr 3).toInt fr) (pNM 97 (fr 3).toInt fr) (pNM 98 (fr 3).toInt fr) ∧ CLm t (fr 0).toInt (fr 1).toInt fr ∧ (∀ j : Nat, j < 192 → (120 ≤ j ∨ (96 ≤ j ∧ j % 4 = 3)) → fr j = 0) ∧ 1 ≤ (fr 0).toInt
theorem stR_in {t : Int → Int} {fr : Nat → Int32} {tk st ti cu i : Int} (hk : tokM t (tS t 0) tk st ti cu) (hw : tNm t (tS t 0) = wC 0) (hz : frI fr i) (hi : 192 ≤ i) : stRw t fr tk st ti cu := by
  have z0 : fr 0 = 0 := hz 0 (by omega) (Or.inl (by decide))
  have z1 : fr 1 = 0 := hz 1 (by omega) (Or.inl (by decide))
  refine ⟨tokM_ta hk, ?_, ?_, ?_, ?_, ?_, hw⟩
  · rw [z0, z1, hk.1]
    exact RD_go hw
  · rw [z1]
    exact CLm_0 (by decide)
  · rw [z1, hk.1]
    rfl
  · intro j hj hr
    exact hz j (by omega) (by omega)
  · rw [z1]
    exact Or.inl rfl
theorem stR_go {t : Int → Int} {fr fr2 : Nat → Int32} {tk st ti cu tk2 st2 ti2 cu2 : Int} (h : stRw t fr tk st ti cu) (hw : tNm t st = wC 0) (hk : tokM t st2 tk2 st2 ti2 cu2) (hc : CLm t (fr2 0).toInt (fr2 1).toInt fr2) (hr : st2 = rwS t (fr2 1).toInt.toNat) (hz : ∀ j : Nat, (j = 2 ∨ j = 3 ∨ 84 ≤ j) → fr2 j = fr j) (hy : (fr2 1).toInt = (fr 1).toInt + 1 ∧ 1 ≤ (fr2 0).toInt) (hR : tNm t st = wC 0 → rR t (fr 1).toInt (fr 0).toInt st = rR t (fr2 1).toInt (fr2 0).toInt st2) : stRw t fr2 tk2 st2 ti2 cu2 :=
  ⟨hk, h.2.1.trans (hR hw), hc, hr, fun j hj q => (hz j q).trans (h.2.2.2.2.1 j hj q), Or.inr hy.2, h.2.2.2.2.2.2⟩
theorem stR_f {t : Int → Int} {fr : Nat → Int32} {tk st ti cu f p : Int} (h : stRw t fr tk st ti cu) (hw : tNm t st = wC 0) (hR : tNm t st = wC 0 → rR t (fr 1).toInt (fr 0).toInt st = fltR f p) : RD t = fltR f p := h.2.1.trans (hR hw)
theorem stP_in {t : Int → Int} {fr : Nat → Int32} {tk st ti cu : Int} (h : stRw t fr tk st ti cu) (hn : ¬ tNm t st = wC 0) (h8 : (fr 1).toInt ≤ 8) : stP t fr tk st ti cu := by
  have hz := h.2.2.2.2.1
  refine ⟨h.1, ?_, h.2.2.1, fun j hj q => hz j hj (by omega), ?_⟩
  · rw [h.2.1, rR_end h8 hn, hz 2 (by decide) (by omega), pM6_z (b := 84) (fun j h1 h2 => hz j (by omega) (by omega)), pM6_z (b := 90) (fun j h1 h2 => hz j (by omega) (by omega))]
    rfl
  · rcases h.2.2.2.2.2.1 with q | q
    · have e := h.2.2.2.1
      rw [q] at e
      rw [e] at hn
      exact absurd h.2.2.2.2.2.2 hn
    · exact q
theorem stP_go {t : Int → Int} {fr fr2 : Nat → Int32} {tk st ti cu tk2 st2 ti2 cu2 : Int} (h : stP t fr tk st ti cu) (hw : tNm t st = wC 1) (hk : tokM t st2 tk2 st2 ti2 cu2) (ho : ∀ k : Nat, (k < 2 ∨ k = 3 ∨ (4 ≤ k ∧ k < 84) ∨ 96 ≤ k) → fr2 k = fr k) (hR : ∀ w h : Int, tNm t st = wC 1 → rP t w h (fr 2).toInt st (pM6 84 fr) (pM6 90 fr) = rP t w h (fr2 2).toInt st2 (pM6 84 fr2) (pM6 90 fr2)) (h10 : (fr 0).toInt ≤ 10) (h8 : (fr 1).toInt ≤ 8) : stP t fr2 tk2 st2 ti2 cu2 := by
  have e0 := ho 0 (by omega)
  have e1 := ho 1 (by omega)
  refine ⟨hk, ?_, ?_, fun j hj q => (ho j (by omega)).trans (h.2.2.2.1 j hj q), ?_⟩
  · rw [e0, e1]
    exact h.2.1.trans (hR _ _ hw)
  · rw [e0, e1]
    exact CLm_cg h.2.2.1 h10 h8 (fun k h1 h2 => ho k (by omega))
  · rw [e0]
    exact h.2.2.2.2
theorem stP_f {t : Int → Int} {fr : Nat → Int32} {tk st ti cu f p : Int} (h : stP t fr tk st ti cu) (hw : tNm t st = wC 1) (hR : ∀ w h : Int, tNm t st = wC 1 → rP t w h (fr 2).toInt st (pM6 84 fr) (pM6 90 fr) = fltR f p) : RD t = fltR f p := h.2.1.trans (hR _ _ hw)
theorem stQ_in {t : Int → Int} {fr : Nat → Int32} {tk st ti cu : Int} (h : stP t fr tk st ti cu) (hn : ¬ tNm t st = wC 1) (h6 : (fr 2).toInt ≤ 6) : stQ t fr tk st ti cu := by
  have hz := h.2.2.2.1
  refine ⟨h.1, ?_, h.2.2.1, fun j hj q => hz j hj (by omega), h.2.2.2.2⟩
  rw [h.2.1, rP_end h6 hn, hz 3 (by decide) (by omega), show Int32.toInt 0 = 0 from rfl, pNM_0, pNM_0, pNM_0]
theorem stQ_go {t : Int → Int} {fr fr2 : Nat → Int32} {tk st ti cu tk2 st2 ti2 cu2 : Int} (h : stQ t fr tk st ti cu) (hw : tNm t st = wC 3) (hk : tokM t st2 tk2 st2 ti2 cu2) (ho : ∀ k : Nat, (k < 3 ∨ (4 ≤ k ∧ k < 96) ∨ 120 ≤ k ∨ (96 ≤ k ∧ k % 4 = 3)) → fr2 k = fr k) (hR : ∀ P F : Nat → Int, tNm t st = wC 3 → rQ t (fr 0).toInt (fr 1).toInt P F (fr 3).toInt st (pNM 96 (fr 3).toInt fr) (pNM 97 (fr 3).toInt fr) (pNM 98 (fr 3).toInt fr) = rQ t (fr 0).toInt (fr 1).toInt P F (fr2 3).toInt st2 (pNM 96 (fr2 3).toInt fr2) (pNM 97 (fr2 3).toInt fr2) (pNM 98 (fr2 3).toInt fr2)) (h10 : (fr 0).toInt ≤ 10) (h8 : (fr 1).toInt ≤ 8) : stQ t fr2 tk2 st2 ti2 cu2 := by
  have e0 := ho 0 (by omega)
  have e1 := ho 1 (by omega)
  refine ⟨hk, ?_, ?_, fun j hj q => (ho j (by omega)).trans (h.2.2.2.1 j hj q), ?_⟩
  · rw [e0, e1, pM6_cg (b := 84) (fun j h1 h2 => ho j (by omega)), pM6_cg (b := 90) (fun j h1 h2 => ho j (by omega))]
    exact h.2.1.trans (hR _ _ hw)
  · rw [e0, e1]
    exact CLm_cg h.2.2.1 h10 h8 (fun k h1 h2 => ho k (by omega))
  · rw [e0]
    exact h.2.2.2.2
theorem stQ_f {t : Int → Int} {fr : Nat → Int32} {tk st ti cu f p : Int} (h : stQ t fr tk st ti cu) (hw : tNm t st = wC 3) (hR : ∀ P F : Nat → Int, tNm t st = wC 3 → rQ t (fr 0).toInt (fr 1).toInt P F (fr 3).toInt st (pNM 96 (fr 3).toInt fr) (pNM 97 (fr 3).toInt fr) (pNM 98 (fr 3).toInt fr) = fltR f p) : RD t = fltR f p := h.2.1.trans (hR _ _ hw)
/-- the other reader's city is what the text tells -/
def CIm (t : Int → Int) (cy : Nat → Int32) : Prop := RD t = okR (cy 0).toInt (cy 1).toInt (cy 3).toInt (pM6 84 cy) (pM6 90 cy) (pNM 96 (cy 3).toInt cy) (pNM 97 (cy 3).toInt cy) (pNM 98 (cy 3).toInt cy) ∧ CLm t (cy 0).toInt (cy 1).toInt cy ∧ (∀ j : Nat, j < 192 → (120 ≤ j ∨ (96 ≤ j ∧ j % 4 = 3)) → cy j = 0) ∧ 1 ≤ (cy 0).toInt
theorem pNM_cg {b : Nat} {n : Int} {f g : Nat → Int32} (h : ∀ j : Nat, b ≤ j → (j : Int) < b + 4 * n → g j = f j) : pNM b n g = pNM b n f := by
  funext j
  unfold pNM
  split
  · rw [h (b + 4 * j) (by omega) (by omega)]
  · rfl
theorem CIm_of {t : Int → Int} {fr cy : Nat → Int32} {tk st ti cu i : Int} (h : stQ t fr tk st ti cu) (hn : ¬ tNm t st = wC 3) (hk : tk = 1) (h6 : (fr 3).toInt ≤ 6) (h10 : (fr 0).toInt ≤ 10) (h8 : (fr 1).toInt ≤ 8) (hc : ∀ j : Nat, (j : Int) < i → cy j = fr j) (hi : 192 ≤ i) : CIm t cy := by
  have e0 := hc 0 (by omega)
  have e1 := hc 1 (by omega)
  have e3 := hc 3 (by omega)
  refine ⟨?_, ?_, ?_, ?_⟩
  · rw [e0, e1, e3, pM6_cg (b := 84) (fun j h1 h2 => hc j (by omega)), pM6_cg (b := 90) (fun j h1 h2 => hc j (by omega)), pNM_cg (b := 96) (fun j h1 h2 => hc j (by omega)), pNM_cg (b := 97) (fun j h1 h2 => hc j (by omega)), pNM_cg (b := 98) (fun j h1 h2 => hc j (by omega)), h.2.1]
    exact rQ_ok h6 hn (tokM_k (v := 0) h.1 (by omega) (by decide))
  · rw [e0, e1]
    exact CLm_cg h.2.2.1 h10 h8 (fun k h1 h2 => hc k (by omega))
  · intro j hj q
    exact (hc j (by omega)).trans (h.2.2.2.1 j hj q)
  · rw [e0]
    exact h.2.2.2.2
theorem stQ_more {t : Int → Int} {fr : Nat → Int32} {tk st ti cu f : Int} (h : stQ t fr tk st ti cu) (hn : ¬ tNm t st = wC 3) (hk : ¬ tk = 1) (h6 : (fr 3).toInt ≤ 6) (hf : f = 1) : RD t = fltR f st := by
  rw [h.2.1, rQ_more h6 hn (tokM_nk (v := 0) h.1 (by omega) (by decide)), hf]
theorem rdm_0 {t : Int → Int} {f tk st ti cu : Int} (hk : tokM t (tS t 0) tk st ti cu) (hn : ¬ tNm t (tS t 0) = wC 0) (hf : f = 1) : RD t = fltR f st := by rw [RD_no hn, hk.1, hf]
/-- a city is what the text tells -/
def CIT (t : Int → Int) (w h n : Int) (fc fp ff fl fh fm fg fd fb : Nat → Int32) : Prop := RD t = okR w h n (pI6 fp) (pI6 ff) (pN n fl) (pN n fh) (pN n fm) ∧ CLc t w h fc ∧ zr fg 6 ∧ zr fd 36 ∧ zr fb 36 ∧ 1 ≤ w
-- the city that both hold: 0 wide, 1 high, 3 people, 4 cells, 84 prices, 90 free, 97 + 4p homes, 98 + 4p manners
def insG (g : Nat → Int) (c : Nat) : Prop := (c : Int) % 10 < g 0 ∧ (c : Int) / 10 < g 1
def CXs (g : Nat → Int) (cw ch cp : Int32) (fc fp ff fh fm : Nat → Int32) : Prop := cw.toInt = g 0 ∧ ch.toInt = g 1 ∧ cp.toInt = g 3 ∧ (∀ c : Nat, c < 80 → insG g c → (fc c).toInt = g (4 + c) + 3) ∧ (∀ j : Nat, j < 6 → (fp j).toInt = g (84 + j)) ∧ (∀ j : Nat, j < 6 → (ff j).toInt = g (90 + j)) ∧ (∀ p : Nat, (p : Int) < g 3 → (fh p).toInt = g (97 + 4 * p)) ∧ (∀ p : Nat, (p : Int) < g 3 → (fm p).toInt = g (98 + 4 * p))
def CYs (g : Nat → Int) (cy : Nat → Int32) : Prop := (∀ j : Nat, (j < 2 ∨ j = 3 ∨ (84 ≤ j ∧ j < 96)) → (cy j).toInt = g j) ∧ (∀ c : Nat, c < 80 → insG g c → (cy (4 + c)).toInt = g (4 + c)) ∧ (∀ p : Nat, (p : Int) < g 3 → (cy (97 + 4 * p)).toInt = g (97 + 4 * p) ∧ (cy (98 + 4 * p)).toInt = g (98 + 4 * p))
noncomputable def gT (t : Int → Int) (j : Nat) : Int :=
  if j = 0 then (RD t).2.2.1 else if j = 1 then (RD t).2.2.2.1 else if j = 3 then (RD t).2.2.2.2.1 else if j < 4 then 0 else if j < 84 then codC (t (cSt t ((j - 4) / 10) + ((j - 4) % 10 : Nat))) - 3 else if j < 90 then (RD t).2.2.2.2.2.1 (j - 84) else if j < 96 then (RD t).2.2.2.2.2.2.1 (j - 90) else if j % 4 = 1 then (RD t).2.2.2.2.2.2.2.2.1 ((j - 96) / 4) else (RD t).2.2.2.2.2.2.2.2.2 ((j - 96) / 4)
theorem gT_c {t : Int → Int} {c : Nat} (hc : c < 80) : gT t (4 + c) = codC (t (cSt t (c / 10) + (c % 10 : Nat))) - 3 := by
  unfold gT
  rw [if_neg (by omega), if_neg (by omega), if_neg (by omega), if_neg (by omega), if_pos (by omega), show 4 + c - 4 = c from by omega]
theorem gT_x {t : Int → Int} {cw ch cp : Int32} {fc fp ff fl fh fm fg fd fb : Nat → Int32} (h : CIT t cw.toInt ch.toInt cp.toInt fc fp ff fl fh fm fg fd fb) (hw : cw.toInt ≤ 10) (hh : ch.toInt ≤ 8) (hn : cp.toInt ≤ 6) : CXs (gT t) cw ch cp fc fp ff fh fm := by
  have e := h.1
  have g0 : gT t 0 = cw.toInt := by unfold gT; rw [if_pos rfl, e]; rfl
  have g1 : gT t 1 = ch.toInt := by unfold gT; rw [if_neg (by decide), if_pos rfl, e]; rfl
  have g3 : gT t 3 = cp.toInt := by unfold gT; rw [if_neg (by decide), if_neg (by decide), if_pos rfl, e]; rfl
  refine ⟨g0.symm, g1.symm, g3.symm, ?_, ?_, ?_, ?_, ?_⟩
  · intro c hc hi
    unfold insG at hi
    rw [g0, g1] at hi
    rw [gT_c hc]
    have z := h.2.1 (c / 10) (c % 10) (by omega) (by omega)
    rw [show c % 10 + 10 * (c / 10) = c from by omega] at z
    omega
  · intro j hj
    unfold gT
    rw [if_neg (by omega), if_neg (by omega), if_neg (by omega), if_neg (by omega), if_neg (by omega), if_pos (by omega), e, show 84 + j - 84 = j from by omega]
    show _ = pI6 fp j
    exact (if_pos hj).symm
  · intro j hj
    unfold gT
    rw [if_neg (by omega), if_neg (by omega), if_neg (by omega), if_neg (by omega), if_neg (by omega), if_neg (by omega), if_pos (by omega), e, show 90 + j - 90 = j from by omega]
    show _ = pI6 ff j
    exact (if_pos hj).symm
  · intro p hp
    rw [g3] at hp
    unfold gT
    rw [if_neg (by omega), if_neg (by omega), if_neg (by omega), if_neg (by omega), if_neg (by omega), if_neg (by omega), if_neg (by omega), if_pos (by omega), e, show (97 + 4 * p - 96) / 4 = p from by omega]
    show _ = pN cp.toInt fh p
    exact (if_pos hp).symm
  · intro p hp
    rw [g3] at hp
    unfold gT
    rw [if_neg (by omega), if_neg (by omega), if_neg (by omega), if_neg (by omega), if_neg (by omega), if_neg (by omega), if_neg (by omega), if_neg (by omega), e, show (98 + 4 * p - 96) / 4 = p from by omega]
    show _ = pN cp.toInt fm p
    exact (if_pos hp).symm
theorem gT_y {t : Int → Int} {cy : Nat → Int32} (h : CIm t cy) : CYs (gT t) cy := by
  have e := h.1
  have g0 : gT t 0 = (cy 0).toInt := by unfold gT; rw [if_pos rfl, e]; rfl
  have g1 : gT t 1 = (cy 1).toInt := by unfold gT; rw [if_neg (by decide), if_pos rfl, e]; rfl
  have g3 : gT t 3 = (cy 3).toInt := by unfold gT; rw [if_neg (by decide), if_neg (by decide), if_pos rfl, e]; rfl
  refine ⟨?_, ?_, ?_⟩
  · intro j hj
    rcases (show j = 0 ∨ j = 1 ∨ j = 3 ∨ (84 ≤ j ∧ j < 90) ∨ (90 ≤ j ∧ j < 96) by omega) with rfl | rfl | rfl | q | q
    · exact g0.symm
    · exact g1.symm
    · exact g3.symm
    · unfold gT
      rw [if_neg (by omega), if_neg (by omega), if_neg (by omega), if_neg (by omega), if_neg (by omega), if_pos (by omega), e]
      show _ = pM6 84 cy (j - 84)
      unfold pM6
      rw [if_pos (by omega), show 84 + (j - 84) = j from by omega]
    · unfold gT
      rw [if_neg (by omega), if_neg (by omega), if_neg (by omega), if_neg (by omega), if_neg (by omega), if_neg (by omega), if_pos (by omega), e]
      show _ = pM6 90 cy (j - 90)
      unfold pM6
      rw [if_pos (by omega), show 90 + (j - 90) = j from by omega]
  · intro c hc hi
    unfold insG at hi
    rw [g0, g1] at hi
    rw [gT_c hc]
    have z := h.2.1 (c / 10) (c % 10) (by omega) (by omega)
    rw [show 4 + c % 10 + 10 * (c / 10) = 4 + c from by omega] at z
    exact z
  · intro p hp
    rw [g3] at hp
    refine ⟨?_, ?_⟩
    · unfold gT
      rw [if_neg (by omega), if_neg (by omega), if_neg (by omega), if_neg (by omega), if_neg (by omega), if_neg (by omega), if_neg (by omega), if_pos (by omega), e, show (97 + 4 * p - 96) / 4 = p from by omega]
      show _ = pNM 97 (cy 3).toInt cy p
      exact (if_pos hp).symm
    · unfold gT
      rw [if_neg (by omega), if_neg (by omega), if_neg (by omega), if_neg (by omega), if_neg (by omega), if_neg (by omega), if_neg (by omega), if_neg (by omega), e, show (98 + 4 * p - 96) / 4 = p from by omega]
      show _ = pNM 98 (cy 3).toInt cy p
      exact (if_pos hp).symm
/-- a cell's kind -/
def kdT (g : Nat → Int) (c : Nat) : Int := if g (4 + c) = -3 then 1 else if g (4 + c) = -2 then 2 else if g (4 + c) = -1 then 4 else if 50 ≤ g (84 + (g (4 + c)).toNat) then 5 else 3
def isP (a b : Int) : Prop := b = 0 ∨ a = b ∨ (b = 3 ∧ a = 5) ∨ (b = 2 ∧ (a = 3 ∨ a = 4 ∨ a = 5))
noncomputable def cnA (P : Nat → Prop) : Nat → Int
  | 0 => 0
  | i + 1 => cnA P i + ifP (P i) 1 0
theorem cnA_y {P : Nat → Prop} {i i2 q q2 : Int} (h : q = cnA P i.toNat) (hp : P i.toNat) (h0 : 0 ≤ i) (h2 : i2 = i + 1) (hq : q2 = q + 1) : q2 = cnA P i2.toNat := by
  rw [show i2.toNat = i.toNat + 1 from by omega]
  show q2 = cnA P i.toNat + ifP (P i.toNat) 1 0
  rw [ifP_y hp]
  omega
theorem cnA_n {P : Nat → Prop} {i i2 q : Int} (h : q = cnA P i.toNat) (hp : ¬ P i.toNat) (h0 : 0 ≤ i) (h2 : i2 = i + 1) : q = cnA P i2.toNat := by
  rw [show i2.toNat = i.toNat + 1 from by omega]
  show q = cnA P i.toNat + ifP (P i.toNat) 1 0
  rw [ifP_n hp]
  omega
theorem cnA_cg {P Q : Nat → Prop} : ∀ n : Nat, (∀ c : Nat, c < n → (P c ↔ Q c)) → cnA P n = cnA Q n := by
  intro n
  induction n with
  | zero => intro _; rfl
  | succ n ih =>
    intro h
    show cnA P n + ifP (P n) 1 0 = cnA Q n + ifP (Q n) 1 0
    rw [ih (fun c hc => h c (by omega))]
    have z := h n (by omega)
    rcases Classical.em (P n) with q | q
    · rw [ifP_y q, ifP_y (z.mp q)]
    · rw [ifP_n q, ifP_n (fun y => q (z.mpr y))]
theorem cnA_le {P : Nat → Prop} : ∀ n : Nat, 0 ≤ cnA P n ∧ cnA P n ≤ n := by
  intro n
  induction n with
  | zero => exact ⟨Int.le_refl 0, Int.le_refl 0⟩
  | succ n ih =>
    show 0 ≤ cnA P n + ifP (P n) 1 0 ∧ cnA P n + ifP (P n) 1 0 ≤ ((n + 1 : Nat) : Int)
    rcases Classical.em (P n) with q | q
    · rw [ifP_y q]; omega
    · rw [ifP_n q]; omega
def kdX (cw ch : Int) (fc fp : Nat → Int32) (k q : Int) : Prop :=
  ((0 ≤ k ∧ k % 10 < cw ∧ k / 10 < ch) ∧ 3 ≤ (fc k.toNat).toInt ∧ 50 ≤ (fp ((fc k.toNat).toInt - 3).toNat).toInt ∧ q = 5) ∨ ((0 ≤ k ∧ k % 10 < cw ∧ k / 10 < ch) ∧ 3 ≤ (fc k.toNat).toInt ∧ (fp ((fc k.toNat).toInt - 3).toNat).toInt < 50 ∧ q = 3) ∨ ((0 ≤ k ∧ k % 10 < cw ∧ k / 10 < ch) ∧ (fc k.toNat).toInt = 2 ∧ q = 4) ∨ ((0 ≤ k ∧ k % 10 < cw ∧ k / 10 < ch) ∧ (fc k.toNat).toInt = 0 ∧ q = 1) ∨ (¬ ((0 ≤ k ∧ k % 10 < cw ∧ k / 10 < ch) ∧ (3 ≤ (fc k.toNat).toInt ∨ (fc k.toNat).toInt = 2 ∨ (fc k.toNat).toInt = 0)) ∧ q = 2)
def kdY (cy : Nat → Int32) (k q : Int) : Prop := ((cy (4 + k.toNat)).toInt = -3 ∧ q = 1) ∨ ((cy (4 + k.toNat)).toInt = -2 ∧ q = 2) ∨ ((cy (4 + k.toNat)).toInt = -1 ∧ q = 4) ∨ (0 ≤ (cy (4 + k.toNat)).toInt ∧ 50 ≤ (cy (84 + (cy (4 + k.toNat)).toInt.toNat)).toInt ∧ q = 5) ∨ (0 ≤ (cy (4 + k.toNat)).toInt ∧ (cy (84 + (cy (4 + k.toNat)).toInt.toNat)).toInt < 50 ∧ q = 3)
theorem kdX_T {g : Nat → Int} {cw ch cp : Int32} {fc fp ff fh fm : Nat → Int32} {k q : Int} (hg : CXs g cw ch cp fc fp ff fh fm) (hi : 0 ≤ k ∧ k % 10 < cw.toInt ∧ k / 10 < ch.toInt) (hw : cw.toInt ≤ 10) (hh : ch.toInt ≤ 8) (hr : ∀ c : Nat, c < 80 → -1 ≤ (fc c).toInt ∧ (fc c).toInt ≤ 8) (h : kdX cw.toInt ch.toInt fc fp k q) (hn : 0 ≤ (fc k.toNat).toInt) : q = kdT g k.toNat := by
  have e := hg.2.2.2.1 k.toNat (by omega) (by unfold insG; rw [← hg.1, ← hg.2.1]; omega)
  have z := hr k.toNat (by omega)
  unfold kdT
  unfold kdX at h
  rcases h with h | h | h | h | h
  · have p := hg.2.2.2.2.1 ((fc k.toNat).toInt - 3).toNat (by omega)
    rw [show ((fc k.toNat).toInt - 3).toNat = (g (4 + k.toNat)).toNat from by omega] at p h
    rw [if_neg (by omega), if_neg (by omega), if_neg (by omega), if_pos (by omega)]
    exact h.2.2.2
  · have p := hg.2.2.2.2.1 ((fc k.toNat).toInt - 3).toNat (by omega)
    rw [show ((fc k.toNat).toInt - 3).toNat = (g (4 + k.toNat)).toNat from by omega] at p h
    rw [if_neg (by omega), if_neg (by omega), if_neg (by omega), if_neg (by omega)]
    exact h.2.2.2
  · rw [if_neg (by omega), if_neg (by omega), if_pos (by omega)]
    exact h.2.2
  · rw [if_pos (by omega)]
    exact h.2.2
  · rw [if_neg (by omega), if_pos (by omega)]
    exact h.2
theorem kdY_T {g : Nat → Int} {cy : Nat → Int32} {k q : Int} (hg : CYs g cy) (hi : 0 ≤ k ∧ k < 80 ∧ k % 10 < (cy 0).toInt ∧ k / 10 < (cy 1).toInt) (hr : (cy (4 + k.toNat)).toInt ≤ 5) (h : kdY cy k q) : q = kdT g k.toNat := by
  have e0 := hg.1 0 (by omega)
  have e1 := hg.1 1 (by omega)
  have e := hg.2.1 k.toNat (by omega) (by unfold insG; omega)
  unfold kdT
  unfold kdY at h
  rcases h with h | h | h | h | h
  · rw [if_pos (by omega)]
    exact h.2
  · rw [if_neg (by omega), if_pos (by omega)]
    exact h.2
  · rw [if_neg (by omega), if_neg (by omega), if_pos (by omega)]
    exact h.2
  · have p := hg.1 (84 + (cy (4 + k.toNat)).toInt.toNat) (by omega)
    rw [e] at p h
    rw [if_neg (by omega), if_neg (by omega), if_neg (by omega), if_pos (by omega)]
    exact h.2.2
  · have p := hg.1 (84 + (cy (4 + k.toNat)).toInt.toNat) (by omega)
    rw [e] at p h
    rw [if_neg (by omega), if_neg (by omega), if_neg (by omega), if_neg (by omega)]
    exact h.2.2
theorem isA_st {P : Int → Prop} {kd ow x i i2 : Int} (h : ∃ q : Int, P q ∧ (isP q kd ↔ isP ow kd) ∧ ow + i ≤ 5) (hn : ¬ ow = kd) (hw : (ow = 1 ∧ x = 0) ∨ (ow = 2 ∧ x = 0) ∨ (ow = 3 ∧ x = 2) ∨ (ow = 4 ∧ x = 2) ∨ (ow = 5 ∧ x = 3)) (h2 : i2 = i + 1) : ∃ q : Int, P q ∧ (isP q kd ↔ isP x kd) ∧ x + i2 ≤ 5 := by
  obtain ⟨q, h1, h3, h4⟩ := h
  refine ⟨q, h1, h3.trans ?_, by omega⟩
  unfold isP
  omega
theorem isA_1 {P : Int → Prop} {kd ow i : Int} (h : ∃ q : Int, P q ∧ (isP q kd ↔ isP ow kd) ∧ ow + i ≤ 5) (e : ow = kd) : ∃ q : Int, P q ∧ isP q kd := by
  obtain ⟨q, h1, h3, h4⟩ := h
  exact ⟨q, h1, h3.mpr (by unfold isP; omega)⟩
theorem isA_0 {P : Int → Prop} {kd ow i : Int} (h : ∃ q : Int, P q ∧ (isP q kd ↔ isP ow kd) ∧ ow + i ≤ 5) (e : ¬ ow = kd) (h0 : 0 ≤ ow) (hx : 6 ≤ i ∨ ow ≤ 0 ∨ ow = kd) : ∃ q : Int, P q ∧ ¬ isP q kd := by
  obtain ⟨q, h1, h3, h4⟩ := h
  refine ⟨q, h1, fun z => ?_⟩
  have y := h3.mp z
  unfold isP at y
  omega
def frX (cw ch : Int) (fc : Nat → Int32) (c : Nat) : Prop := (c : Int) % 10 < cw ∧ (c : Int) / 10 < ch ∧ 3 ≤ (fc c).toInt
def mrX (cw ch : Int) (fc : Nat → Int32) (c : Nat) : Prop := (c : Int) % 10 < cw ∧ (c : Int) / 10 < ch ∧ (fc c).toInt = 2
def frG (g : Nat → Int) (c : Nat) : Prop := insG g c ∧ 0 ≤ g (4 + c)
def mrG (g : Nat → Int) (c : Nat) : Prop := insG g c ∧ g (4 + c) = -1
theorem frX_G {g : Nat → Int} {cw ch cp : Int32} {fc fp ff fh fm : Nat → Int32} (hg : CXs g cw ch cp fc fp ff fh fm) : cnA (frX cw.toInt ch.toInt fc) 80 = cnA (frG g) 80 ∧ cnA (mrX cw.toInt ch.toInt fc) 80 = cnA (mrG g) 80 := by
  refine ⟨cnA_cg 80 ?_, cnA_cg 80 ?_⟩
  · intro c hc
    unfold frX frG insG
    rw [hg.1, hg.2.1]
    constructor
    · intro z
      have e := hg.2.2.2.1 c hc ⟨z.1, z.2.1⟩
      exact ⟨⟨z.1, z.2.1⟩, by omega⟩
    · intro z
      have e := hg.2.2.2.1 c hc z.1
      exact ⟨z.1.1, z.1.2, by omega⟩
  · intro c hc
    unfold mrX mrG insG
    rw [hg.1, hg.2.1]
    constructor
    · intro z
      have e := hg.2.2.2.1 c hc ⟨z.1, z.2.1⟩
      exact ⟨⟨z.1, z.2.1⟩, by omega⟩
    · intro z
      have e := hg.2.2.2.1 c hc z.1
      exact ⟨z.1.1, z.1.2, by omega⟩
def frY (cy : Nat → Int32) (c : Nat) : Prop := (c : Int) % 10 < (cy 0).toInt ∧ (c : Int) / 10 < (cy 1).toInt ∧ 0 ≤ (cy (4 + c)).toInt
def mrY (cy : Nat → Int32) (c : Nat) : Prop := (c : Int) % 10 < (cy 0).toInt ∧ (c : Int) / 10 < (cy 1).toInt ∧ (cy (4 + c)).toInt = -1
theorem frY_G {g : Nat → Int} {cy : Nat → Int32} (hg : CYs g cy) : cnA (frY cy) 80 = cnA (frG g) 80 ∧ cnA (mrY cy) 80 = cnA (mrG g) 80 := by
  have e0 := hg.1 0 (by omega)
  have e1 := hg.1 1 (by omega)
  refine ⟨cnA_cg 80 ?_, cnA_cg 80 ?_⟩
  · intro c hc
    unfold frY frG insG
    rw [e0, e1]
    constructor
    · intro z
      have e := hg.2.1 c hc ⟨z.1, z.2.1⟩
      exact ⟨⟨z.1, z.2.1⟩, by omega⟩
    · intro z
      have e := hg.2.1 c hc z.1
      exact ⟨z.1.1, z.1.2, by omega⟩
  · intro c hc
    unfold mrY mrG insG
    rw [e0, e1]
    constructor
    · intro z
      have e := hg.2.1 c hc ⟨z.1, z.2.1⟩
      exact ⟨⟨z.1, z.2.1⟩, by omega⟩
    · intro z
      have e := hg.2.1 c hc z.1
      exact ⟨z.1.1, z.1.2, by omega⟩
/-- what is left as it was -/
def oE (S : Nat → Prop) (f g : Nat → Int32) : Prop := ∀ j : Nat, j < 192 → S j → g j = f j
def stI (j : Nat) : Prop := j < 96 ∨ (96 ≤ j ∧ j < 120 ∧ (j % 4 = 1 ∨ j % 4 = 2))
def noP (j : Nat) : Prop := j < 84 ∨ 90 ≤ j
def no1 (k : Int) (j : Nat) : Prop := ¬ (j : Int) = k
def noR (i : Int) (j : Nat) : Prop := ¬ (84 + i ≤ (j : Int) ∧ j < 90)
def allJ (j : Nat) : Prop := 0 ≤ j
theorem oE_rfl (S : Nat → Prop) (f : Nat → Int32) : oE S f f := fun _ _ _ => rfl
theorem oE_trans {S : Nat → Prop} {f g h : Nat → Int32} (a : oE S f g) (b : oE S g h) : oE S f h := fun j hj hs => (b j hj hs).trans (a j hj hs)
theorem oE_sub {S T : Nat → Prop} {f g : Nat → Int32} (a : oE S f g) (h : ∀ j : Nat, j < 192 → T j → S j) : oE T f g := fun j hj ht => a j hj (h j hj ht)
theorem oE_upd {S : Nat → Prop} {f g h : Nat → Int32} {i v : Int32} (a : oE S f g) (e : upd g i.toNatClampNeg v = h) (h0 : 0 ≤ i.toInt) (hi : ∀ j : Nat, j < 192 → S j → ¬ (j : Int) = i.toInt) : oE S f h := by
  intro j hj hs
  have h3 : i.toNatClampNeg = i.toInt.toNat := rfl
  have z := hi j hj hs
  rw [← e]
  show (if j = i.toNatClampNeg then v else g j) = f j
  rw [if_neg (by omega)]
  exact a j hj hs
theorem oE_back {k : Int} {f g h : Nat → Int32} {i v : Int32} (a : oE (no1 k) f g) (e : upd g i.toNatClampNeg v = h) (h0 : 0 ≤ i.toInt) (hi : i.toInt = k) (hv : v = f i.toNatClampNeg) : oE allJ f h := by
  intro j hj hs
  have h3 : i.toNatClampNeg = i.toInt.toNat := rfl
  rw [← e]
  show (if j = i.toNatClampNeg then v else g j) = f j
  split
  · next q => rw [q]; exact hv
  · exact a j hj (by unfold no1; omega)
theorem oE_r0 {f g : Nat → Int32} {i : Int} (a : oE noP f g) (hi : i ≤ 0) : oE (noR i) f g := oE_sub a (fun j _ h => by unfold noR at h; unfold noP; omega)
theorem oE_r1 {f g h : Nat → Int32} {i i2 : Int} {x v : Int32} (a : oE (noR i) f g) (e : upd g x.toNatClampNeg v = h) (hx : x.toInt = 84 + i) (hv : v = f x.toNatClampNeg) (h0 : 0 ≤ i ∧ i < 6) (h2 : i2 = i + 1) : oE (noR i2) f h := by
  intro j hj hs
  have h3 : x.toNatClampNeg = x.toInt.toNat := rfl
  rw [← e]
  show (if j = x.toNatClampNeg then v else g j) = f j
  split
  · next q => rw [q]; exact hv
  · exact a j hj (by unfold noR at hs ⊢; omega)
theorem oE_r6 {f g : Nat → Int32} {i : Int} (a : oE (noR i) f g) (hi : 6 ≤ i) : oE allJ f g := oE_sub a (fun j _ _ => by unfold noR; omega)
theorem CYs_oE {g : Nat → Int} {cy cy2 : Nat → Int32} (h : CYs g cy) (e : oE stI cy cy2) (h3 : g 3 ≤ 6) : CYs g cy2 := by
  refine ⟨fun j hj => ?_, fun c hc hi => ?_, fun p hp => ?_⟩
  · rw [e j (by omega) (by unfold stI; omega)]
    exact h.1 j hj
  · rw [e (4 + c) (by omega) (by unfold stI; omega)]
    exact h.2.1 c hc hi
  · rw [e (97 + 4 * p) (by omega) (by unfold stI; omega), e (98 + 4 * p) (by omega) (by unfold stI; omega)]
    exact h.2.2 p hp
theorem oE_all {f g : Nat → Int32} (S : Nat → Prop) (a : oE allJ f g) : oE S f g := oE_sub a (fun j _ _ => by unfold allJ; omega)
theorem CYs_price {g : Nat → Int} {cy cy2 : Nat → Int32} {i v : Int32} {k : Int} (h : CYs g cy) (e : cy2 = upd cy i.toNatClampNeg v) (hi : i.toInt = 84 + k) (hk : 0 ≤ k ∧ k < 6) (h3 : g 3 ≤ 6) : CYs (updI g (84 + k) v.toInt) cy2 := by
  have h4 : i.toNatClampNeg = i.toInt.toNat := rfl
  have key : ∀ j : Nat, (cy2 j).toInt = if (j : Int) = 84 + k then v.toInt else (cy j).toInt := by
    intro j
    rw [e]
    show (if j = i.toNatClampNeg then v else cy j).toInt = _
    rcases Classical.em (j = i.toNatClampNeg) with q | q
    · rw [if_pos q, if_pos (by omega)]
    · rw [if_neg q, if_neg (by omega)]
  have g3 : updI g (84 + k) v.toInt 3 = g 3 := if_neg (by omega)
  have g0 : updI g (84 + k) v.toInt 0 = g 0 := if_neg (by omega)
  have g1 : updI g (84 + k) v.toInt 1 = g 1 := if_neg (by omega)
  refine ⟨fun j hj => ?_, fun c hc hi => ?_, fun p hp => ?_⟩
  · rw [key]
    show _ = (if (j : Int) = 84 + k then v.toInt else g j)
    rw [h.1 j hj]
  · unfold insG at hi
    rw [g0, g1] at hi
    rw [key, if_neg (by omega)]
    show _ = (if ((4 + c : Nat) : Int) = 84 + k then v.toInt else g (4 + c))
    rw [if_neg (by omega)]
    exact h.2.1 c hc hi
  · rw [g3] at hp
    rw [key, key, if_neg (by omega), if_neg (by omega)]
    show _ = (if ((97 + 4 * p : Nat) : Int) = 84 + k then v.toInt else g (97 + 4 * p)) ∧ _ = (if ((98 + 4 * p : Nat) : Int) = 84 + k then v.toInt else g (98 + 4 * p))
    rw [if_neg (by omega), if_neg (by omega)]
    exact h.2.2 p hp
theorem CXs_price {g : Nat → Int} {cw ch cp a v : Int32} {fc fp fp2 ff fh fm : Nat → Int32} (h : CXs g cw ch cp fc fp ff fh fm) (e : fp2 = upd fp a.toNatClampNeg v) (ha : 0 ≤ a.toInt ∧ a.toInt < 6) (h10 : cw.toInt ≤ 10) (h8 : ch.toInt ≤ 8) (h6 : cp.toInt ≤ 6) : CXs (updI g (84 + a.toInt) v.toInt) cw ch cp fc fp2 ff fh fm := by
  have h4 : a.toNatClampNeg = a.toInt.toNat := rfl
  have gn : ∀ j : Nat, ¬ (j : Int) = 84 + a.toInt → updI g (84 + a.toInt) v.toInt j = g j := fun j hj => if_neg hj
  refine ⟨by rw [gn 0 (by omega)]; exact h.1, by rw [gn 1 (by omega)]; exact h.2.1, by rw [gn 3 (by omega)]; exact h.2.2.1, fun c hc hi => ?_, fun j hj => ?_, fun j hj => ?_, fun p hp => ?_, fun p hp => ?_⟩
  · unfold insG at hi
    rw [gn 0 (by omega), gn 1 (by omega)] at hi
    rw [gn (4 + c) (by omega)]
    exact h.2.2.2.1 c hc hi
  · rw [e]
    show (if j = a.toNatClampNeg then v else fp j).toInt = (if ((84 + j : Nat) : Int) = 84 + a.toInt then v.toInt else g (84 + j))
    rcases Classical.em (j = a.toNatClampNeg) with q | q
    · rw [if_pos q, if_pos (by omega)]
    · rw [if_neg q, if_neg (by omega)]
      exact h.2.2.2.2.1 j hj
  · rw [gn (90 + j) (by omega)]
    exact h.2.2.2.2.2.1 j hj
  · rw [gn 3 (by omega)] at hp
    rw [gn (97 + 4 * p) (by omega)]
    exact h.2.2.2.2.2.2.1 p hp
  · rw [gn 3 (by omega)] at hp
    rw [gn (98 + 4 * p) (by omega)]
    exact h.2.2.2.2.2.2.2 p hp
theorem cnA_nz {P : Nat → Prop} {i i2 q : Int} (h : q = cnA P i.toNat) (hp : ¬ P i.toNat) (h0 : 0 ≤ i) (h2 : i2 = i + 1) : cnA P i2.toNat = q := (cnA_n h hp h0 h2).symm
/-- an image laid, as far as it is -/
def imC (kp cy : Nat → Int32) (a i : Int) (kp1 : Nat → Int32) : Prop := (∀ j : Nat, (j : Int) < i → kp1 (192 * a.toNat + j) = cy j) ∧ ∀ j : Nat, ¬ (192 * a.toNat ≤ j ∧ j < 192 * a.toNat + 192) → kp1 j = kp j
theorem imC_0 {kp cy : Nat → Int32} {a i : Int} (h : i ≤ 0) : imC kp cy a i kp := ⟨fun j hj => absurd hj (by omega), fun _ _ => rfl⟩
theorem imC_sub {kp cy kp1 : Nat → Int32} {a i n : Int} (h : imC kp cy a i kp1) (hn : n ≤ i) : imC kp cy a n kp1 := ⟨fun j hj => h.1 j (by omega), h.2⟩
theorem imC_st {kp cy kp1 kp2 : Nat → Int32} {a i2 : Int} {x v i : Int32} (h : imC kp cy a i.toInt kp1) (e : upd kp1 x.toNatClampNeg v = kp2) (hv : v = cy i.toNatClampNeg) (hx : x.toInt = 192 * a + i.toInt) (h0 : 0 ≤ i.toInt ∧ i.toInt < 192) (ha : 0 ≤ a) (h2 : i2 = i.toInt + 1) : imC kp cy a i2 kp2 := by
  have h3 : x.toNatClampNeg = x.toInt.toNat := rfl
  have h4 : i.toNatClampNeg = i.toInt.toNat := rfl
  rw [← e]
  refine ⟨fun j hj => ?_, fun j hj => ?_⟩
  · show (if 192 * a.toNat + j = x.toNatClampNeg then v else kp1 (192 * a.toNat + j)) = cy j
    split
    · rw [hv]; exact congrArg cy (by omega)
    · exact h.1 j (by omega)
  · show (if j = x.toNatClampNeg then v else kp1 j) = kp j
    rw [if_neg (by omega)]
    exact h.2 j hj
def reC (kp : Nat → Int32) (a i : Int) (cy1 : Nat → Int32) : Prop := ∀ j : Nat, (j : Int) < i → cy1 j = kp (192 * a.toNat + j)
theorem reC_0 {kp cy : Nat → Int32} {a i : Int} (h : i ≤ 0) : reC kp a i cy := fun j hj => absurd hj (by omega)
theorem reC_sub {kp cy : Nat → Int32} {a i n : Int} (h : reC kp a i cy) (hn : n ≤ i) : reC kp a n cy := fun j hj => h j (by omega)
theorem reC_st {kp cy1 cy2 : Nat → Int32} {a i2 : Int} {x v i : Int32} (h : reC kp a i.toInt cy1) (e : upd cy1 i.toNatClampNeg v = cy2) (hv : v = kp x.toNatClampNeg) (hx : x.toInt = 192 * a + i.toInt) (h0 : 0 ≤ i.toInt) (ha : 0 ≤ a) (h2 : i2 = i.toInt + 1) : reC kp a i2 cy2 := by
  have h3 : x.toNatClampNeg = x.toInt.toNat := rfl
  have h4 : i.toNatClampNeg = i.toInt.toNat := rfl
  intro j hj
  rw [← e]
  show (if j = i.toNatClampNeg then v else cy1 j) = _
  split
  · rw [hv]; exact congrArg kp (by omega)
  · exact h j (by omega)
def pwC (cy : Nat → Int32) (i : Int) (pw : Nat → Int32) : Prop := ∀ o : Nat, (o : Int) < i → pw o = cy (84 + o)
theorem pwC_0 {cy pw : Nat → Int32} {i : Int} (h : i ≤ 0) : pwC cy i pw := fun o ho => absurd ho (by omega)
theorem pwC_sub {cy pw : Nat → Int32} {i n : Int} (h : pwC cy i pw) (hn : n ≤ i) : pwC cy n pw := fun o ho => h o (by omega)
theorem pwC_st {cy pw pw2 : Nat → Int32} {i2 : Int} {i x v : Int32} (h : pwC cy i.toInt pw) (e : upd pw i.toNatClampNeg v = pw2) (hv : v = cy x.toNatClampNeg) (hx : x.toInt = 84 + i.toInt) (h0 : 0 ≤ i.toInt) (h2 : i2 = i.toInt + 1) : pwC cy i2 pw2 := by
  have h3 : x.toNatClampNeg = x.toInt.toNat := rfl
  have h4 : i.toNatClampNeg = i.toInt.toNat := rfl
  intro o ho
  rw [← e]
  show (if o = i.toNatClampNeg then v else pw o) = _
  split
  · rw [hv]; exact congrArg cy (by omega)
  · exact h o (by omega)
theorem pwC_at {cy pw : Nat → Int32} {i x v : Int32} (h : pwC cy 6 pw) (e : v = pw i.toNatClampNeg) (hi : 0 ≤ i.toInt ∧ i.toInt < 6) (hx : x.toInt = 84 + i.toInt) : v = cy x.toNatClampNeg := by
  have h3 : x.toNatClampNeg = x.toInt.toNat := rfl
  have h4 : i.toNatClampNeg = i.toInt.toNat := rfl
  rw [e, h i.toNatClampNeg (by omega)]
  exact congrArg cy (by omega)
def gOK (g : Nat → Int) : Prop := (0 ≤ g 0 ∧ g 0 ≤ 10) ∧ (0 ≤ g 1 ∧ g 1 ≤ 8) ∧ (0 ≤ g 3 ∧ g 3 ≤ 6) ∧ ∀ c : Nat, c < 80 → insG g c → -3 ≤ g (4 + c) ∧ g (4 + c) ≤ 5
def stPrice (th : Int32) (g : Nat → Int) (a v r : Int32) (g2 : Nat → Int) : Prop := (th.toInt = 0 ∧ r = -1000002 ∧ g2 = g) ∨ ((¬ th.toInt = 0 ∧ ¬ (0 ≤ a.toInt ∧ a.toInt < 6 ∧ 0 ≤ v.toInt ∧ v.toInt ≤ 99)) ∧ r = -1000001 ∧ g2 = g) ∨ ((¬ th.toInt = 0 ∧ 0 ≤ a.toInt ∧ a.toInt < 6 ∧ 0 ≤ v.toInt ∧ v.toInt ≤ 99) ∧ r.toInt = g (84 + a.toInt.toNat) ∧ g2 = updI g (84 + a.toInt) v.toInt)
theorem stPrice_eq {th a v r q : Int32} {g g2 g3 : Nat → Int} (h : stPrice th g a v r g2) (k : stPrice th g a v q g3) : r = q ∧ g2 = g3 := by
  rcases h with ⟨h1, h2, h3⟩ | ⟨h1, h2, h3⟩ | ⟨h1, h2, h3⟩ <;> rcases k with ⟨k1, k2, k3⟩ | ⟨k1, k2, k3⟩ | ⟨k1, k2, k3⟩ <;> first | exact ⟨h2.trans k2.symm, h3.trans k3.symm⟩ | (exfalso; omega) | exact ⟨Int32.toInt_inj.mp (h2.trans k2.symm), h3.trans k3.symm⟩
def insK (g : Nat → Int) (k : Int) : Prop := 0 ≤ k ∧ k % 10 < g 0 ∧ k / 10 < g 1
def stKind (g : Nat → Int) (k r : Int32) : Prop := (¬ insK g k.toInt ∧ r = -1000001) ∨ (insK g k.toInt ∧ r.toInt = kdT g k.toInt.toNat)
theorem stKind_eq {g : Nat → Int} {k r q : Int32} (h : stKind g k r) (z : stKind g k q) : r = q := by
  rcases h with ⟨h1, h2⟩ | ⟨h1, h2⟩ <;> rcases z with ⟨k1, k2⟩ | ⟨k1, k2⟩
  · exact h2.trans k2.symm
  · exact absurd k1 h1
  · exact absurd h1 k1
  · exact Int32.toInt_inj.mp (h2.trans k2.symm)
def stAs (g : Nat → Int) (k kd r : Int32) : Prop := (¬ (insK g k.toInt ∧ 0 ≤ kd.toInt ∧ kd.toInt < 6) ∧ r = -1000001) ∨ ((insK g k.toInt ∧ 0 ≤ kd.toInt ∧ kd.toInt < 6) ∧ ((¬ isP (kdT g k.toInt.toNat) kd.toInt ∧ r = -1000013) ∨ (isP (kdT g k.toInt.toNat) kd.toInt ∧ r = k)))
theorem stAs_eq {g : Nat → Int} {k kd r q : Int32} (h : stAs g k kd r) (z : stAs g k kd q) : r = q := by
  rcases h with ⟨h1, h2⟩ | ⟨h1, h2⟩ <;> rcases z with ⟨k1, k2⟩ | ⟨k1, k2⟩
  · exact h2.trans k2.symm
  · exact absurd k1 h1
  · exact absurd h1 k1
  · rcases h2 with ⟨h2, h3⟩ | ⟨h2, h3⟩ <;> rcases k2 with ⟨k2, k3⟩ | ⟨k2, k3⟩
    · exact h3.trans k3.symm
    · exact absurd k2 h2
    · exact absurd h2 k2
    · exact h3.trans k3.symm
def stCount (ln : Nat → Int32) (tz : Int32) (g : Nat → Int) (a r : Int32) : Prop := (a.toInt = 0 ∧ r.toInt = cnA (fun j : Nat => ¬ (ln j).toInt = -1) 8) ∨ (a.toInt = 1 ∧ r.toInt = g 0) ∨ (a.toInt = 2 ∧ r.toInt = g 1) ∨ (a.toInt = 3 ∧ r.toInt = g 3) ∨ (a.toInt = 4 ∧ r.toInt = cnA (frG g) 80) ∨ (a.toInt = 5 ∧ r.toInt = cnA (mrG g) 80) ∨ (a.toInt = 6 ∧ r.toInt = tz.toInt) ∨ ((a.toInt < 0 ∨ 6 < a.toInt) ∧ r.toInt = -1000001)
theorem stCount_eq {ln : Nat → Int32} {tz a r q : Int32} {g : Nat → Int} (h : stCount ln tz g a r) (k : stCount ln tz g a q) : r = q := by
  apply Int32.toInt_inj.mp
  rcases h with ⟨h1, h2⟩ | ⟨h1, h2⟩ | ⟨h1, h2⟩ | ⟨h1, h2⟩ | ⟨h1, h2⟩ | ⟨h1, h2⟩ | ⟨h1, h2⟩ | ⟨h1, h2⟩ <;> rcases k with ⟨k1, k2⟩ | ⟨k1, k2⟩ | ⟨k1, k2⟩ | ⟨k1, k2⟩ | ⟨k1, k2⟩ | ⟨k1, k2⟩ | ⟨k1, k2⟩ | ⟨k1, k2⟩ <;> first | exact h2.trans k2.symm | (exfalso; omega)
theorem stCount_x {l8 : List Int32} {ln : Nat → Int32} {tz cw ch cp a r : Int32} {g : Nat → Int} {fc fp ff fh fm : Nat → Int32} (hg : CXs g cw ch cp fc fp ff fh fm) (hl : ∀ j : Nat, j < 8 → l8.getD j 0 = ln j) (h : (a.toInt = 0 ∧ r.toInt = cnA (fun j : Nat => ¬ (l8.getD j 0).toInt = -1) 8) ∨ (a.toInt = 1 ∧ r = cw) ∨ (a.toInt = 2 ∧ r = ch) ∨ (a.toInt = 3 ∧ r = cp) ∨ (a.toInt = 4 ∧ r.toInt = cnA (frX cw.toInt ch.toInt fc) 80) ∨ (a.toInt = 5 ∧ r.toInt = cnA (mrX cw.toInt ch.toInt fc) 80) ∨ (a.toInt = 6 ∧ r = tz) ∨ ((a.toInt < 0 ∨ 6 < a.toInt) ∧ r = -1000001)) : stCount ln tz g a r := by
  have e := frX_G hg
  rcases h with ⟨h1, h2⟩ | ⟨h1, h2⟩ | ⟨h1, h2⟩ | ⟨h1, h2⟩ | ⟨h1, h2⟩ | ⟨h1, h2⟩ | ⟨h1, h2⟩ | ⟨h1, h2⟩
  · exact Or.inl ⟨h1, h2.trans (cnA_cg 8 (fun c hc => by rw [hl c hc]))⟩
  · exact Or.inr (Or.inl ⟨h1, by rw [h2]; exact hg.1⟩)
  · exact Or.inr (Or.inr (Or.inl ⟨h1, by rw [h2]; exact hg.2.1⟩))
  · exact Or.inr (Or.inr (Or.inr (Or.inl ⟨h1, by rw [h2]; exact hg.2.2.1⟩)))
  · exact Or.inr (Or.inr (Or.inr (Or.inr (Or.inl ⟨h1, h2.trans e.1⟩))))
  · exact Or.inr (Or.inr (Or.inr (Or.inr (Or.inr (Or.inl ⟨h1, h2.trans e.2⟩)))))
  · exact Or.inr (Or.inr (Or.inr (Or.inr (Or.inr (Or.inr (Or.inl ⟨h1, by rw [h2]⟩))))))
  · exact Or.inr (Or.inr (Or.inr (Or.inr (Or.inr (Or.inr (Or.inr ⟨h1, by rw [h2]; rfl⟩))))))
theorem stCount_y {la ln : Nat → Int32} {tz a r : Int32} {g : Nat → Int} {cy : Nat → Int32} (hg : CYs g cy) (hl : ∀ j : Nat, j < 8 → la j = ln j) (hr : ∀ j : Nat, j < 8 → -1 ≤ (ln j).toInt) (h : (a.toInt = 0 ∧ r.toInt = cnA (fun j : Nat => 0 ≤ (la j).toInt) 8) ∨ (a.toInt = 1 ∧ r = cy 0) ∨ (a.toInt = 2 ∧ r = cy 1) ∨ (a.toInt = 3 ∧ r = cy 3) ∨ (a.toInt = 4 ∧ r.toInt = cnA (frY cy) 80) ∨ (a.toInt = 5 ∧ r.toInt = cnA (mrY cy) 80) ∨ (a.toInt = 6 ∧ r = tz) ∨ ((a.toInt < 0 ∨ 6 < a.toInt) ∧ r = -1000001)) : stCount ln tz g a r := by
  have e := frY_G hg
  rcases h with ⟨h1, h2⟩ | ⟨h1, h2⟩ | ⟨h1, h2⟩ | ⟨h1, h2⟩ | ⟨h1, h2⟩ | ⟨h1, h2⟩ | ⟨h1, h2⟩ | ⟨h1, h2⟩
  · exact Or.inl ⟨h1, h2.trans (cnA_cg 8 (fun c hc => by rw [hl c hc]; have z := hr c hc; omega))⟩
  · exact Or.inr (Or.inl ⟨h1, by rw [h2]; exact hg.1 0 (by omega)⟩)
  · exact Or.inr (Or.inr (Or.inl ⟨h1, by rw [h2]; exact hg.1 1 (by omega)⟩))
  · exact Or.inr (Or.inr (Or.inr (Or.inl ⟨h1, by rw [h2]; exact hg.1 3 (by omega)⟩)))
  · exact Or.inr (Or.inr (Or.inr (Or.inr (Or.inl ⟨h1, h2.trans e.1⟩))))
  · exact Or.inr (Or.inr (Or.inr (Or.inr (Or.inr (Or.inl ⟨h1, h2.trans e.2⟩)))))
  · exact Or.inr (Or.inr (Or.inr (Or.inr (Or.inr (Or.inr (Or.inl ⟨h1, by rw [h2]⟩))))))
  · exact Or.inr (Or.inr (Or.inr (Or.inr (Or.inr (Or.inr (Or.inr ⟨h1, by rw [h2]; rfl⟩))))))
theorem insX {g : Nat → Int} {cw ch cp k : Int32} {fc fp ff fh fm : Nat → Int32} (hg : CXs g cw ch cp fc fp ff fh fm) : (0 ≤ k.toInt ∧ k.toInt % 10 < cw.toInt ∧ k.toInt / 10 < ch.toInt) ↔ insK g k.toInt := by
  unfold insK
  rw [hg.1, hg.2.1]
theorem insY {g : Nat → Int} {cy : Nat → Int32} {k : Int32} (hg : CYs g cy) (go : gOK g) : (0 ≤ k.toInt ∧ k.toInt < 80 ∧ k.toInt % 10 < (cy 0).toInt ∧ k.toInt / 10 < (cy 1).toInt) ↔ insK g k.toInt := by
  have e0 := hg.1 0 (by omega)
  have e1 := hg.1 1 (by omega)
  have h := go.2.1
  unfold insK
  rw [e0, e1]
  omega
theorem kdX_g {g : Nat → Int} {cw ch cp k : Int32} {q : Int} {fc fp ff fh fm : Nat → Int32} (hg : CXs g cw ch cp fc fp ff fh fm) (go : gOK g) (hi : 0 ≤ k.toInt ∧ k.toInt % 10 < cw.toInt ∧ k.toInt / 10 < ch.toInt) (hr : ∀ c : Nat, c < 80 → -1 ≤ (fc c).toInt ∧ (fc c).toInt ≤ 8) (h : kdX cw.toInt ch.toInt fc fp k.toInt q) : q = kdT g k.toInt.toNat := by
  have g0 := go.1
  have g1 := go.2.1
  have e0 := hg.1
  have e1 := hg.2.1
  have hin : insG g k.toInt.toNat := by unfold insG; omega
  have e := hg.2.2.2.1 k.toInt.toNat (by omega) hin
  have z := go.2.2.2 k.toInt.toNat (by omega) hin
  exact kdX_T hg hi (by omega) (by omega) hr h (by omega)
theorem kdY_g {g : Nat → Int} {cy : Nat → Int32} {k : Int32} {q : Int} (hg : CYs g cy) (go : gOK g) (hi : 0 ≤ k.toInt ∧ k.toInt < 80 ∧ k.toInt % 10 < (cy 0).toInt ∧ k.toInt / 10 < (cy 1).toInt) (h : kdY cy k.toInt q) : q = kdT g k.toInt.toNat := by
  have e0 := hg.1 0 (by omega)
  have e1 := hg.1 1 (by omega)
  have hin : insG g k.toInt.toNat := by unfold insG; omega
  have e := hg.2.1 k.toInt.toNat (by omega) hin
  have z := go.2.2.2 k.toInt.toNat (by omega) hin
  exact kdY_T hg hi (by omega) h
-- neighbours
def eE (w : Int) : Int := if w = 0 ∨ w = 4 then 0 else if w < 4 then 1 else -1
def eS (w : Int) : Int := if w = 2 ∨ w = 6 then 0 else if 2 < w ∧ w < 6 then 1 else -1
def nbT (w h c y : Int) : Int := if 0 ≤ c % 10 + eE y ∧ c % 10 + eE y < w ∧ 0 ≤ c / 10 + eS y ∧ c / 10 + eS y < h then c % 10 + eE y + 10 * (c / 10 + eS y) else -1
theorem nbT_y {w h c y a b r : Int} (ha : a = c % 10 + eE y) (hb : b = c / 10 + eS y) (h1 : 0 ≤ a ∧ a < w ∧ 0 ≤ b ∧ b < h) (hr : r = a + 10 * b) : r = nbT w h c y := by
  unfold nbT
  rw [if_pos (by omega)]
  omega
theorem nbT_n {w h c y a b r : Int} (ha : a = c % 10 + eE y) (hb : b = c / 10 + eS y) (h1 : ¬ (0 ≤ a ∧ a < w ∧ 0 ≤ b ∧ b < h)) (hr : r = -1) : r = nbT w h c y := by
  unfold nbT
  rw [if_neg (by omega)]
  exact hr
theorem nbT_in {w h c y : Int} (hw : w ≤ 10) (h0 : 0 ≤ nbT w h c y) : 0 ≤ nbT w h c y ∧ nbT w h c y % 10 < w ∧ nbT w h c y / 10 < h := by
  unfold nbT at h0 ⊢
  split at h0
  · next q =>
    rw [if_pos q]
    omega
  · omega
def obX (cw ch : Int) (fc : Nat → Int32) (k : Int) (w : Nat) : Prop := 0 ≤ nbT cw ch k w ∧ (fc (nbT cw ch k w).toNat).toInt = 0
def obY (cy : Nat → Int32) (k : Int) (w : Nat) : Prop := 0 ≤ nbT (cy 0).toInt (cy 1).toInt k w ∧ (cy (4 + (nbT (cy 0).toInt (cy 1).toInt k w).toNat)).toInt = -3
def obG (g : Nat → Int) (k : Int) (w : Nat) : Prop := 0 ≤ nbT (g 0) (g 1) k w ∧ g (4 + (nbT (g 0) (g 1) k w).toNat) = -3
theorem obX_G {g : Nat → Int} {cw ch cp : Int32} {fc fp ff fh fm : Nat → Int32} (hg : CXs g cw ch cp fc fp ff fh fm) (go : gOK g) (k : Int) : cnA (obX cw.toInt ch.toInt fc k) 8 = cnA (obG g k) 8 := by
  refine cnA_cg 8 (fun w _ => ?_)
  unfold obX obG
  rw [hg.1, hg.2.1]
  have g0 := go.1
  have g1 := go.2.1
  constructor
  · intro z
    have y := nbT_in g0.2 z.1
    have e := hg.2.2.2.1 (nbT (g 0) (g 1) k w).toNat (by omega) (by unfold insG; omega)
    exact ⟨z.1, by omega⟩
  · intro z
    have y := nbT_in g0.2 z.1
    have e := hg.2.2.2.1 (nbT (g 0) (g 1) k w).toNat (by omega) (by unfold insG; omega)
    exact ⟨z.1, by omega⟩
theorem obY_G {g : Nat → Int} {cy : Nat → Int32} (hg : CYs g cy) (go : gOK g) (k : Int) : cnA (obY cy k) 8 = cnA (obG g k) 8 := by
  have e0 := hg.1 0 (by omega)
  have e1 := hg.1 1 (by omega)
  refine cnA_cg 8 (fun w _ => ?_)
  unfold obY obG
  rw [e0, e1]
  have g0 := go.1
  have g1 := go.2.1
  constructor
  · intro z
    have y := nbT_in g0.2 z.1
    have e := hg.2.1 (nbT (g 0) (g 1) k w).toNat (by omega) (by unfold insG; omega)
    exact ⟨z.1, by omega⟩
  · intro z
    have y := nbT_in g0.2 z.1
    have e := hg.2.1 (nbT (g 0) (g 1) k w).toNat (by omega) (by unfold insG; omega)
    exact ⟨z.1, by omega⟩
-- asked: what is answered, and the bodies that begin
def ap (p : Int32 × (Nat → Int32)) (b : Int32) : Int32 × (Nat → Int32) := if p.1.toInt < 16 then (p.1 + 1, upd p.2 p.1.toNatClampNeg b) else p
def bgV (ob c pr sz mk : Int32) : Nat → Int32 → Int32
  | 0, _ => 0
  | f + 1, b => if b.toInt = 10 then ob else if b.toInt = 11 then -(bgV ob c pr sz mk f 10) else if b.toInt = 12 then bgV ob c pr sz mk f 11 + bgV ob c pr sz mk f mk else if b.toInt = 13 then 2 * bgV ob c pr sz mk f 12 else if b.toInt = 14 then bgV ob c pr sz mk f 10 - bgV ob c pr sz mk f mk else if b.toInt = 20 then c else if b.toInt = 21 then bgV ob c pr sz mk f 20 + 100 * pr else if b.toInt = 22 then bgV ob c pr sz mk f 20 + bgV ob c pr sz mk f sz else if b.toInt = 23 then bgV ob c pr sz mk f 21 - 1000 else 0
def bgT (sz mk : Int32) : Nat → Int32 → Int32 × (Nat → Int32) → Int32 × (Nat → Int32)
  | 0, _, p => p
  | f + 1, b, p => if b.toInt = 11 then bgT sz mk f 10 (ap p b) else if b.toInt = 12 then bgT sz mk f mk (bgT sz mk f 11 (ap p b)) else if b.toInt = 13 then bgT sz mk f 12 (ap p b) else if b.toInt = 14 then bgT sz mk f mk (bgT sz mk f 10 (ap p b)) else if b.toInt = 21 then bgT sz mk f 20 (ap p b) else if b.toInt = 22 then bgT sz mk f sz (bgT sz mk f 20 (ap p b)) else if b.toInt = 23 then bgT sz mk f 21 (ap p b) else ap p b
def szB (kd : Int) : Int32 := if kd = 1 then 14 else if kd = 3 then 12 else if kd = 5 then 13 else 11
def mkB (kd : Int) : Int32 := if kd = 3 then 21 else if kd = 4 then 22 else if kd = 5 then 23 else 20
theorem bgV_sz {ob c pr : Int32} : bgV ob c pr 14 20 21 14 = ob - c ∧ bgV ob c pr 11 20 21 11 = -ob ∧ bgV ob c pr 11 22 21 11 = -ob ∧ bgV ob c pr 12 21 21 12 = -ob + (c + 100 * pr) ∧ bgV ob c pr 13 23 21 13 = 2 * (-ob + (c + 100 * pr - 1000)) := ⟨rfl, rfl, rfl, rfl, rfl⟩
theorem bgV_mk {ob c pr : Int32} : bgV ob c pr 14 20 21 20 = c ∧ bgV ob c pr 11 20 21 20 = c ∧ bgV ob c pr 11 22 21 22 = c + -ob ∧ bgV ob c pr 12 21 21 21 = c + 100 * pr ∧ bgV ob c pr 13 23 21 23 = c + 100 * pr - 1000 := ⟨rfl, rfl, rfl, rfl, rfl⟩
theorem bgV_10 {ob c pr sz mk b : Int32} {f : Nat} (h : b.toInt = 10) : bgV ob c pr sz mk (f + 1) b = ob := by
  show (if b.toInt = 10 then _ else _) = _
  rw [if_pos h]
theorem bgV_11 {ob c pr sz mk b : Int32} {f : Nat} (h : b.toInt = 11) : bgV ob c pr sz mk (f + 1) b = -(bgV ob c pr sz mk f 10) := by
  show (if b.toInt = 10 then _ else _) = _
  rw [if_neg (by omega), if_pos h]
theorem bgV_12 {ob c pr sz mk b : Int32} {f : Nat} (h : b.toInt = 12) : bgV ob c pr sz mk (f + 1) b = bgV ob c pr sz mk f 11 + bgV ob c pr sz mk f mk := by
  show (if b.toInt = 10 then _ else _) = _
  rw [if_neg (by omega), if_neg (by omega), if_pos h]
theorem bgV_13 {ob c pr sz mk b : Int32} {f : Nat} (h : b.toInt = 13) : bgV ob c pr sz mk (f + 1) b = 2 * bgV ob c pr sz mk f 12 := by
  show (if b.toInt = 10 then _ else _) = _
  rw [if_neg (by omega), if_neg (by omega), if_neg (by omega), if_pos h]
theorem bgV_14 {ob c pr sz mk b : Int32} {f : Nat} (h : b.toInt = 14) : bgV ob c pr sz mk (f + 1) b = bgV ob c pr sz mk f 10 - bgV ob c pr sz mk f mk := by
  show (if b.toInt = 10 then _ else _) = _
  rw [if_neg (by omega), if_neg (by omega), if_neg (by omega), if_neg (by omega), if_pos h]
theorem bgV_20 {ob c pr sz mk b : Int32} {f : Nat} (h : b.toInt = 20) : bgV ob c pr sz mk (f + 1) b = c := by
  show (if b.toInt = 10 then _ else _) = _
  rw [if_neg (by omega), if_neg (by omega), if_neg (by omega), if_neg (by omega), if_neg (by omega), if_pos h]
theorem bgV_21 {ob c pr sz mk b : Int32} {f : Nat} (h : b.toInt = 21) : bgV ob c pr sz mk (f + 1) b = bgV ob c pr sz mk f 20 + 100 * pr := by
  show (if b.toInt = 10 then _ else _) = _
  rw [if_neg (by omega), if_neg (by omega), if_neg (by omega), if_neg (by omega), if_neg (by omega), if_neg (by omega), if_pos h]
theorem bgV_22 {ob c pr sz mk b : Int32} {f : Nat} (h : b.toInt = 22) : bgV ob c pr sz mk (f + 1) b = bgV ob c pr sz mk f 20 + bgV ob c pr sz mk f sz := by
  show (if b.toInt = 10 then _ else _) = _
  rw [if_neg (by omega), if_neg (by omega), if_neg (by omega), if_neg (by omega), if_neg (by omega), if_neg (by omega), if_neg (by omega), if_pos h]
theorem bgV_23 {ob c pr sz mk b : Int32} {f : Nat} (h : b.toInt = 23) : bgV ob c pr sz mk (f + 1) b = bgV ob c pr sz mk f 21 - 1000 := by
  show (if b.toInt = 10 then _ else _) = _
  rw [if_neg (by omega), if_neg (by omega), if_neg (by omega), if_neg (by omega), if_neg (by omega), if_neg (by omega), if_neg (by omega), if_neg (by omega), if_pos h]
theorem bgV_x {ob c pr sz mk b : Int32} {f : Nat} (h : b.toInt < 10 ∨ 23 < b.toInt ∨ (14 < b.toInt ∧ b.toInt < 20)) : bgV ob c pr sz mk (f + 1) b = 0 := by
  show (if b.toInt = 10 then _ else _) = _
  rw [if_neg (by omega), if_neg (by omega), if_neg (by omega), if_neg (by omega), if_neg (by omega), if_neg (by omega), if_neg (by omega), if_neg (by omega), if_neg (by omega)]
theorem bgT_10 {sz mk b : Int32} {f : Nat} {p : Int32 × (Nat → Int32)} (h : b.toInt = 10) : bgT sz mk (f + 1) b p = (ap p b) := by
  show (if b.toInt = 11 then _ else _) = _
  rw [if_neg (by omega), if_neg (by omega), if_neg (by omega), if_neg (by omega), if_neg (by omega), if_neg (by omega), if_neg (by omega)]
theorem bgT_11 {sz mk b : Int32} {f : Nat} {p : Int32 × (Nat → Int32)} (h : b.toInt = 11) : bgT sz mk (f + 1) b p = bgT sz mk f 10 (ap p b) := by
  show (if b.toInt = 11 then _ else _) = _
  rw [if_pos h]
theorem bgT_12 {sz mk b : Int32} {f : Nat} {p : Int32 × (Nat → Int32)} (h : b.toInt = 12) : bgT sz mk (f + 1) b p = bgT sz mk f mk (bgT sz mk f 11 (ap p b)) := by
  show (if b.toInt = 11 then _ else _) = _
  rw [if_neg (by omega), if_pos h]
theorem bgT_13 {sz mk b : Int32} {f : Nat} {p : Int32 × (Nat → Int32)} (h : b.toInt = 13) : bgT sz mk (f + 1) b p = bgT sz mk f 12 (ap p b) := by
  show (if b.toInt = 11 then _ else _) = _
  rw [if_neg (by omega), if_neg (by omega), if_pos h]
theorem bgT_14 {sz mk b : Int32} {f : Nat} {p : Int32 × (Nat → Int32)} (h : b.toInt = 14) : bgT sz mk (f + 1) b p = bgT sz mk f mk (bgT sz mk f 10 (ap p b)) := by
  show (if b.toInt = 11 then _ else _) = _
  rw [if_neg (by omega), if_neg (by omega), if_neg (by omega), if_pos h]
theorem bgT_20 {sz mk b : Int32} {f : Nat} {p : Int32 × (Nat → Int32)} (h : b.toInt = 20) : bgT sz mk (f + 1) b p = (ap p b) := by
  show (if b.toInt = 11 then _ else _) = _
  rw [if_neg (by omega), if_neg (by omega), if_neg (by omega), if_neg (by omega), if_neg (by omega), if_neg (by omega), if_neg (by omega)]
theorem bgT_21 {sz mk b : Int32} {f : Nat} {p : Int32 × (Nat → Int32)} (h : b.toInt = 21) : bgT sz mk (f + 1) b p = bgT sz mk f 20 (ap p b) := by
  show (if b.toInt = 11 then _ else _) = _
  rw [if_neg (by omega), if_neg (by omega), if_neg (by omega), if_neg (by omega), if_pos h]
theorem bgT_22 {sz mk b : Int32} {f : Nat} {p : Int32 × (Nat → Int32)} (h : b.toInt = 22) : bgT sz mk (f + 1) b p = bgT sz mk f sz (bgT sz mk f 20 (ap p b)) := by
  show (if b.toInt = 11 then _ else _) = _
  rw [if_neg (by omega), if_neg (by omega), if_neg (by omega), if_neg (by omega), if_neg (by omega), if_pos h]
theorem bgT_23 {sz mk b : Int32} {f : Nat} {p : Int32 × (Nat → Int32)} (h : b.toInt = 23) : bgT sz mk (f + 1) b p = bgT sz mk f 21 (ap p b) := by
  show (if b.toInt = 11 then _ else _) = _
  rw [if_neg (by omega), if_neg (by omega), if_neg (by omega), if_neg (by omega), if_neg (by omega), if_neg (by omega), if_pos h]
theorem bgT_x {sz mk b : Int32} {f : Nat} {p : Int32 × (Nat → Int32)} (h : b.toInt < 10 ∨ 23 < b.toInt ∨ (14 < b.toInt ∧ b.toInt < 20)) : bgT sz mk (f + 1) b p = ap p b := by
  show (if b.toInt = 11 then _ else _) = _
  rw [if_neg (by omega), if_neg (by omega), if_neg (by omega), if_neg (by omega), if_neg (by omega), if_neg (by omega), if_neg (by omega)]
theorem bgT_sz1 {p : Int32 × (Nat → Int32)} : bgT 14 20 21 14 p = (ap (ap (ap p 14) 10) 20) := by
  rw [bgT_14 (b := 14) rfl, bgT_10 (b := 10) rfl, bgT_20 (b := 20) rfl]
theorem bgT_sz2 {p : Int32 × (Nat → Int32)} : bgT 11 20 21 11 p = (ap (ap p 11) 10) := by
  rw [bgT_11 (b := 11) rfl, bgT_10 (b := 10) rfl]
theorem bgT_sz3 {p : Int32 × (Nat → Int32)} : bgT 11 22 21 11 p = (ap (ap p 11) 10) := by
  rw [bgT_11 (b := 11) rfl, bgT_10 (b := 10) rfl]
theorem bgT_sz4 {p : Int32 × (Nat → Int32)} : bgT 12 21 21 12 p = (ap (ap (ap (ap (ap p 12) 11) 10) 21) 20) := by
  rw [bgT_12 (b := 12) rfl, bgT_11 (b := 11) rfl, bgT_10 (b := 10) rfl, bgT_21 (b := 21) rfl, bgT_20 (b := 20) rfl]
theorem bgT_sz5 {p : Int32 × (Nat → Int32)} : bgT 13 23 21 13 p = (ap (ap (ap (ap (ap (ap (ap p 13) 12) 11) 10) 23) 21) 20) := by
  rw [bgT_13 (b := 13) rfl, bgT_12 (b := 12) rfl, bgT_11 (b := 11) rfl, bgT_10 (b := 10) rfl, bgT_23 (b := 23) rfl, bgT_21 (b := 21) rfl, bgT_20 (b := 20) rfl]
theorem bgT_mk1 {p : Int32 × (Nat → Int32)} : bgT 14 20 21 20 p = (ap p 20) := by
  rw [bgT_20 (b := 20) rfl]
theorem bgT_mk2 {p : Int32 × (Nat → Int32)} : bgT 11 20 21 20 p = (ap p 20) := by
  rw [bgT_20 (b := 20) rfl]
theorem bgT_mk3 {p : Int32 × (Nat → Int32)} : bgT 11 22 21 22 p = (ap (ap (ap (ap p 22) 20) 11) 10) := by
  rw [bgT_22 (b := 22) rfl, bgT_20 (b := 20) rfl, bgT_11 (b := 11) rfl, bgT_10 (b := 10) rfl]
theorem bgT_mk4 {p : Int32 × (Nat → Int32)} : bgT 12 21 21 21 p = (ap (ap p 21) 20) := by
  rw [bgT_21 (b := 21) rfl, bgT_20 (b := 20) rfl]
theorem bgT_mk5 {p : Int32 × (Nat → Int32)} : bgT 13 23 21 23 p = (ap (ap (ap p 23) 21) 20) := by
  rw [bgT_23 (b := 23) rfl, bgT_21 (b := 21) rfl, bgT_20 (b := 20) rfl]
-- what is answered to an asking, by the cell's kind
def askV (kd : Int) (ob c pr : Int32) (wa : Int) : Int32 := if wa = 0 then (if kd = 1 then ob - c else if kd = 3 then -ob + (c + 100 * pr) else if kd = 5 then 2 * (-ob + (c + 100 * pr - 1000)) else -ob) else (if kd = 3 then c + 100 * pr else if kd = 5 then c + 100 * pr - 1000 else if kd = 4 then c + -ob else c)
def askT (kd wa : Int) (p : Int32 × (Nat → Int32)) : Int32 × (Nat → Int32) := if wa = 0 then (if kd = 1 then ap (ap (ap p 14) 10) 20 else if kd = 3 then ap (ap (ap (ap (ap p 12) 11) 10) 21) 20 else if kd = 5 then ap (ap (ap (ap (ap (ap (ap p 13) 12) 11) 10) 23) 21) 20 else ap (ap p 11) 10) else (if kd = 3 then ap (ap p 21) 20 else if kd = 5 then ap (ap (ap p 23) 21) 20 else if kd = 4 then ap (ap (ap (ap p 22) 20) 11) 10 else ap p 20)
theorem ask_x {kd wa : Int} {ob c pr : Int32} {p : Int32 × (Nat → Int32)} (hk : 1 ≤ kd ∧ kd ≤ 5) (hw : wa = 0 ∨ wa = 1) : bgV ob c pr (szB kd) (mkB kd) 21 (if wa = 0 then szB kd else mkB kd) = askV kd ob c pr wa ∧ bgT (szB kd) (mkB kd) 21 (if wa = 0 then szB kd else mkB kd) p = askT kd wa p := by
  have e1 : szB 1 = 14 ∧ mkB 1 = 20 := ⟨rfl, rfl⟩
  have e2 : szB 2 = 11 ∧ mkB 2 = 20 := ⟨rfl, rfl⟩
  have e3 : szB 3 = 12 ∧ mkB 3 = 21 := ⟨rfl, rfl⟩
  have e4 : szB 4 = 11 ∧ mkB 4 = 22 := ⟨rfl, rfl⟩
  have e5 : szB 5 = 13 ∧ mkB 5 = 23 := ⟨rfl, rfl⟩
  rcases (show kd = 1 ∨ kd = 2 ∨ kd = 3 ∨ kd = 4 ∨ kd = 5 by omega) with rfl | rfl | rfl | rfl | rfl <;> rcases hw with rfl | rfl
  · rw [e1.1, e1.2, if_pos rfl]
    refine ⟨?_, ?_⟩
    · unfold askV
      rw [if_pos rfl, if_pos rfl]
      exact bgV_sz.1
    · unfold askT
      rw [if_pos rfl, if_pos rfl]
      exact bgT_sz1
  · rw [e1.1, e1.2, if_neg (by decide)]
    refine ⟨?_, ?_⟩
    · unfold askV
      rw [if_neg (by decide), if_neg (by decide), if_neg (by decide), if_neg (by decide)]
      exact bgV_mk.1
    · unfold askT
      rw [if_neg (by decide), if_neg (by decide), if_neg (by decide), if_neg (by decide)]
      exact bgT_mk1
  · rw [e2.1, e2.2, if_pos rfl]
    refine ⟨?_, ?_⟩
    · unfold askV
      rw [if_pos rfl, if_neg (by decide), if_neg (by decide), if_neg (by decide)]
      exact bgV_sz.2.1
    · unfold askT
      rw [if_pos rfl, if_neg (by decide), if_neg (by decide), if_neg (by decide)]
      exact bgT_sz2
  · rw [e2.1, e2.2, if_neg (by decide)]
    refine ⟨?_, ?_⟩
    · unfold askV
      rw [if_neg (by decide), if_neg (by decide), if_neg (by decide), if_neg (by decide)]
      exact bgV_mk.2.1
    · unfold askT
      rw [if_neg (by decide), if_neg (by decide), if_neg (by decide), if_neg (by decide)]
      exact bgT_mk2
  · rw [e3.1, e3.2, if_pos rfl]
    refine ⟨?_, ?_⟩
    · unfold askV
      rw [if_pos rfl, if_neg (by decide), if_pos rfl]
      exact bgV_sz.2.2.2.1
    · unfold askT
      rw [if_pos rfl, if_neg (by decide), if_pos rfl]
      exact bgT_sz4
  · rw [e3.1, e3.2, if_neg (by decide)]
    refine ⟨?_, ?_⟩
    · unfold askV
      rw [if_neg (by decide), if_pos rfl]
      exact bgV_mk.2.2.2.1
    · unfold askT
      rw [if_neg (by decide), if_pos rfl]
      exact bgT_mk4
  · rw [e4.1, e4.2, if_pos rfl]
    refine ⟨?_, ?_⟩
    · unfold askV
      rw [if_pos rfl, if_neg (by decide), if_neg (by decide), if_neg (by decide)]
      exact bgV_sz.2.2.1
    · unfold askT
      rw [if_pos rfl, if_neg (by decide), if_neg (by decide), if_neg (by decide)]
      exact bgT_sz3
  · rw [e4.1, e4.2, if_neg (by decide)]
    refine ⟨?_, ?_⟩
    · unfold askV
      rw [if_neg (by decide), if_neg (by decide), if_neg (by decide), if_pos rfl]
      exact bgV_mk.2.2.1
    · unfold askT
      rw [if_neg (by decide), if_neg (by decide), if_neg (by decide), if_pos rfl]
      exact bgT_mk3
  · rw [e5.1, e5.2, if_pos rfl]
    refine ⟨?_, ?_⟩
    · unfold askV
      rw [if_pos rfl, if_neg (by decide), if_neg (by decide), if_pos rfl]
      exact bgV_sz.2.2.2.2
    · unfold askT
      rw [if_pos rfl, if_neg (by decide), if_neg (by decide), if_pos rfl]
      exact bgT_sz5
  · rw [e5.1, e5.2, if_neg (by decide)]
    refine ⟨?_, ?_⟩
    · unfold askV
      rw [if_neg (by decide), if_neg (by decide), if_pos rfl]
      exact bgV_mk.2.2.2.2
    · unfold askT
      rw [if_neg (by decide), if_neg (by decide), if_pos rfl]
      exact bgT_mk5
theorem cnA_n2 {P : Nat → Prop} {i i2 q q2 : Int} (h : q = cnA P i.toNat) (hp : ¬ P i.toNat) (h0 : 0 ≤ i) (h2 : i2 = i + 1) (hq : q2 = q) : q2 = cnA P i2.toNat := hq.trans (cnA_n h hp h0 h2)
theorem oby_y {k i r : Int} {cy : Nat → Int32} (hn : r = nbT (cy 0).toInt (cy 1).toInt k i) (h0 : 0 ≤ i) (hr : 0 ≤ r) (ho : (cy (4 + r.toNat)).toInt = -3) : obY cy k i.toNat := by
  unfold obY
  rw [show ((i.toNat : Nat) : Int) = i from by omega, ← hn]
  exact ⟨hr, ho⟩
theorem oby_n {k i r : Int} {cy : Nat → Int32} (hn : r = nbT (cy 0).toInt (cy 1).toInt k i) (h0 : 0 ≤ i) (ho : r < 0 ∨ ¬ (cy (4 + r.toNat)).toInt = -3) : ¬ obY cy k i.toNat := by
  unfold obY
  rw [show ((i.toNat : Nat) : Int) = i from by omega, ← hn]
  omega
def stAsk (g : Nat → Int) (k wa r : Int32) (p p2 : Int32 × (Nat → Int32)) : Prop := (¬ (insK g k.toInt ∧ 0 ≤ wa.toInt ∧ wa.toInt < 2) ∧ r = -1000001 ∧ p2 = p) ∨ ((insK g k.toInt ∧ 0 ≤ wa.toInt ∧ wa.toInt < 2) ∧ ∃ ob pr : Int32, ob.toInt = cnA (obG g k.toInt) 8 ∧ (0 ≤ g (4 + k.toInt.toNat) → pr.toInt = g (84 + (g (4 + k.toInt.toNat)).toNat)) ∧ r = askV (kdT g k.toInt.toNat) ob k pr wa.toInt ∧ p2 = askT (kdT g k.toInt.toNat) wa.toInt (0, p.2))
theorem askV_pr {kd wa : Int} {ob c pr qr : Int32} (h : (kd = 3 ∨ kd = 5) → pr = qr) : askV kd ob c pr wa = askV kd ob c qr wa := by
  unfold askV
  by_cases h3 : kd = 3
  · rw [h (Or.inl h3)]
  · by_cases h5 : kd = 5
    · rw [h (Or.inr h5)]
    · rw [if_neg h3, if_neg h5, if_neg h3, if_neg h5, if_neg h3, if_neg h5, if_neg h3, if_neg h5]
theorem kdT_35 {g : Nat → Int} {c : Nat} (h : kdT g c = 3 ∨ kdT g c = 5) (hr : -3 ≤ g (4 + c)) : 0 ≤ g (4 + c) := by
  unfold kdT at h
  split at h
  · omega
  · split at h
    · omega
    · split at h
      · omega
      · omega
theorem stAsk_eq {g : Nat → Int} {k wa r q : Int32} {p p2 p3 : Int32 × (Nat → Int32)} (go : gOK g) (h : stAsk g k wa r p p2) (z : stAsk g k wa q p p3) : r = q ∧ p2 = p3 := by
  rcases h with ⟨h1, h2, h3⟩ | ⟨h1, ob, pr, h2, h3, h4, h5⟩ <;> rcases z with ⟨k1, k2, k3⟩ | ⟨k1, ob', pr', k2, k3, k4, k5⟩
  · exact ⟨h2.trans k2.symm, h3.trans k3.symm⟩
  · exact absurd k1 h1
  · exact absurd h1 k1
  · have eo : ob = ob' := Int32.toInt_inj.mp (h2.trans k2.symm)
    subst eo
    refine ⟨?_, h5.trans k5.symm⟩
    rw [h4, k4]
    refine askV_pr (fun y => Int32.toInt_inj.mp ?_)
    have i := h1.1
    unfold insK at i
    have g0 := go.1
    have g1 := go.2.1
    have n := kdT_35 y (go.2.2.2 k.toInt.toNat (by omega) (by unfold insG; omega)).1
    exact (h3 n).trans (k3 n).symm
