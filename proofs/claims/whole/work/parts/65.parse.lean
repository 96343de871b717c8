/-! ===== the winds' text: what it says ===== -/
def adv (p : Int → Bool) : Nat → Int → Int
  | 0, i => i
  | k + 1, i => if p i = true then adv p k (i + 1) else i
def advL (p : Int → Bool) (L i : Int) : Int := adv p (L - i).toNat i
def isL (x : Int) : Bool := decide ((97 ≤ x ∧ x ≤ 122) ∨ (65 ≤ x ∧ x ≤ 90))
def isG (x : Int) : Bool := decide (48 ≤ x ∧ x ≤ 57)
def skF (f : Int → Int) (L i : Int) : Int := advL (fun j => decide (f j = 32)) L i
def tend (f : Int → Int) (L i : Int) : Int := if isL (f i) = true then advL (fun j => isL (f j)) L (i + 1) else if isG (f i) = true then advL (fun j => isG (f j)) L (i + 1) else i + 1
def wdB (f : Int → Int) (w : Nat) (i j : Int) : Bool := decide (j - i = (zLen.getD w 0 : Int)) && (List.range (zLen.getD w 0)).all (fun k => decide (f (i + (k : Int)) = ((zByt.getD w []).getD k 0).toInt))
def wv (f : Int → Int) (i j : Int) : Int := if wdB f 0 i j = true then 0 else if wdB f 1 i j = true then 1 else if wdB f 2 i j = true then 2 else if wdB f 3 i j = true then 3 else if wdB f 4 i j = true then 4 else -1
def nvK (f : Int → Int) : Nat → Int → Int → Int
  | 0, _, a => a
  | k + 1, i, a => nvK f k (i + 1) (min 1000 (a * 10 + f i - 48))
def nv (f : Int → Int) (i j : Int) : Int := nvK f (j - i).toNat i 0
/-- the fault of a token -/
def fo (f : Int → Int) (due i j cnt : Int) : Int := if due = 0 then (if wv f i j = -1 then 1 else if 20 ≤ cnt then 3 else 0) else if due = 1 then (if isG (f i) = true then (if 1 ≤ nv f i j ∧ nv f i j ≤ 60 then 0 else 2) else 1) else (if f i = 59 then 0 else 1)
abbrev Prs : Type := Int × Int × Int × (Int → Int) × (Int → Int)
def prE (L due cnt : Int) (wf df : Int → Int) : Prs := (if due = 0 then 0 else 1, if due = 0 then -1 else L, cnt, wf, df)
def prsT (f : Int → Int) (L : Int) : Nat → Int → Int → Int → Int → (Int → Int) → (Int → Int) → Prs
  | 0, _, due, _, cnt, wf, df => prE L due cnt wf df
  | k + 1, i, due, word, cnt, wf, df => if L ≤ i then prE L due cnt wf df else if fo f due i (tend f L i) cnt ≠ 0 then (fo f due i (tend f L i) cnt, i, cnt, wf, df) else if due = 0 then prsT f L k (skF f L (tend f L i)) 1 (wv f i (tend f L i)) cnt wf df else if due = 1 then prsT f L k (skF f L (tend f L i)) 2 word (cnt + 1) (ui wf cnt word) (ui df cnt (nv f i (tend f L i))) else prsT f L k (skF f L (tend f L i)) 0 word cnt wf df
def PR (f : Int → Int) (L i due word cnt : Int) (wf df : Int → Int) : Prs := prsT f L (L - i).toNat i due word cnt wf df
/-- what the whole text says -/
def PR0 (f : Int → Int) (L : Int) : Prs := PR f L (skF f L 0) 0 4 0 (fun _ => 0) (fun _ => 0)
theorem adv_le (p : Int → Bool) : ∀ (k : Nat) (i : Int), i ≤ adv p k i ∧ adv p k i ≤ i + (k : Int)
  | 0, i => by show i ≤ i ∧ i ≤ i + 0; omega
  | k + 1, i => by
    have ih := adv_le p k (i + 1)
    unfold adv
    split <;> omega
theorem advL_rg (p : Int → Bool) {L i : Int} (h : i ≤ L) : i ≤ advL p L i ∧ advL p L i ≤ L := by
  have := adv_le p (L - i).toNat i
  unfold advL
  omega
theorem advL_end (p : Int → Bool) {L i : Int} (h : L ≤ i) : advL p L i = i := by
  unfold advL
  rw [show (L - i).toNat = 0 by omega]; rfl
theorem advL_yes {p : Int → Bool} {L i : Int} (h : i < L) (hp : p i = true) : advL p L i = advL p L (i + 1) := by
  unfold advL
  rw [show (L - i).toNat = (L - (i + 1)).toNat + 1 by omega]
  show (if p i = true then _ else i) = _
  rw [if_pos hp]
theorem advL_no {p : Int → Bool} {L i : Int} (hp : p i = false) : advL p L i = i := by
  unfold advL
  cases (L - i).toNat with
  | zero => rfl
  | succ k => show (if p i = true then _ else i) = i; rw [hp]; rfl
theorem advL_all {p : Int → Bool} {L : Int} : ∀ (k : Nat) (i : Int), (L - i).toNat = k → ∀ j : Int, i ≤ j → j < advL p L i → p j = true := by
  intro k
  induction k with
  | zero => intro i hk j h1 h2; rw [advL_end p (by omega)] at h2; omega
  | succ k ih =>
    intro i hk j h1 h2
    cases hp : p i with
    | false => rw [advL_no hp] at h2; omega
    | true =>
      rw [advL_yes (by omega) hp] at h2
      by_cases e : j = i
      · rw [e]; exact hp
      · exact ih (i + 1) (by omega) j (by omega) h2
theorem skF_rg (f : Int → Int) {L i : Int} (h : i ≤ L) : i ≤ skF f L i ∧ skF f L i ≤ L := advL_rg _ h
theorem tend_rg (f : Int → Int) {L i : Int} (h : i < L) : i + 1 ≤ tend f L i ∧ tend f L i ≤ L := by
  unfold tend
  split
  · exact advL_rg _ (by omega)
  · split
    · exact advL_rg _ (by omega)
    · omega
theorem tend_dig {f : Int → Int} {L i : Int} (h : isG (f i) = true) : ∀ j : Int, i ≤ j → j < tend f L i → isG (f j) = true := by
  intro j h1 h2
  have hl : isL (f i) = false := by
    unfold isG at h; unfold isL
    rw [decide_eq_true_iff] at h
    rw [decide_eq_false_iff_not]
    omega
  unfold tend at h2
  rw [hl, if_neg (by decide), if_pos h] at h2
  by_cases e : j = i
  · rw [e]; exact h
  · exact advL_all (p := fun j => isG (f j)) _ (i + 1) rfl j (by omega) h2
theorem prsT_end {f : Int → Int} {L : Int} : ∀ (k : Nat) {i due word cnt : Int} {wf df : Int → Int}, L ≤ i → prsT f L k i due word cnt wf df = prE L due cnt wf df
  | 0, _, _, _, _, _, _, _ => rfl
  | k + 1, _, _, _, _, _, _, h => by unfold prsT; rw [if_pos h]
theorem prsT_more {f : Int → Int} {L : Int} : ∀ (k m : Nat) (i due word cnt : Int) (wf df : Int → Int), (L - i).toNat ≤ k → (L - i).toNat ≤ m → prsT f L k i due word cnt wf df = prsT f L m i due word cnt wf df := by
  intro k
  induction k with
  | zero =>
    intro m i due word cnt wf df h1 h2
    rw [prsT_end 0 (by omega), prsT_end m (by omega)]
  | succ k ih =>
    intro m i due word cnt wf df h1 h2
    by_cases hL : L ≤ i
    · rw [prsT_end _ hL, prsT_end _ hL]
    · obtain ⟨m, rfl⟩ : ∃ q, m = q + 1 := ⟨m - 1, by omega⟩
      have ht := tend_rg f (show i < L by omega)
      have hs := skF_rg f ht.2
      unfold prsT
      rw [if_neg hL, if_neg hL]
      split
      · rfl
      · split
        · exact ih _ _ _ _ _ _ _ (by omega) (by omega)
        · split
          · exact ih _ _ _ _ _ _ _ (by omega) (by omega)
          · exact ih _ _ _ _ _ _ _ (by omega) (by omega)
theorem PR_end {f : Int → Int} {L i due word cnt : Int} {wf df : Int → Int} (h : L ≤ i) : PR f L i due word cnt wf df = prE L due cnt wf df := prsT_end _ h
theorem PR_s {f : Int → Int} {L i due word cnt : Int} {wf df : Int → Int} (h : i < L) : PR f L i due word cnt wf df = if fo f due i (tend f L i) cnt ≠ 0 then (fo f due i (tend f L i) cnt, i, cnt, wf, df) else if due = 0 then PR f L (skF f L (tend f L i)) 1 (wv f i (tend f L i)) cnt wf df else if due = 1 then PR f L (skF f L (tend f L i)) 2 word (cnt + 1) (ui wf cnt word) (ui df cnt (nv f i (tend f L i))) else PR f L (skF f L (tend f L i)) 0 word cnt wf df := by
  have ht := tend_rg f h
  have hs := skF_rg f ht.2
  unfold PR
  rw [show (L - i).toNat = (L - i - 1).toNat + 1 by omega]
  show (if L ≤ i then _ else _) = _
  rw [if_neg (by omega)]
  split
  · rfl
  · split
    · exact prsT_more _ _ _ _ _ _ _ _ (by omega) (by omega)
    · split
      · exact prsT_more _ _ _ _ _ _ _ _ (by omega) (by omega)
      · exact prsT_more _ _ _ _ _ _ _ _ (by omega) (by omega)
theorem wv_rg (f : Int → Int) (i j : Int) : -1 ≤ wv f i j ∧ wv f i j ≤ 4 := by
  unfold wv
  split; omega
  split; omega
  split; omega
  split; omega
  split <;> omega
/-- a text without fault: its clauses are as told -/
def okC (cnt : Int) (wf df : Int → Int) : Prop := 0 ≤ cnt ∧ cnt ≤ 20 ∧ ∀ k : Int, 0 ≤ k → k < cnt → (0 ≤ wf k ∧ wf k ≤ 4) ∧ 1 ≤ df k ∧ df k ≤ 60
theorem PR_ok {f : Int → Int} {L : Int} : ∀ (m : Nat) (i due word cnt : Int) (wf df : Int → Int), (L - i).toNat = m → okC cnt wf df → (due = 1 → cnt < 20 ∧ 0 ≤ word ∧ word ≤ 4) → okC (PR f L i due word cnt wf df).2.2.1 (PR f L i due word cnt wf df).2.2.2.1 (PR f L i due word cnt wf df).2.2.2.2 := by
  intro m
  induction m using Nat.strongRecOn with
  | _ m ih =>
    intro i due word cnt wf df hm hok hdue
    by_cases hL : L ≤ i
    · rw [PR_end hL]; exact hok
    · have ht := tend_rg f (show i < L by omega)
      have hs := skF_rg f ht.2
      rw [PR_s (by omega)]
      split
      · exact hok
      · rename_i hf
        have hf : fo f due i (tend f L i) cnt = 0 := Classical.not_not.mp hf
        split
        · rename_i hd
          refine ih _ (by omega) _ _ _ _ _ _ rfl hok (fun _ => ?_)
          unfold fo at hf
          rw [if_pos hd] at hf
          have := wv_rg f i (tend f L i)
          split at hf
          · omega
          · split at hf <;> omega
        · split
          · rename_i hd0 hd
            have hw := hdue hd
            unfold fo at hf
            rw [if_neg hd0, if_pos hd] at hf
            have hn : 1 ≤ nv f i (tend f L i) ∧ nv f i (tend f L i) ≤ 60 := by
              split at hf
              · split at hf
                · assumption
                · omega
              · omega
            refine ih _ (by omega) _ _ _ _ _ _ rfl ⟨by have := hok.1; omega, by omega, fun k k0 k1 => ?_⟩ (fun z => by omega)
            by_cases e : k = cnt
            · subst e; rw [ui_s, ui_s]; exact ⟨⟨hw.2.1, hw.2.2⟩, hn⟩
            · rw [ui_n e, ui_n e]; exact hok.2.2 k k0 (by omega)
          · exact ih _ (by omega) _ _ _ _ _ _ rfl hok (fun z => by omega)
theorem PR0_ok (f : Int → Int) (L : Int) : okC (PR0 f L).2.2.1 (PR0 f L).2.2.2.1 (PR0 f L).2.2.2.2 := PR_ok _ _ _ _ _ _ _ rfl ⟨by omega, by omega, fun k k0 k1 => by omega⟩ (fun z => by omega)
theorem nvK_rg {f : Int → Int} : ∀ (k : Nat) (i a : Int), 0 ≤ a → a ≤ 1000 → (∀ j : Int, i ≤ j → j < i + (k : Int) → isG (f j) = true) → 0 ≤ nvK f k i a ∧ nvK f k i a ≤ 1000
  | 0, _, _, h0, h1, _ => ⟨h0, h1⟩
  | k + 1, i, a, h0, h1, hp => by
    have q := hp i (by omega) (by omega)
    unfold isG at q
    rw [decide_eq_true_iff] at q
    exact nvK_rg k (i + 1) _ (by omega) (by omega) (fun j j0 j1 => hp j (by omega) (by omega))
