/-! the abstract island and its state, and how both sides hold them -/
def ptZ (L z : am_F) (t gv k : Int) : Int := if k = 0 then L 2 t else if k = 1 then L 3 t else if k = 2 then z 6 t else if k = 3 then z 2 t else if k = 4 then z 3 t else if k = 5 then z 0 0 else if k = 6 then z 4 t else if k = 7 then gv else if k = 8 then t else z 5 t
/-- what rule w gives for thing t -/
def V (L : am_F) (ρ : Int → List Int) (z : am_F) (t gv w : Int) : Int := vl (ptZ L z t gv) (ogC gv) (ρ w)
def skw (w : Int) : Bool := decide (w = 2 ∨ w = 3)
def tyw (w : Int) : Bool := decide (w = 0 ∨ w = 1 ∨ 5 ≤ w)
def cr (w : Int) : Int := if w < 5 then w + 5 else w - 5
def dfl (w : Int) : List Int := if w = 0 then [44, 1000, 8] else if w = 1 then [1000] else if w = 2 then [1004] else if w = 3 then [47] else [41]
def TW (n m r : Nat) (L : am_F) (ρ : Int → List Int) : Prop := n ≤ 8 ∧ m ≤ 4 ∧ r ≤ 5 ∧ (∀ w, 0 ≤ w → w < 5 + (r : Int) → ∃ b, tr (skw w) false (ρ w) [] = some [b] ∧ (tyw w = true → b = true ∨ ρ w = [1000])) ∧ (∀ t : Int, 0 ≤ t → t < n → 0 ≤ L 2 t ∧ L 2 t ≤ 99 ∧ 0 ≤ L 3 t ∧ L 3 t ≤ 99) ∧ (∀ k : Int, 0 ≤ k → k < m → 0 ≤ L 6 k ∧ L 6 k ≤ 9 ∧ 1 ≤ L 7 k ∧ L 7 k ≤ 24) ∧ 0 ≤ L 0 0 ∧ L 0 0 ≤ 100
def CL (f : am_F) (l : Int) (n m r : Nat) (L : am_F) (ρ : Int → List Int) : Prop := sL f l ∧ (1 ≤ l ∧ l ≤ 20) ∧ (f l 9 = n ∧ f l 10 = m ∧ f l 11 = r ∧ f l 12 = L 0 0) ∧ (∀ t : Int, 0 ≤ t → t < n → f (l + 2) t = L 2 t ∧ f (l + 3) t = L 3 t) ∧ (∀ k : Int, 0 ≤ k → k < m → f (l + 6) k = L 6 k ∧ f (l + 7) k = L 7 k) ∧ (∀ w, 0 ≤ w → w < 5 + (r : Int) → 0 < n → ∃ k0, f (l + 11) (cr w) = k0 ∧ f (l + 12) (cr w) = k0 + (ρ w).length ∧ 0 ≤ k0 ∧ k0 + (ρ w).length ≤ 1616 ∧ al f (l + 10) cst k0 (ρ w))
def ML (f : am_F) (n m r : Nat) (L : am_F) (ρ : Int → List Int) (τ : Int → Bool) : Prop := mfx f ∧ (f 301 3 = n ∧ f 301 4 = m ∧ f 301 5 = r ∧ f 270 44 = L 0 0) ∧ (∀ t : Int, 0 ≤ t → t < n → f 303 (24 + 3 * t) = L 2 t ∧ f 303 (25 + 3 * t) = L 3 t) ∧ (∀ k : Int, 0 ≤ k → k < m → f 304 (8 + 2 * k) = L 6 k ∧ f 304 (9 + 2 * k) = L 7 k) ∧ (∀ w, 0 ≤ w → w < 5 + (r : Int) → (τ w = true ∧ ∃ k0, f 305 (10 + w) = k0 ∧ f 306 (10 + w) = k0 + (ρ w).length ∧ 0 ≤ k0 ∧ k0 + (ρ w).length ≤ 1600 ∧ al f 307 id (1600 + k0) (ρ w)) ∨ (τ w = false ∧ w < 5 ∧ f 305 (10 + w) = -1 ∧ ρ w = dfl w))
def CZ (f : am_F) (a l : Int) (n : Nat) (z : am_F) : Prop := sS f a ∧ (46 ≤ a ∧ a ≤ 258) ∧ f a 9 = l ∧ f a 10 = z 0 0 ∧ (∀ i t : Int, 1 ≤ i → i ≤ 6 → 0 ≤ t → t < n → f (a + i) t = z i t)
def MZ (f : am_F) (n : Nat) (z : am_F) : Prop := f 308 0 = z 0 0 ∧ (∀ i t : Int, 1 ≤ i → i ≤ 5 → 0 ≤ t → t < n → f 308 (i + 5 * t) = z i t) ∧ (∀ t : Int, 0 ≤ t → t < n → (if t = f 270 53 then f 270 54 else f 303 (26 + 3 * t)) = z 6 t)
def OZ (n : Nat) (z : am_F) : Prop := (0 ≤ z 0 0 ∧ z 0 0 ≤ 999) ∧ (∀ t : Int, 0 ≤ t → t < n → (0 ≤ z 1 t ∧ z 1 t ≤ 2) ∧ (0 ≤ z 2 t ∧ z 2 t ≤ 99) ∧ (0 ≤ z 3 t ∧ z 3 t ≤ 99) ∧ (0 ≤ z 4 t ∧ z 4 t ≤ 99) ∧ (z 5 t = 0 ∨ z 5 t = 1) ∧ (0 ≤ z 6 t ∧ z 6 t ≤ 9))
theorem er_cg {sk q : Bool} {pt pt' og og' : Int → Int} (hp : ∀ k, 0 ≤ k → k ≤ 9 → (k = 7 → sk = true) → pt k = pt' k) (ho : q = true → og = og') : ∀ (cs : List Int) (ts us : List Bool) (s : List Int), tr sk q cs ts = some us → er pt og cs s = er pt' og' cs s
  | [], _, _, _, _ => rfl
  | c :: cs, ts, us, s, ht => by
    unfold tr at ht
    cases h1 : t1 sk q c ts with
    | none => rw [h1] at ht; cases ht
    | some vs =>
      rw [h1] at ht
      have e : e1 pt og c s = e1 pt' og' c s := by
        unfold t1 at h1
        unfold e1
        by_cases c1 : 1000 ≤ c
        · rw [if_pos c1, if_pos c1]
        rw [if_neg c1] at h1 ⊢
        rw [if_neg c1]
        by_cases c2 : 60 ≤ c
        · rw [if_pos c2] at h1 ⊢
          rw [if_pos c2]
          cases hq : q with
          | true => rw [ho hq]
          | false =>
            exfalso
            rw [hq] at h1
            split at h1
            · simp at h1
            · cases h1
        rw [if_neg c2] at h1 ⊢
        rw [if_neg c2]
        by_cases c3 : 40 ≤ c
        · rw [if_pos c3] at h1 ⊢
          rw [if_pos c3]
          split at h1
          · rename_i hh
            rw [hp (c - 40) (by omega) (by omega) (fun h => hh.2.1 (by omega))]
          · cases h1
        rw [if_neg c3, if_neg c3]
      show er pt og cs (e1 pt og c s) = er pt' og' cs (e1 pt' og' c s)
      rw [e]
      exact er_cg hp ho cs vs us _ ht
theorem vl_cg {sk q b : Bool} {pt pt' og og' : Int → Int} {cs : List Int} (hp : ∀ k, 0 ≤ k → k ≤ 9 → (k = 7 → sk = true) → pt k = pt' k) (ho : q = true → og = og') (ht : tr sk q cs [] = some [b]) : vl pt og cs = vl pt' og' cs := by
  unfold vl
  rw [er_cg hp ho cs [] [b] [] ht]
theorem ptC_Z {f L z : am_F} {a l t gv k : Int} {n m r : Nat} {ρ : Int → List Int} (hl : CL f l n m r L ρ) (hz : CZ f a l n z) (h0 : 0 ≤ t) (h1 : t < n) : ptC f a l t gv k = ptZ L z t gv k := by
  obtain ⟨_, _, _, hr, _⟩ := hl
  obtain ⟨_, _, _, hd, hi⟩ := hz
  unfold ptC ptZ
  rw [(hr t h0 h1).1, (hr t h0 h1).2, hd, hi 2 t (by omega) (by omega) h0 h1, hi 3 t (by omega) (by omega) h0 h1, hi 4 t (by omega) (by omega) h0 h1, hi 5 t (by omega) (by omega) h0 h1, hi 6 t (by omega) (by omega) h0 h1]
theorem ptM_Z {f L z : am_F} {t k : Int} {n m r : Nat} {ρ : Int → List Int} {τ : Int → Bool} (hl : ML f n m r L ρ τ) (hz : MZ f n z) (ho : OZ n z) (h0 : 0 ≤ t) (h1 : t < n) : ptM f t k = ptZ L z t (f 270 55) k := by
  obtain ⟨_, _, hr, _⟩ := hl
  obtain ⟨hd, hi, hf⟩ := hz
  have h5 := ((ho.2 t h0 h1).2.2.2.2.1)
  unfold ptM ptZ
  rw [(hr t h0 h1).1, (hr t h0 h1).2, hd, hf t h0 h1, hi 2 t (by omega) (by omega) h0 h1, hi 3 t (by omega) (by omega) h0 h1, hi 4 t (by omega) (by omega) h0 h1, hi 5 t (by omega) (by omega) h0 h1]
  have e : (if z 5 t = 1 then (1 : Int) else 0) = z 5 t := by rcases h5 with h | h <;> rw [h] <;> rfl
  rw [e]
theorem pt_b {L z : am_F} {t gv k : Int} {n m r : Nat} {ρ : Int → List Int} (hT : TW n m r L ρ) (ho : OZ n z) (h0 : 0 ≤ t) (h1 : t < n) (hg : k = 7 → -1000000 ≤ gv ∧ gv ≤ 1000000) : -1000000 ≤ ptZ L z t gv k ∧ ptZ L z t gv k ≤ 1000000 := by
  have a1 := hT.2.2.2.2.1 t h0 h1
  have a2 := ho.2 t h0 h1
  have a3 := ho.1
  have a4 := hT.1
  unfold ptZ
  repeat' split
  all_goals omega
theorem og_b {gv : Int} (x : Int) : -1000000 ≤ ogC gv x ∧ ogC gv x ≤ 1000000 := by
  unfold ogC
  split
  · have : am_and (am_shr gv x) 1 = 0 ∨ am_and (am_shr gv x) 1 = 1 := by
      unfold am_and
      generalize Int32.ofInt (am_shr gv x) = y
      have e : (y &&& Int32.ofInt 1).toBitVec = y.toBitVec &&& 1#32 := Int32.toBitVec_and y _
      show (y &&& Int32.ofInt 1).toBitVec.toInt = 0 ∨ (y &&& Int32.ofInt 1).toBitVec.toInt = 1
      rw [e, BitVec.and_one_eq_setWidth_ofBool_getLsbD]
      cases y.toBitVec.getLsbD 0
      · left; decide
      · right; decide
    omega
  · omega
theorem V_cg {n m r : Nat} {L z z' : am_F} {ρ : Int → List Int} {t gv gv' w : Int} (hT : TW n m r L ρ) (hw : 0 ≤ w ∧ w < 5 + (r : Int)) (hz : ∀ i, 1 ≤ i → i ≤ 6 → z i t = z' i t) (hd : z 0 0 = z' 0 0) (hg : w = 2 ∨ w = 3 → gv = gv') : V L ρ z t gv w = V L ρ z' t gv' w := by
  obtain ⟨b, hb, _⟩ := hT.2.2.2.1 w hw.1 hw.2
  refine vl_cg (q := false) ?_ (fun h => by cases h) hb
  intro k k0 k9 k7
  unfold ptZ
  rw [hz 2 (by omega) (by omega), hz 3 (by omega) (by omega), hz 4 (by omega) (by omega), hz 5 (by omega) (by omega), hz 6 (by omega) (by omega), hd]
  by_cases hk : k = 7
  · have : w = 2 ∨ w = 3 := by simpa [skw] using k7 hk
    rw [hg this]
  · simp [hk]
/-- the class's reckon gives V -/
theorem c_val {d n m r : Nat} {f L z : am_F} {Q : am_V → am_F → Prop} {a l t gv w R u : Int} {ρ : Int → List Int} (h34 : f 34 0 = 35) (hT : TW n m r L ρ) (hl : CL f l n m r L ρ) (hz : CZ f a l n z) (ho : OZ n z) (hw : 0 ≤ w ∧ w < 5 + (r : Int)) (h0 : 0 ≤ t) (h1 : t < n) (hR : R = l + 9) (hu : u = cr w) (hg : w = 2 ∨ w = 3 → -1000000 ≤ gv ∧ gv ≤ 1000000) (hQ : ∀ f1, fK f f1 → Q (0, V L ρ z t gv w) f1) : aw_cl (d + 3) 68 [(105, 34), (106, R), (0, u), (107, a), (0, t), (0, gv)] f Q := by
  obtain ⟨k0, e1, e2, e3, e4, e5⟩ := hl.2.2.2.2.2 w hw.1 hw.2 (by omega)
  obtain ⟨b, hb, _⟩ := hT.2.2.2.1 w hw.1 hw.2
  have hr5 := hT.2.2.1
  have hn8 := hT.1
  have hL := hl.1
  have hLo := hL
  unfold sL at hLo
  have hll := hl.2.1
  have hS := hz.1
  have ha := hz.2.1
  have hcr : 0 ≤ cr w ∧ cr w < 10 := by unfold cr; split <;> omega
  subst hR hu
  refine c_reckon (sk := skw w) (q := false) (b := b) (k0 := k0) (sA := l + 10) (l := l) (cs0 := ρ w) h34 ?_ hS (by omega) hL (by omega) hz.2.2.1 hcr (by omega) ?_ ?_ e3 e4 e5 hb ?_ og_b ?_
  · refine ⟨by omega, by omega, ?_, ?_, ?_, by omega, by omega, ?_, ?_, ?_⟩
    · simp [hLo]
    · simp [hLo]; omega
    · simp [hLo]; omega
    · simp [hLo]
    · rw [show l + 10 + 1 = l + 11 by omega]; simp [hLo]
    · rw [show l + 10 + 2 = l + 12 by omega]; simp [hLo]
  · rw [show l + 10 + 1 = l + 11 by omega]; exact e1
  · rw [show l + 10 + 2 = l + 12 by omega]; exact e2
  · intro k k0 k9 k7
    rw [ptC_Z hl hz h0 h1]
    exact pt_b hT ho h0 h1 (fun hk => hg (by simpa [skw] using k7 hk))
  · intro f1 hf
    have := hQ f1 hf
    unfold V at this
    have e : ptC f a l t gv = ptZ L z t gv := by funext k; exact ptC_Z hl hz h0 h1
    rw [e]
    exact this
/-- the model's codesTell gives V -/
theorem m_val {d n m r : Nat} {f L z : am_F} {Q : am_V → am_F → Prop} {t gv w : Int} {ρ : Int → List Int} {τ : Int → Bool} (hT : TW n m r L ρ) (hl : ML f n m r L ρ τ) (hz : MZ f n z) (ho : OZ n z) (hw : 0 ≤ w ∧ w < 5 + (r : Int)) (h0 : 0 ≤ t) (h1 : t < n) (ht : τ w = true) (hg : w = 2 ∨ w = 3 → f 270 55 = gv ∧ -1000000 ≤ gv ∧ gv ≤ 1000000) (hQ : ∀ f1, fT f f1 → Q (1, V L ρ z t gv w) f1) : aw_cl (d + 3) 215 [(110, 270), (0, w), (0, t)] f Q := by
  have hh := hl.2.2.2.2 w hw.1 hw.2
  rcases hh with ⟨_, k0, e1, e2, e3, e4, e5⟩ | ⟨e, _⟩
  · obtain ⟨b, hb, _⟩ := hT.2.2.2.1 w hw.1 hw.2
    have hr5 := hT.2.2.1
    have hn8 := hT.1
    refine m_tell (sk := skw w) (b := b) (k0 := k0) (cs0 := ρ w) (og := ogC gv) hl.1 (by omega) (by omega) e1 e2 e3 e4 e5 hb ?_ og_b ?_
    · intro k k0 k9 k7
      rw [ptM_Z hl hz ho h0 h1]
      refine pt_b hT ho h0 h1 (fun hk => ?_)
      have := hg (by simpa [skw] using k7 hk)
      rw [this.1]; exact this.2
    · intro f1 hf
      have e : vl (ptM f t) (ogC gv) (ρ w) = V L ρ z t gv w := by
        unfold V
        refine vl_cg (q := false) ?_ (fun _ => rfl) hb
        intro k k0 k9 k7
        rw [ptM_Z hl hz ho h0 h1]
        unfold ptZ
        by_cases hk : k = 7
        · rw [(hg (by simpa [skw] using k7 hk)).1]
        · simp [hk]
      rw [e]
      exact hQ f1 hf
  · rw [e] at ht; cases ht
