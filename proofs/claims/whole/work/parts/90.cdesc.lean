/-! the class reads tests and sums by descent -/
theorem al_app {f : am_F} {b : Int} {g : Int → Int} : ∀ (cs es : List Int) (k : Int), al f b g k cs → al f b g (k + cs.length) es → al f b g k (cs ++ es)
  | [], es, k, _, h => by simpa using h
  | c :: cs, es, k, h1, h2 => by
    refine ⟨h1.1, al_app cs es (k + 1) h1.2 ?_⟩
    rw [List.length_cons, Int.natCast_add] at h2
    rwa [show k + 1 + (cs.length : Int) = k + ((cs.length : Int) + (1 : Nat)) by omega]
section
variable {f : am_F} {B : Int → Int} {N κ R sA s : Int} {Q : am_V → am_F → Prop}
/-- what a reading comes to -/
def PQ (B : Int → Int) (N R sA : Int) (f : am_F) (s : Int) (Q : am_V → am_F → Prop) : RR → Prop
  | .inl (k, q) => ∀ g, g 33 11 = k → g 33 12 = q → fPw R sA s f g → Q (0, 0) g
  | .inr (p', cs) => ∀ g, CK g B N p' → g R 3 = s + cs.length → al g sA cst s cs → fP R sA s f g → Q (0, 1) g
theorem PQ_in {g : am_F} {cs : List Int} {k q : Int} (h : ∀ g', g' 33 11 = k → g' 33 12 = q → fPw R sA s f g' → Q (0, 0) g') (h1 : fP R sA s f g) : PQ B N R sA g (s + cs.length) Q (.inl (k, q)) := fun g' a b c => h g' a b (fPw_tr (by omega) h1 c)
def lvd (mode : Nat) : Nat := if mode = 0 then 6 else if mode = 1 then 7 else if mode = 2 then 8 else if mode = 3 then 7 else if mode = 4 then 8 else if mode = 5 then 10 else if mode = 6 then 11 else if mode = 7 then 11 else if mode = 8 then 12 else 12
def GC (N p : Int) (mode dd : Nat) (o : Int) (f : am_F) (Q : am_V → am_F → Prop) : Prop :=
  if mode = 0 then aw_cl dd 49 [(104, 33), (0, o)] f Q
  else if mode = 1 then (∀ (i : Int) (x : am_V), 0 ≤ i → i + (N - p) ≤ 1600 → aw_wp dd 48 12 [(104, 33), (0, o), (0, i), x] [] f Q)
  else if mode = 2 then (∀ (i : Int) (x : am_V), 0 ≤ i → i + (N - p) ≤ 1600 → aw_wp dd 47 12 [(104, 33), (0, o), (0, i), x] [] f Q)
  else if mode = 3 then aw_cl dd 48 [(104, 33), (0, o)] f Q
  else if mode = 4 then aw_cl dd 47 [(104, 33), (0, o)] f Q
  else if mode = 5 then aw_cl dd 41 [(104, 33), (0, o)] f Q
  else if mode = 6 then (∀ (i : Int), 0 ≤ i → i + (N - p) ≤ 1600 → aw_wp dd 40 12 [(104, 33), (0, o), (0, i)] [] f Q)
  else if mode = 7 then aw_cl dd 40 [(104, 33), (0, o)] f Q
  else if mode = 8 then (∀ (i : Int), 0 ≤ i → i + (N - p) ≤ 1600 → aw_wp dd 39 12 [(104, 33), (0, o), (0, i)] [] f Q)
  else aw_cl dd 39 [(104, 33), (0, o)] f Q
/-- the statement of the induction -/
def HD (B : Int → Int) (N κ R sA : Int) (k : Nat) : Prop := ∀ (mode : Nat) (p o : Int) (r : RR) (f : am_F) (s : Int) (Q : am_V → am_F → Prop) (dd : Nat), rd B N κ k mode p o = some r → CU f B N κ R sA → CK f B N p → f R 3 = s → 0 ≤ s → s + (N - p) ≤ 1600 → 0 ≤ p → p ≤ N → 0 ≤ o → o ≤ 6 → 14 * (6 - o).toNat + lvd mode ≤ dd → PQ B N R sA f s Q r → GC N p mode dd o f Q
/-- a part and a loop behind it -/
theorem d_then {k : Nat} (ih : HD B N κ R sA k) {m1 m2 : Nat} {p o : Int} {r : RR} {dd : Nat} (h : bd (rd B N κ k m1 p o) (fun p1 c1 => bd (rd B N κ k m2 p1 o) fun p2 c2 => okR p2 (c1 ++ c2)) = some r) (hU : CU f B N κ R sA) (hK : CK f B N p) (hs : f R 3 = s) (h0 : 0 ≤ s) (h1 : s + (N - p) ≤ 1600) (p0 : 0 ≤ p) (pN : p ≤ N) (o0 : 0 ≤ o) (o6 : o ≤ 6) (hd1 : 14 * (6 - o).toNat + lvd m1 ≤ dd) (hd2 : 14 * (6 - o).toNat + lvd m2 ≤ dd + 1) (hQ : PQ B N R sA f s Q r)
    (Q1 : am_V → am_F → Prop) (q0 : ∀ g, Q (0, 0) g → Q1 (0, 0) g) (q1 : ∀ p1 g, p < p1 → GC N p1 m2 (dd + 1) o g Q → Q1 (0, 1) g) (hm1 : m1 = 0 ∨ m1 = 3 ∨ m1 = 4 ∨ m1 = 5 ∨ m1 = 7 ∨ 9 ≤ m1) : GC N p m1 dd o f Q1 := by
  cases e1 : rd B N κ k m1 p o with
  | none => rw [e1] at h; cases h
  | some r1 =>
    rw [e1] at h
    refine ih m1 p o r1 f s Q1 dd e1 hU hK hs h0 h1 p0 pN o0 o6 hd1 ?_
    match r1, h with
    | .inl (k1, w1), h =>
      cases h
      exact fun g a b c => q0 g (hQ g a b c)
    | .inr (p1, c1), h =>
      intro g a1 a2 a3 a4
      have ln := rd_len k m1 p o p1 c1 e1 pN
      have lt := ln.2 hm1
      refine q1 p1 g lt ?_
      have h : bd (rd B N κ k m2 p1 o) (fun p2 c2 => okR p2 (c1 ++ c2)) = some r := h
      cases e2 : rd B N κ k m2 p1 o with
      | none => rw [e2] at h; cases h
      | some r2 =>
        rw [e2] at h
        refine ih m2 p1 o r2 g (s + c1.length) Q (dd + 1) e2 (CU_fP hU a4 h0) a1 a2 (by omega) (by omega) (by omega) ln.1.2.1 o0 o6 hd2 ?_
        match r2, h with
        | .inl (k2, w2), h =>
          cases h
          exact PQ_in hQ a4
        | .inr (p2, c2), h =>
          cases h
          intro g2 b1 b2 b3 b4
          refine hQ g2 b1 (by rw [b2, List.length_append, Int.natCast_add]; omega) (al_app c1 c2 s (al_fr c1 s (fun j j0 j1 => b4 _ _ ?_) a3) b3) (fP_tr (by omega) a4 b4)
          have hR := hU.2.2
          omega
/-- a step of a loop: on, a part, its code, the loop again -/
theorem d_loop {k : Nat} (ih : HD B N κ R sA k) {m1 m2 : Nat} {p o op : Int} {r : RR} {dd : Nat} (h : bd (rd B N κ k m1 (tE B N p) o) (fun p1 c1 => bd (rd B N κ k m2 p1 o) fun p2 c2 => okR p2 (c1 ++ (op :: c2))) = some r) (hU : CU f B N κ R sA) (hK : CK f B N (tE B N p)) (hs : f R 3 = s) (h0 : 0 ≤ s) (h1 : s + (N - p) ≤ 1600) (p0 : 0 ≤ p) (pt : p < tE B N p) (pN : tE B N p ≤ N) (o0 : 0 ≤ o) (o6 : o ≤ 6) (hd1 : 14 * (6 - o).toNat + lvd m1 ≤ dd) (hd2 : 14 * (6 - o).toNat + lvd m2 ≤ dd + 1) (hQ : PQ B N R sA f s Q r) (hm1 : m1 = 0 ∨ m1 = 3 ∨ m1 = 4 ∨ m1 = 5 ∨ m1 = 7 ∨ 9 ≤ m1)
    (Q1 : am_V → am_F → Prop) (q0 : ∀ g, Q (0, 0) g → Q1 (0, 0) g) (q1 : ∀ p1 g s1, tE B N p < p1 → p1 ≤ N → CU g B N κ R sA → g R 3 = s1 → 0 ≤ s1 → s1 + 1 + (N - p1) ≤ 1600 → GC N p1 m2 (dd + 1) o (am_up (am_up g R 3 (s1 + 1)) sA s1 (cst op)) Q → Q1 (0, 1) g) : GC N (tE B N p) m1 dd o f Q1 := by
  have hR := hU.2.2
  cases e1 : rd B N κ k m1 (tE B N p) o with
  | none => rw [e1] at h; cases h
  | some r1 =>
    rw [e1] at h
    refine ih m1 (tE B N p) o r1 f s Q1 dd e1 hU hK hs h0 (by omega) (by omega) pN o0 o6 hd1 ?_
    match r1, h with
    | .inl (k1, w1), h =>
      cases h
      exact fun g a b c => q0 g (hQ g a b c)
    | .inr (p1, c1), h =>
      intro g a1 a2 a3 a4
      have ln := rd_len k m1 (tE B N p) o p1 c1 e1 pN
      have lt := ln.2 hm1
      have hUg := CU_fP hU a4 h0
      refine q1 p1 g (s + c1.length) lt ln.1.2.1 hUg a2 (by omega) (by omega) ?_
      have h : bd (rd B N κ k m2 p1 o) (fun p2 c2 => okR p2 (c1 ++ (op :: c2))) = some r := h
      have f2 : fP R sA (s + c1.length) g (am_up (am_up g R 3 (s + c1.length + 1)) sA (s + c1.length) (cst op)) := fun c j hc => by rw [am_un (by omega), am_un (by omega)]
      have f3 : fP R sA s f (am_up (am_up g R 3 (s + c1.length + 1)) sA (s + c1.length) (cst op)) := fP_tr (by omega) a4 f2
      cases e2 : rd B N κ k m2 p1 o with
      | none => rw [e2] at h; cases h
      | some r2 =>
        rw [e2] at h
        refine ih m2 p1 o r2 _ (s + c1.length + 1) Q (dd + 1) e2 (CU_fP hU f3 h0) (CK_fr a1 (fun j _ _ => by rw [am_un (by omega), am_un (by omega)])) (by rw [am_un (by omega), am_ue]) (by omega) (by omega) (by omega) ln.1.2.1 o0 o6 hd2 ?_
        match r2, h with
        | .inl (k2, w2), h =>
          cases h
          exact fun g' a b c => hQ g' a b (fPw_tr (by omega) f3 c)
        | .inr (p2, c2), h =>
          cases h
          intro g2 b1 b2 b3 b4
          refine hQ g2 b1 (by rw [b2, List.length_append, List.length_cons]; omega) (al_app c1 (op :: c2) s (al_fr c1 s (fun j j0 j1 => ?_) a3) ⟨?_, b3⟩) (fP_tr (by omega) f3 b4)
          · rw [b4 _ _ (by omega), am_un (by omega), am_un (by omega)]
          · rw [b4 _ _ (by omega), am_ue]
end
/-! what is wanting here: c_rd : ∀ k, HD B N κ R sA k, mode by mode: 3, 4, 7, 9 by d_then; 1, 2, 6, 8 by d_loop (behind c_seesS or c_seesW and c_adv; c_add writes cst op); 0 (part, pair), 5 (fact, comparison) by ih at o + 1 with c_openY, c_takeSY, c_takeSN, c_add -/
