/-! the next order by numbers, on both sides -/
def fat (o : Int → Int) : Nat → Int
  | 0 => -1
  | k + 1 => if o ((k : Int) + 1) < o k then fat o k else k
def fwi (o : Int → Int) (a : Int) : Nat → Int → Int
  | 0, w => w
  | j + 1, w => if o w < o a then fwi o a j (w - 1) else w
def swp (o : Int → Int) (i j : Int) : Int → Int := fun x => if x = j then o i else if x = i then o j else o x
def rvs (o : Int → Int) (lo hi : Int) : Int → Int := fun x => if lo ≤ x ∧ x ≤ hi then o (lo + hi - x) else o x
def nat (o : Int → Int) (c : Nat) : Int := fat o (c - 1)
def nwi (o : Int → Int) (c : Nat) : Int := fwi o (nat o c) ((c : Int) - 2 - nat o c).toNat ((c : Int) - 1)
def nxo (o : Int → Int) (c : Nat) : Int → Int := rvs (swp o (nat o c) (nwi o c)) (nat o c + 1) ((c : Int) - 1)
theorem fat_b {o : Int → Int} : ∀ k : Nat, fat o k = -1 ∨ (0 ≤ fat o k ∧ fat o k < k ∧ o (fat o k) ≤ o (fat o k + 1))
  | 0 => Or.inl rfl
  | k + 1 => by
    unfold fat
    split
    · rcases fat_b (o := o) k with h | h
      · exact Or.inl h
      · exact Or.inr ⟨h.1, by omega, h.2.2⟩
    · exact Or.inr ⟨by omega, by omega, by omega⟩
theorem fwi_b {o : Int → Int} {a : Int} : ∀ (j : Nat) (w : Int), w - j ≤ fwi o a j w ∧ fwi o a j w ≤ w
  | 0, w => by rw [fwi]; omega
  | j + 1, w => by
    unfold fwi
    split
    · have := fwi_b (o := o) (a := a) j (w - 1); omega
    · omega
theorem nwi_b {o : Int → Int} {c : Nat} (h : ¬ nat o c < 0) : nat o c + 1 ≤ nwi o c ∧ nwi o c ≤ (c : Int) - 1 ∧ 2 ≤ c ∧ nat o c ≤ (c : Int) - 2 ∧ o (nat o c) ≤ o (nat o c + 1) := by
  have h1 := fat_b (o := o) (c - 1)
  unfold nat at h
  rcases h1 with h1 | h1
  · omega
  · have h2 := fwi_b (o := o) (a := nat o c) ((c : Int) - 2 - nat o c).toNat ((c : Int) - 1)
    unfold nwi
    have e : nat o c = fat o (c - 1) := rfl
    rw [e] at h2 ⊢
    omega
section
variable {d c : Nat} {f : am_F} {Q : am_V → am_F → Prop} {o : Int → Int}
theorem c_swap {a b : Int} (hx : f 40 1 = 41) (h0 : 0 ≤ a) (h1 : a < 6) (h2 : 0 ≤ b) (h3 : b < 6) : aw_cl d 118 [(103, 40), (0, a), (0, b)] f Q = Q (3, 0) (am_up (am_up f 41 a (f 41 b)) 41 b (f 41 a)) := by
  apply aw_det
  simp (disch := omega) [q118, r118_0, r118_1, r118_4, r118_5, r118_6, r118_7, r118_8, r118_11, r118_12, r118_13, r118_16, r118_17, r118_18, r118_19, r118_20, r118_23, r118_24, r118_25, r118_26, cs_nil, cs_cons, lc_lt, lc_ge, lc_gt, lc_le, lc_eq, hx, ln_41, am_un, am_fitE, le_T, lt_T]
theorem c_next2 (hc : c ≤ 6) (hx : f 40 1 = 41) (ho : ∀ x : Int, 0 ≤ x → x < c → f 41 x = o x) (hQ0 : nat o c < 0 → Q (0, 0) f) (hQ1 : ¬ nat o c < 0 → ∀ g, (∀ x : Int, 0 ≤ x → x < c → g 41 x = nxo o c x) → (∀ b j : Int, ¬ b = 41 → g b j = f b j) → Q (0, 1) g) : aw_cl (d + 1) 117 [(103, 40), (0, (c : Int))] f Q := by
  have loop1 : ∀ (k : Nat), k + 1 ≤ c → (aw_wp (d + 1) 117 31 [(103, 40), (0, (c : Int)), (0, fat o k), (2, 0), (2, 0), (2, 0)] [] f Q) → aw_wp (d + 1) 117 4 [(103, 40), (0, (c : Int)), (0, (k : Int) - 1), (2, 0), (2, 0), (2, 0)] [] f Q := by
    intro k
    induction k with
    | zero =>
      intro _ hq
      rw [fat] at hq
      rw [r117_4]
      simpa (disch := omega) [r117_5] using hq
    | succ k ih =>
      intro hk hq
      have e1 := ho k (by omega) (by omega)
      have e2 := ho ((k : Int) + 1) (by omega) (by omega)
      rw [Int.natCast_add k, show (k : Int) + (1 : Nat) - 1 = k by omega]
      rw [r117_4]
      by_cases hp : o ((k : Int) + 1) < o k
      · rw [fat, if_pos hp] at hq
        have := ih (by omega) hq
        rw [Int.sub_eq_add_neg] at this
        simpa (disch := omega) [r117_5, r117_8, r117_9, r117_12, r117_13, r117_14, r117_15, r117_18, r117_19, r117_20, r117_21, r117_22, r117_25, r117_28, hx, ln_41, e1, e2, am_wid2, le_T, lt_T, le_F, lt_F] using this
      · rw [fat, if_neg hp] at hq
        simpa (disch := omega) [r117_5, r117_8, r117_9, r117_12, r117_13, r117_14, r117_15, r117_18, r117_19, r117_20, r117_21, r117_22, hx, ln_41, e1, e2, am_wid2, le_T, lt_T, le_F, lt_F] using hq
  have loop2 : ∀ (a : Int), 0 ≤ a → ∀ (j : Nat) (w : Int), w = a + 1 + j → w < c → aw_wp (d + 1) 117 69 [(103, 40), (0, (c : Int)), (0, a), (0, fwi o a j w), (2, 0), (2, 0)] [] f Q → aw_wp (d + 1) 117 41 [(103, 40), (0, (c : Int)), (0, a), (0, w), (2, 0), (2, 0)] [] f Q := by
    intro a ha j
    induction j with
    | zero =>
      intro w hw hwc hq
      rw [fwi] at hq
      rw [r117_41]
      simpa (disch := omega) [r117_42, r117_43, r117_44, r117_45, am_wid2, le_T, lt_T, le_F, lt_F] using hq
    | succ j ih =>
      intro w hw hwc hq
      have e1 := ho w (by omega) hwc
      have e2 := ho a (by omega) (by omega)
      rw [r117_41]
      by_cases hp : o w < o a
      · rw [fwi, if_pos hp] at hq
        have := ih (w - 1) (by omega) (by omega) hq
        rw [Int.sub_eq_add_neg] at this
        simpa (disch := omega) [r117_42, r117_43, r117_44, r117_45, r117_48, r117_49, r117_52, r117_53, r117_54, r117_55, r117_58, r117_59, r117_60, r117_63, r117_66, hx, ln_41, e1, e2, am_wid2, le_T, lt_T, le_F, lt_F] using this
      · rw [fwi, if_neg hp] at hq
        simpa (disch := omega) [r117_42, r117_43, r117_44, r117_45, r117_48, r117_49, r117_52, r117_53, r117_54, r117_55, r117_58, r117_59, r117_60, hx, ln_41, e1, e2, am_wid2, le_T, lt_T, le_F, lt_F] using hq
  have loop3 : ∀ (s : Int → Int) (lo hi : Int) (a w : Int), 0 ≤ lo → hi < 6 → ∀ (j : Nat) (x y : Int) (g : am_F), x + y = lo + hi → lo ≤ x → x ≤ y + 1 → y - x < 2 * j → g 40 1 = 41 → (∀ u : Int, 0 ≤ u → u < c → g 41 u = if lo ≤ u ∧ u ≤ hi ∧ (u < x ∨ y < u) then s (lo + hi - u) else s u) → hi < c → (∀ b j : Int, ¬ b = 41 → g b j = f b j) → (∀ g', (∀ u : Int, 0 ≤ u → u < c → g' 41 u = rvs s lo hi u) → (∀ b j : Int, ¬ b = 41 → g' b j = f b j) → Q (0, 1) g') → aw_wp (d + 1) 117 85 [(103, 40), (0, (c : Int)), (0, a), (0, w), (0, x), (0, y)] [] g Q := by
    intro s lo hi a w hlo hhi j
    induction j with
    | zero =>
      intro x y g h1 h2 h3 h4 h5 h6 h7 h8 hq
      have := hq g (fun u p1 p2 => by
        rw [h6 u p1 p2]
        unfold rvs
        by_cases q : lo ≤ u ∧ u ≤ hi
        · rw [if_pos q]
          by_cases q2 : u < x ∨ y < u
          · rw [if_pos ⟨q.1, q.2, q2⟩]
          · rw [if_neg (fun e => q2 e.2.2)]; congr 1; omega
        · rw [if_neg q, if_neg (fun e => q ⟨e.1, e.2.1⟩)]) h8
      rw [r117_85]
      simpa (disch := omega) [q117, r117_0, r117_1, r117_2, r117_3, r117_5, r117_8, r117_9, r117_12, r117_13, r117_14, r117_15, r117_18, r117_19, r117_20, r117_21, r117_22, r117_25, r117_28, r117_31, r117_32, r117_35, r117_36, r117_37, r117_38, r117_39, r117_40, r117_42, r117_43, r117_44, r117_45, r117_48, r117_49, r117_52, r117_53, r117_54, r117_55, r117_58, r117_59, r117_60, r117_63, r117_66, r117_69, r117_70, r117_71, r117_72, r117_75, r117_76, r117_77, r117_78, r117_80, r117_81, r117_82, r117_83, r117_87, r117_89, r117_92, r117_93, r117_95, r117_97, r117_100, r117_103, r117_106, r117_109, r117_110, cs_nil, cs_cons, lc_lt, lc_ge, lc_gt, lc_le, lc_eq, le_T, lt_T, le_F, lt_F] using this
    | succ j ih =>
      intro x y g h1 h2 h3 h4 h5 h6 h7 h8 hq
      by_cases hxy : x < y
      · have cs := fun (dd : Nat) (QQ : am_V → am_F → Prop) => c_swap (d := dd) (Q := QQ) (f := g) (a := x) (b := y) h5 (by omega) (by omega) (by omega) (by omega)
        have v1 := h6 x (by omega) (by omega)
        have v2 := h6 y (by omega) (by omega)
        rw [if_neg (by omega)] at v1 v2
        have := ih (x + 1) (y - 1) (am_up (am_up g 41 x (g 41 y)) 41 y (g 41 x)) (by omega) (by omega) (by omega) (by omega) (by rw [am_un (by omega), am_un (by omega)]; exact h5) (fun u p1 p2 => ?_) h7 (fun b j hb => by rw [am_un (by omega), am_un (by omega), h8 _ _ hb]) hq
        · rw [show y - 1 = y + -1 by omega] at this
          rw [r117_85]
          simpa (disch := omega) [q117, r117_0, r117_1, r117_2, r117_3, r117_5, r117_8, r117_9, r117_12, r117_13, r117_14, r117_15, r117_18, r117_19, r117_20, r117_21, r117_22, r117_25, r117_28, r117_31, r117_32, r117_35, r117_36, r117_37, r117_38, r117_39, r117_40, r117_42, r117_43, r117_44, r117_45, r117_48, r117_49, r117_52, r117_53, r117_54, r117_55, r117_58, r117_59, r117_60, r117_63, r117_66, r117_69, r117_70, r117_71, r117_72, r117_75, r117_76, r117_77, r117_78, r117_80, r117_81, r117_82, r117_83, r117_87, r117_89, r117_92, r117_93, r117_95, r117_97, r117_100, r117_103, r117_106, r117_109, r117_110, cs_nil, cs_cons, lc_lt, lc_ge, lc_gt, lc_le, lc_eq, le_T, lt_T, le_F, lt_F, cs, am_wid2] using this
        · by_cases uy : u = y
          · subst uy
            rw [am_ue, v1, if_pos (by omega)]; congr 1; omega
          · by_cases ux : u = x
            · subst ux
              rw [am_un (by omega), am_ue, v2, if_pos (by omega)]; congr 1; omega
            · rw [am_un (by omega), am_un (by omega), h6 u p1 p2]
              by_cases q : lo ≤ u ∧ u ≤ hi ∧ (u < x ∨ y < u)
              · rw [if_pos q, if_pos (by omega)]
              · rw [if_neg q, if_neg (by omega)]
      · have := hq g (fun u p1 p2 => by
          rw [h6 u p1 p2]
          unfold rvs
          by_cases q : lo ≤ u ∧ u ≤ hi
          · rw [if_pos q]
            by_cases q2 : u < x ∨ y < u
            · rw [if_pos ⟨q.1, q.2, q2⟩]
            · rw [if_neg (fun e => q2 e.2.2)]; congr 1; omega
          · rw [if_neg q, if_neg (fun e => q ⟨e.1, e.2.1⟩)]) h8
        rw [r117_85]
        simpa (disch := omega) [q117, r117_0, r117_1, r117_2, r117_3, r117_5, r117_8, r117_9, r117_12, r117_13, r117_14, r117_15, r117_18, r117_19, r117_20, r117_21, r117_22, r117_25, r117_28, r117_31, r117_32, r117_35, r117_36, r117_37, r117_38, r117_39, r117_40, r117_42, r117_43, r117_44, r117_45, r117_48, r117_49, r117_52, r117_53, r117_54, r117_55, r117_58, r117_59, r117_60, r117_63, r117_66, r117_69, r117_70, r117_71, r117_72, r117_75, r117_76, r117_77, r117_78, r117_80, r117_81, r117_82, r117_83, r117_87, r117_89, r117_92, r117_93, r117_95, r117_97, r117_100, r117_103, r117_106, r117_109, r117_110, cs_nil, cs_cons, lc_lt, lc_ge, lc_gt, lc_le, lc_eq, le_T, lt_T, le_F, lt_F] using this
  have fin : aw_wp (d + 1) 117 31 [(103, 40), (0, (c : Int)), (0, nat o c), (2, 0), (2, 0), (2, 0)] [] f Q := by
    by_cases hn : nat o c < 0
    · have := hQ0 hn
      simpa (disch := omega) [q117, r117_0, r117_1, r117_2, r117_3, r117_5, r117_8, r117_9, r117_12, r117_13, r117_14, r117_15, r117_18, r117_19, r117_20, r117_21, r117_22, r117_25, r117_28, r117_31, r117_32, r117_35, r117_36, r117_37, r117_38, r117_39, r117_40, r117_42, r117_43, r117_44, r117_45, r117_48, r117_49, r117_52, r117_53, r117_54, r117_55, r117_58, r117_59, r117_60, r117_63, r117_66, r117_69, r117_70, r117_71, r117_72, r117_75, r117_76, r117_77, r117_78, r117_80, r117_81, r117_82, r117_83, r117_87, r117_89, r117_92, r117_93, r117_95, r117_97, r117_100, r117_103, r117_106, r117_109, r117_110, cs_nil, cs_cons, lc_lt, lc_ge, lc_gt, lc_le, lc_eq, le_T, lt_T, le_F, lt_F] using this
    · obtain ⟨w1, w2, w3, w4, w5⟩ := nwi_b hn
      have hq := hQ1 hn
      have g2 := loop2 (nat o c) (by omega) ((c : Int) - 2 - nat o c).toNat ((c : Int) - 1) (by omega) (by omega) (by
        have cs := fun (dd : Nat) (QQ : am_V → am_F → Prop) => c_swap (d := dd) (Q := QQ) (f := f) (a := nat o c) (b := nwi o c) hx (by omega) (by omega) (by omega) (by omega)
        have ew : fwi o (nat o c) ((c : Int) - 2 - nat o c).toNat ((c : Int) - 1) = nwi o c := rfl
        rw [ew]
        have v1 := ho (nat o c) (by omega) (by omega)
        have v2 := ho (nwi o c) (by omega) (by omega)
        have g3 := loop3 (swp o (nat o c) (nwi o c)) (nat o c + 1) ((c : Int) - 1) (nat o c) (nwi o c) (by omega) (by omega) 6 (nat o c + 1) ((c : Int) - 1) (am_up (am_up f 41 (nat o c) (f 41 (nwi o c))) 41 (nwi o c) (f 41 (nat o c))) (by omega) (by omega) (by omega) (by omega) (by rw [am_un (by omega), am_un (by omega)]; exact hx) (fun u p1 p2 => by
          rw [if_neg (by omega)]
          unfold swp
          by_cases uy : u = nwi o c
          · rw [if_pos uy, uy, am_ue, v1]
          · rw [if_neg uy]
            by_cases ux : u = nat o c
            · rw [if_pos ux, ux, am_un (by omega), am_ue, v2]
            · rw [if_neg ux, am_un (by omega), am_un (by omega), ho u p1 p2]) (by omega) (fun b j hb => by rw [am_un (by omega), am_un (by omega)]) (fun g' q1 q2 => hq g' q1 q2)
        generalize nat o c = A at *
        generalize nwi o c = W at *
        simpa (disch := omega) [q117, r117_0, r117_1, r117_2, r117_3, r117_5, r117_8, r117_9, r117_12, r117_13, r117_14, r117_15, r117_18, r117_19, r117_20, r117_21, r117_22, r117_25, r117_28, r117_31, r117_32, r117_35, r117_36, r117_37, r117_38, r117_39, r117_40, r117_42, r117_43, r117_44, r117_45, r117_48, r117_49, r117_52, r117_53, r117_54, r117_55, r117_58, r117_59, r117_60, r117_63, r117_66, r117_69, r117_70, r117_71, r117_72, r117_75, r117_76, r117_77, r117_78, r117_80, r117_81, r117_82, r117_83, r117_87, r117_89, r117_92, r117_93, r117_95, r117_97, r117_100, r117_103, r117_106, r117_109, r117_110, cs_nil, cs_cons, lc_lt, lc_ge, lc_gt, lc_le, lc_eq, cs, am_wid2] using g3)
      generalize nat o c = A at *
      simpa (disch := omega) [q117, r117_0, r117_1, r117_2, r117_3, r117_5, r117_8, r117_9, r117_12, r117_13, r117_14, r117_15, r117_18, r117_19, r117_20, r117_21, r117_22, r117_25, r117_28, r117_31, r117_32, r117_35, r117_36, r117_37, r117_38, r117_39, r117_40, r117_42, r117_43, r117_44, r117_45, r117_48, r117_49, r117_52, r117_53, r117_54, r117_55, r117_58, r117_59, r117_60, r117_63, r117_66, r117_69, r117_70, r117_71, r117_72, r117_75, r117_76, r117_77, r117_78, r117_80, r117_81, r117_82, r117_83, r117_87, r117_89, r117_92, r117_93, r117_95, r117_97, r117_100, r117_103, r117_106, r117_109, r117_110, cs_nil, cs_cons, lc_lt, lc_ge, lc_gt, lc_le, lc_eq, am_wid2, le_T, lt_T, le_F, lt_F] using g2
  by_cases h1 : 1 ≤ c
  · have := loop1 (c - 1) (by omega) (by
      have e : fat o (c - 1) = nat o c := rfl
      rw [e]; exact fin)
    rw [show ((c - 1 : Nat) : Int) - 1 = (c : Int) - 2 by omega] at this
    simpa (disch := omega) [q117, r117_0, r117_1, r117_2, r117_3, r117_5, r117_8, r117_9, r117_12, r117_13, r117_14, r117_15, r117_18, r117_19, r117_20, r117_21, r117_22, r117_25, r117_28, r117_31, r117_32, r117_35, r117_36, r117_37, r117_38, r117_39, r117_40, r117_42, r117_43, r117_44, r117_45, r117_48, r117_49, r117_52, r117_53, r117_54, r117_55, r117_58, r117_59, r117_60, r117_63, r117_66, r117_69, r117_70, r117_71, r117_72, r117_75, r117_76, r117_77, r117_78, r117_80, r117_81, r117_82, r117_83, r117_87, r117_89, r117_92, r117_93, r117_95, r117_97, r117_100, r117_103, r117_106, r117_109, r117_110, cs_nil, cs_cons, lc_lt, lc_ge, lc_gt, lc_le, lc_eq, am_wid2] using this
  · have hc0 : c = 0 := by omega
    subst hc0
    have := hQ0 (by unfold nat; simp [fat])
    simp (disch := omega) [q117, r117_0, r117_1, r117_2, r117_3, r117_5, r117_8, r117_9, r117_12, r117_13, r117_14, r117_15, r117_18, r117_19, r117_20, r117_21, r117_22, r117_25, r117_28, r117_31, r117_32, r117_35, r117_36, r117_37, r117_38, r117_39, r117_40, r117_42, r117_43, r117_44, r117_45, r117_48, r117_49, r117_52, r117_53, r117_54, r117_55, r117_58, r117_59, r117_60, r117_63, r117_66, r117_69, r117_70, r117_71, r117_72, r117_75, r117_76, r117_77, r117_78, r117_80, r117_81, r117_82, r117_83, r117_87, r117_89, r117_92, r117_93, r117_95, r117_97, r117_100, r117_103, r117_106, r117_109, r117_110, cs_nil, cs_cons, lc_lt, lc_ge, lc_gt, lc_le, lc_eq, am_wid2]
    rw [r117_4]
    simpa (disch := omega) [q117, r117_0, r117_1, r117_2, r117_3, r117_5, r117_8, r117_9, r117_12, r117_13, r117_14, r117_15, r117_18, r117_19, r117_20, r117_21, r117_22, r117_25, r117_28, r117_31, r117_32, r117_35, r117_36, r117_37, r117_38, r117_39, r117_40, r117_42, r117_43, r117_44, r117_45, r117_48, r117_49, r117_52, r117_53, r117_54, r117_55, r117_58, r117_59, r117_60, r117_63, r117_66, r117_69, r117_70, r117_71, r117_72, r117_75, r117_76, r117_77, r117_78, r117_80, r117_81, r117_82, r117_83, r117_87, r117_89, r117_92, r117_93, r117_95, r117_97, r117_100, r117_103, r117_106, r117_109, r117_110, cs_nil, cs_cons, lc_lt, lc_ge, lc_gt, lc_le, lc_eq] using this
end
