/-! islands: the model reads a whole text -/
section
variable {d : Nat} {f g : am_F} {B : Int → Int} {N p cd q0 : Int} {Q : am_V → am_F → Prop} {I : IS}
def LM (B : Int → Int) (N : Int) (f : am_F) (H : am_F → Prop) : (Int × Int) ⊕ IS → Prop
  | .inl (k, q) => ¬ k = 0 → ∀ g, g 270 5 = k → g 270 6 = q → gIw f g → H g
  | .inr I' => ∀ g p' cd', MM g B N p' I' cd' → PI I' → gI f g → H g
theorem LM_fr {x : (Int × Int) ⊕ IS} {H : am_F → Prop} (h : gI f g) (hq : LM B N f H x) : LM B N g H x := by
  match x, hq with
  | .inl (k, q), hq =>
    intro k0 g' e5 e6 fr
    exact hq k0 g' e5 e6 (fun c j hc => (fr c j hc).trans (h c j (by omega)))
  | .inr I', hq =>
    intro g' p' cd' M hp fr
    exact hq g' p' cd' M hp (fun c j hc => (fr c j hc).trans (h c j hc))
theorem m_iloop (hN : N ≤ 1600) (hB : ∀ j, 0 ≤ B j ∧ B j ≤ 255) : ∀ (j : Nat) (I : IS) (p cd : Int) (f : am_F), I.2.1 0 1 + j = 80 → 0 ≤ I.2.1 0 1 → MM f B N p I cd → PI I → LM B N f (fun g => aw_wp (d + 13) 161 111 [(110, 270), (0, 10)] [] g Q) (il B N j I p) → aw_wp (d + 13) 161 89 [(110, 270), (0, 10)] [] f Q := by
  have hbad : ∀ g : am_F, ¬ g 270 5 = 0 → aw_wp (d + 13) 161 111 [(110, 270), (0, 10)] [] g Q → aw_wp (d + 13) 161 89 [(110, 270), (0, 10)] [] g Q := by
    intro g hb hq
    rw [r161_89]
    simpa [r161_90, r161_93, cs_nil, cs_cons, lc_lt, lc_ge, lc_gt, lc_le, lc_eq, hb] using hq
  intro j
  induction j with
  | zero =>
    intro I p cd f hj hc hM hp hQ
    unfold il at hQ
    obtain ⟨hX, hP, ⟨b5, b6⟩, hI, p0, pN, hcd⟩ := id hM
    have lo := fun (dd : Nat) (QQ : am_V → am_F → Prop) => m_look (d := dd) (Q := QQ) hX hN p0 pN hP.1
    have fr : fW4 f (am_up f 270 2 (tS B N p)) := fun c j hc => am_un (by omega)
    have MF := MM_w hM fr (PP_look hP pN) ⟨Int.le_refl _, pN⟩
    have x49 : (am_up f 270 2 (tS B N p)) 270 49 = 80 := by rw [am_un (by omega), hI.1.2.2.2.2]; omega
    have x5 : (am_up f 270 2 (tS B N p)) 270 5 = 0 := by rw [am_un (by omega)]; exact b5
    have x2 : (am_up f 270 2 (tS B N p)) 270 2 = tS B N p := am_ue
    generalize am_up f 270 2 (tS B N p) = F at *
    rw [r161_89]
    by_cases ht : tK B N p = 0
    · rw [if_pos ht] at hQ
      have e := (lk_e (N := N) hB (p := p)).mpr ht
      have := hQ F p cd MF hp (fun c j hc => fr c j (by omega))
      simpa [r161_90, r161_93, r161_96, r161_97, r161_100, r161_101, cs_nil, cs_cons, lc_lt, lc_ge, lc_gt, lc_le, lc_eq, b5, lo, e] using this
    · rw [if_neg ht] at hQ
      have e : ¬ lk B N p = -1 := fun q => ht ((lk_e (N := N) hB (p := p)).mp q)
      have := hbad _ (by rw [am_un (by omega), am_ue]; decide) (hQ (by omega) (am_up (am_up F 270 5 5) 270 6 (tS B N p)) (by rw [am_un (by omega), am_ue]) am_ue (fun c j hc => by rw [am_un (by omega), am_un (by omega)]; exact fr c j (by omega)))
      have st : ∀ QQ, QQ (3, 0) (am_up (am_up F 270 5 5) 270 6 (tS B N p)) → aw_cl (d + 12) 163 [(110, 270)] F QQ := by
        intro QQ hq
        simpa [q163, r163_0, r163_1, r163_4, r163_5, r163_6, r163_9, r163_11, r163_14, r163_15, r163_16, r163_17, r163_20, cs_nil, cs_cons, lc_lt, lc_ge, lc_gt, lc_le, lc_eq, x2, x49, m_fail x5] using hq
      have := st (fun v f' => aw_wp (d + 13) 161 108 [(110, 270), (0, 10)] (if v.fst = 3 then [] else [v]) f' Q) (by simpa [r161_108, cs_nil, cs_cons, lc_lt, lc_ge, lc_gt, lc_le, lc_eq] using this)
      simpa [r161_90, r161_93, r161_96, r161_97, r161_100, r161_101, r161_104, r161_105, cs_nil, cs_cons, lc_lt, lc_ge, lc_gt, lc_le, lc_eq, b5, lo, e] using this
  | succ j ih =>
    intro I p cd f hj hc hM hp hQ
    unfold il at hQ
    obtain ⟨hX, hP, ⟨b5, b6⟩, hI, p0, pN, hcd⟩ := id hM
    have lo := fun (dd : Nat) (QQ : am_V → am_F → Prop) => m_look (d := dd) (Q := QQ) hX hN p0 pN hP.1
    have fr : fW4 f (am_up f 270 2 (tS B N p)) := fun c j hc => am_un (by omega)
    have MF := MM_w hM fr (PP_look hP pN) ⟨Int.le_refl _, pN⟩
    have x2 : (am_up f 270 2 (tS B N p)) 270 2 = tS B N p := am_ue
    generalize am_up f 270 2 (tS B N p) = F at *
    have gf : gI f F := fun c j hc => fr c j (by omega)
    rw [r161_89]
    by_cases ht : tK B N p = 0
    · rw [if_pos ht] at hQ
      have e := (lk_e (N := N) hB (p := p)).mpr ht
      have := hQ F p cd MF hp gf
      simpa [r161_90, r161_93, r161_96, r161_97, r161_100, r161_101, cs_nil, cs_cons, lc_lt, lc_ge, lc_gt, lc_le, lc_eq, b5, lo, e] using this
    · rw [if_neg ht] at hQ
      have e : ¬ lk B N p = -1 := fun q => ht ((lk_e (N := N) hB (p := p)).mp q)
      have : aw_cl (d + 12) 163 [(110, 270)] F (fun v f' => aw_wp (d + 13) 161 108 [(110, 270), (0, 10)] (if v.fst = 3 then [] else [v]) f' Q) := by
        refine m_stmt hN MF x2 hp (by omega) ?_
        match hx : sdd B N I p with
        | .inl (k, q) =>
          rw [hx] at hQ
          intro k0 g e5 e6 fr2
          have := hbad g (by rw [e5]; exact k0) (hQ k0 g e5 e6 (fun c j hc => (fr2 c j hc).trans (gf c j (by omega))))
          simpa [r161_108, cs_nil, cs_cons, lc_lt, lc_ge, lc_gt, lc_le, lc_eq] using this
        | .inr (p1, I1) =>
          have pi := sdd_PI hN hp p0 pN hx
          have cc := sdd_c hx
          have hs : sS1 B N (sdd B N I p) = if isg B N p1 59 = true then .inr (tE B N p1, (I1.1, am_up I1.2.1 0 1 (I1.2.1 0 1 + 1), I1.2.2)) else .inl (1, tS B N p1) := by rw [hx]; rfl
          have hs2 : sS1 B N (.inr (p1, I1)) = if isg B N p1 59 = true then .inr (tE B N p1, (I1.1, am_up I1.2.1 0 1 (I1.2.1 0 1 + 1), I1.2.2)) else .inl (1, tS B N p1) := rfl
          by_cases hg : isg B N p1 59 = true
          · rw [if_pos hg] at hs hs2
            rw [hs] at hQ
            rw [hs2]
            intro g cd' M fr2
            have e01 : am_up I1.2.1 0 1 (I1.2.1 0 1 + 1) 0 1 = I.2.1 0 1 + 1 := by rw [am_ue, cc]
            have := ih _ _ cd' g (by show am_up I1.2.1 0 1 (I1.2.1 0 1 + 1) 0 1 + (j : Int) = 80; rw [e01]; omega) (by show 0 ≤ am_up I1.2.1 0 1 (I1.2.1 0 1 + 1) 0 1; rw [e01]; omega) M (PI_cnt pi.1) (LM_fr (fun c j hc => (fr2 c j hc).trans (gf c j hc)) hQ)
            simpa [r161_108, cs_nil, cs_cons, lc_lt, lc_ge, lc_gt, lc_le, lc_eq] using this
          · rw [if_neg hg] at hs hs2
            rw [hs] at hQ
            rw [hs2]
            intro k0 g e5 e6 fr2
            have := hbad g (by rw [e5]; exact k0) (hQ k0 g e5 e6 (fun c j hc => (fr2 c j hc).trans (gf c j (by omega))))
            simpa [r161_108, cs_nil, cs_cons, lc_lt, lc_ge, lc_gt, lc_le, lc_eq] using this
      simpa [r161_90, r161_93, r161_96, r161_97, r161_100, r161_101, r161_104, r161_105, cs_nil, cs_cons, lc_lt, lc_ge, lc_gt, lc_le, lc_eq, b5, lo, e] using this
end
