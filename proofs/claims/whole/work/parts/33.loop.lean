section
variable {p : Program} {l : Launch} {e : Env} {s : State} {m : MethodId} {below : List Frame} {meth : Method} {c : Code} {b L : Nat} {xs : Nat → Int32} {D : va_G} {dA : Nat → ClassId} {sa sv : Nat} {ad : List Nat} {Inv : am_F → Prop}
set_option maxRecDepth 100000 in
set_option maxHeartbeats 4000000 in
/-- THE LAW'S LOOP -/
theorem al_loop (C : al_C p s m meth c b L xs D dA sa sv) (hH : al_H Inv) : ∀ (n i : Nat) (f : am_F) (H : Heap) (locs : List Loc) (ls : Array Slot), L + 1 ≤ i + n → i ≤ 4000 → Inv f → al_R s D dA sa ad f H locs → lv_has ls 4 [(0, .ref b), (1, .ref (ad.getD 0 0)), (2, .ref (ad.getD 270 0)), (3, .int (nI i))] → W p l e room_1 s m #[Value.ref b] below meth c H locs 600000 7302250 (lw_Z below #[Value.ref b] s) (F0 m 18 ls []) := by
  obtain ⟨⟨hx, hb, hr, hml, hown, hts0, hX, hbl, hlk, hgv⟩, hK, hFo, hL⟩ := id C
  intro n
  induction n with
  | zero =>
    intro i f H locs ls h1 h2 hI hR hl
    refine lv_iload_n hx hb al_d18 rfl (lv_at hl 3 rfl) ?_
    refine lv_aload_n hx hb al_d19 rfl (lv_at hl 0 rfl) ?_
    refine va_slen hx hb hX hbl (Nat.not_le.mpr hbl) hR.2.2.2.2 al_d20 ?_
    refine lv_bipush (v := nI 6) hx hb al_d21 (by decide) ?_
    refine lv_isub hx hb al_d23 ?_
    have hs : (Int32.ofNat L - nI 6).toInt = (L : Int) - 6 := pk_sub_toInt (a := L) (b := 6) (by omega) (by omega)
    have hin : (nI i).toInt = (i : Int) := nI_toInt (by omega)
    refine lv_icmp_gt (tgt := 1067) hx hb al_d24 (by decide) (fun _ => ?_) (fun h => absurd (Int32.lt_iff_toInt_lt.mpr (by rw [hs, hin]; omega)) h)
    refine lv_iconst (v := 1) hx hb al_d1067 (by decide) ?_
    refine va_forget (fun q hq => hR.2.2.2.2.2.2 q hq) ?_
    exact lw_ret hx hb hr hlk al_d1068
  | succ n ih =>
    intro i f H locs ls h1 h2 hI hR hl
    refine lv_iload_n hx hb al_d18 rfl (lv_at hl 3 rfl) ?_
    refine lv_aload_n hx hb al_d19 rfl (lv_at hl 0 rfl) ?_
    refine va_slen hx hb hX hbl (Nat.not_le.mpr hbl) hR.2.2.2.2 al_d20 ?_
    refine lv_bipush (v := nI 6) hx hb al_d21 (by decide) ?_
    refine lv_isub hx hb al_d23 ?_
    have hs : (Int32.ofNat L - nI 6).toInt = (L : Int) - 6 := pk_sub_toInt (a := L) (b := 6) (by omega) (by omega)
    have hin : (nI i).toInt = (i : Int) := nI_toInt (by omega)
    refine lv_icmp_gt (tgt := 1067) hx hb al_d24 (by decide) (fun _ => ?_) (fun hno => ?_)
    · refine lv_iconst (v := 1) hx hb al_d1067 (by decide) ?_
      refine va_forget (fun q hq => hR.2.2.2.2.2.2 q hq) ?_
      exact lw_ret hx hb hr hlk al_d1068
    · have hi : i + 6 ≤ L := by
        have h3 : ¬ (Int32.ofNat L - nI 6).toInt < (nI i).toInt := fun q => hno (Int32.lt_iff_toInt_lt.mpr q)
        rw [hs, hin] at h3; omega
      have kk : ∀ (f2 : am_F) (H2 : Heap) (locs2 : List Loc), Inv f2 → al_R s D dA sa ad f2 H2 locs2 → W p l e room_1 s m #[Value.ref b] below meth c H2 locs2 600000 7302250 (lw_Z below #[Value.ref b] s) (F0 m 1061 ls []) := by
        intro f2 H2 locs2 hI2 hR2
        refine lv_iinc (k := 3) (v := nI (i + 6)) (lv' := [(3, .int (nI (i + 6))), (0, .ref b), (1, .ref (ad.getD 0 0)), (2, .ref (ad.getD 270 0))]) hx hb al_d1061 hl rfl (by rw [← nI_add]; rfl) (by decide) rfl (fun ls2 hl2 => ?_)
        refine lv_goto (tgt := 18) hx hb al_d1064 (by decide) ?_
        exact ih (i + 6) f2 H2 locs2 ls2 (by omega) (by omega) hI2 hR2 (lv_sub hl2 [1, 2, 3, 0] rfl)
      refine lv_aload_n hx hb al_d27 rfl (lv_at hl 0 rfl) ?_
      refine lv_iload_n hx hb al_d28 rfl (lv_at hl 3 rfl) ?_
      refine va_sld hx hb hX hbl (Nat.not_le.mpr hbl) hR.2.2.2.2 (vp_in_nI (by omega) (by omega)) al_d29 ?_
      refine lv_bipush (v := 63) hx hb al_d30 (by decide) ?_
      refine lv_iand hx hb al_d32 ?_
      refine lv_topi (fun x _ => ?_)
      by_cases hout : x.toInt < 0 ∨ 32 < x.toInt
      · refine lv_tableOut (tgt := 1061) hx hb al_d33 hout (by decide) ?_
        exact kk f H locs hI hR
      · obtain ⟨k, hk⟩ : ∃ k : Nat, x.toInt = (k : Int) := ⟨x.toInt.toNat, by omega⟩
        have hk32 : k ≤ 32 := by omega
        have hcs : (600000 : Nat) ≤ 600000 ∧ (7302250 : Nat) ≤ 7302250 := ⟨Nat.le_refl _, Nat.le_refl _⟩
        match k, hk, hk32 with
        | 0, hk, _ => exact lv_tableIn (off := 147) (tgt := 180) hx hb al_d33 (by omega) (by omega) (by rw [hk]; rfl) (by decide) (al_case0 C hR hl hi hcs hH hI kk)
        | 1, hk, _ => exact lv_tableIn (off := 210) (tgt := 243) hx hb al_d33 (by omega) (by omega) (by rw [hk]; rfl) (by decide) (al_case1 C hR hl hi hcs hH hI kk)
        | 2, hk, _ => exact lv_tableIn (off := 233) (tgt := 266) hx hb al_d33 (by omega) (by omega) (by rw [hk]; rfl) (by decide) (al_case2 C hR hl hi hcs hH hI kk)
        | 3, hk, _ => exact lv_tableIn (off := 246) (tgt := 279) hx hb al_d33 (by omega) (by omega) (by rw [hk]; rfl) (by decide) (al_case3 C hR hl hi hcs hH hI kk)
        | 4, hk, _ => exact lv_tableIn (off := 269) (tgt := 302) hx hb al_d33 (by omega) (by omega) (by rw [hk]; rfl) (by decide) (al_case4 C hR hl hi hcs hH hI kk)
        | 5, hk, _ => exact lv_tableIn (off := 292) (tgt := 325) hx hb al_d33 (by omega) (by omega) (by rw [hk]; rfl) (by decide) (al_case5 C hR hl hi hcs hH hI kk)
        | 6, hk, _ => exact lv_tableIn (off := 335) (tgt := 368) hx hb al_d33 (by omega) (by omega) (by rw [hk]; rfl) (by decide) (al_case6 C hR hl hi hcs hH hI kk)
        | 7, hk, _ => exact lv_tableIn (off := 368) (tgt := 401) hx hb al_d33 (by omega) (by omega) (by rw [hk]; rfl) (by decide) (al_case7 C hR hl hi hcs hH hI kk)
        | 8, hk, _ => exact lv_tableIn (off := 401) (tgt := 434) hx hb al_d33 (by omega) (by omega) (by rw [hk]; rfl) (by decide) (al_case8 C hR hl hi hcs hH hI kk)
        | 9, hk, _ => exact lv_tableIn (off := 434) (tgt := 467) hx hb al_d33 (by omega) (by omega) (by rw [hk]; rfl) (by decide) (al_case9 C hR hl hi hcs hH hI kk)
        | 10, hk, _ => exact lv_tableIn (off := 467) (tgt := 500) hx hb al_d33 (by omega) (by omega) (by rw [hk]; rfl) (by decide) (al_case10 C hR hl hi hcs hH hI kk)
        | 11, hk, _ => exact lv_tableIn (off := 500) (tgt := 533) hx hb al_d33 (by omega) (by omega) (by rw [hk]; rfl) (by decide) (al_case11 C hR hl hi hcs hH hI kk)
        | 12, hk, _ => exact lv_tableIn (off := 533) (tgt := 566) hx hb al_d33 (by omega) (by omega) (by rw [hk]; rfl) (by decide) (al_case12 C hR hl hi hcs hH hI kk)
        | 13, hk, _ => exact lv_tableIn (off := 566) (tgt := 599) hx hb al_d33 (by omega) (by omega) (by rw [hk]; rfl) (by decide) (al_case13 C hR hl hi hcs hH hI kk)
        | 14, hk, _ => exact lv_tableIn (off := 589) (tgt := 622) hx hb al_d33 (by omega) (by omega) (by rw [hk]; rfl) (by decide) (al_case14 C hR hl hi hcs hH hI kk)
        | 15, hk, _ => exact lv_tableIn (off := 622) (tgt := 655) hx hb al_d33 (by omega) (by omega) (by rw [hk]; rfl) (by decide) (al_case15 C hR hl hi hcs hH hI kk)
        | 16, hk, _ => exact lv_tableIn (off := 656) (tgt := 689) hx hb al_d33 (by omega) (by omega) (by rw [hk]; rfl) (by decide) (al_case16 C hR hl hi hcs hH hI kk)
        | 17, hk, _ => exact lv_tableIn (off := 679) (tgt := 712) hx hb al_d33 (by omega) (by omega) (by rw [hk]; rfl) (by decide) (al_case17 C hR hl hi hcs hH hI kk)
        | 18, hk, _ => exact lv_tableIn (off := 692) (tgt := 725) hx hb al_d33 (by omega) (by omega) (by rw [hk]; rfl) (by decide) (al_case18 C hR hl hi hcs hH hI kk)
        | 19, hk, _ => exact lv_tableIn (off := 725) (tgt := 758) hx hb al_d33 (by omega) (by omega) (by rw [hk]; rfl) (by decide) (al_case19 C hR hl hi hcs hH hI kk)
        | 20, hk, _ => exact lv_tableIn (off := 748) (tgt := 781) hx hb al_d33 (by omega) (by omega) (by rw [hk]; rfl) (by decide) (al_case20 C hR hl hi hcs hH hI kk)
        | 21, hk, _ => exact lv_tableIn (off := 781) (tgt := 814) hx hb al_d33 (by omega) (by omega) (by rw [hk]; rfl) (by decide) (al_case21 C hR hl hi hcs hH hI kk)
        | 22, hk, _ => exact lv_tableIn (off := 804) (tgt := 837) hx hb al_d33 (by omega) (by omega) (by rw [hk]; rfl) (by decide) (al_case22 C hR hl hi hcs hH hI kk)
        | 23, hk, _ => exact lv_tableIn (off := 837) (tgt := 870) hx hb al_d33 (by omega) (by omega) (by rw [hk]; rfl) (by decide) (al_case23 C hR hl hi hcs hH hI kk)
        | 24, hk, _ => exact lv_tableIn (off := 860) (tgt := 893) hx hb al_d33 (by omega) (by omega) (by rw [hk]; rfl) (by decide) (al_case24 C hR hl hi hcs hH hI kk)
        | 25, hk, _ => exact lv_tableIn (off := 883) (tgt := 916) hx hb al_d33 (by omega) (by omega) (by rw [hk]; rfl) (by decide) (al_case25 C hR hl hi hcs hH hI kk)
        | 26, hk, _ => exact lv_tableIn (off := 906) (tgt := 939) hx hb al_d33 (by omega) (by omega) (by rw [hk]; rfl) (by decide) (al_case26 C hR hl hi hcs hH hI kk)
        | 27, hk, _ => exact lv_tableIn (off := 919) (tgt := 952) hx hb al_d33 (by omega) (by omega) (by rw [hk]; rfl) (by decide) (al_case27 C hR hl hi hcs hH hI kk)
        | 28, hk, _ => exact lv_tableIn (off := 942) (tgt := 975) hx hb al_d33 (by omega) (by omega) (by rw [hk]; rfl) (by decide) (al_case28 C hR hl hi hcs hH hI kk)
        | 29, hk, _ => exact lv_tableIn (off := 956) (tgt := 989) hx hb al_d33 (by omega) (by omega) (by rw [hk]; rfl) (by decide) (al_case29 C hR hl hi hcs hH hI kk)
        | 30, hk, _ => exact lv_tableIn (off := 969) (tgt := 1002) hx hb al_d33 (by omega) (by omega) (by rw [hk]; rfl) (by decide) (al_case30 C hR hl hi hcs hH hI kk)
        | 31, hk, _ => exact lv_tableIn (off := 992) (tgt := 1025) hx hb al_d33 (by omega) (by omega) (by rw [hk]; rfl) (by decide) (al_case31 C hR hl hi hcs hH hI kk)
        | 32, hk, _ => exact lv_tableIn (off := 1005) (tgt := 1038) hx hb al_d33 (by omega) (by omega) (by rw [hk]; rfl) (by decide) (al_case32 C hR hl hi hcs hH hI kk)
        | k + 33, hk, h => exact absurd h (by omega)
end

