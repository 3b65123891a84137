/-! TEXTS: the call text -/
theorem tx_cpl {n tx tx' : Nat} {LT : pmT} {v v3 : pmV} (hX3 : pmRf v3) (h33 : ∀ j, v3.2.2 33 j = v.2.2 33 j) (ht : tx ≤ 5) (hA : ∀ a j, ¬ (zC tx a j ∨ xC tx a j) → v3.1 a j = v.1 a j) (hL : cLan n LT v) (hS : cSet v) (hR : cRule tx' v) (hI : cImg tx' v) (hSh : cShe v) (hF : cFix v) (hT : cTxt tx' v3) (z1 : v3.1 41 1 = 0) (z2 : v3.1 100 12 = 0) : Cpl n tx' 0 LT v3 :=
  ⟨hX3, hL.ag (fun a j q => hA a j (by unfold sLan at q; unfold zC xC yC; omega)) h33, hS.ag (fun a j q => hA a j (by unfold sSet at q; unfold zC xC yC; omega)), hR.ag (fun a j q => hA a j (by unfold sRule at q; unfold zC xC yC; omega)), hI.ag (fun a j q => hA a j (by unfold sImg at q; unfold zC xC yC; omega)), hT, ⟨Nat.zero_le _, z1, z2, fun i hi => absurd hi (Nat.not_lt_zero i)⟩, hSh.ag (fun a j q => hA a j (by unfold sShe at q; unfold zC xC yC; omega)), hF.ag (fun a j q => hA a j (by unfold sFix at q; unfold zC xC yC; omega))⟩
theorem tx_off {B : Nat → Int32} {z m t : Nat} {v u v1 : pmV} (hS : SPL B z v u m) (hO : Of (rC t) (uI (uI (uR u 41 6 (some (68 + 4 * t))) 41 7 0) 41 5 0) v1) : ∀ a j, ¬ zC t a j → v1.1 a j = v.1 a j := fun a j h => by
  unfold zC at h
  exact (hO.off (by unfold rC gC; omega)).trans ((uI_ne (by omega)).trans ((uI_ne (by omega)).trans (hS.1.off (by unfold sC; omega))))
theorem tx_rf {B : Nat → Int32} {z m t : Nat} {v u v1 : pmV} (hX : pmRf v) (hS : SPL B z v u m) (hO : Of (rC t) (uI (uI (uR u 41 6 (some (68 + 4 * t))) 41 7 0) 41 5 0) v1) : pmRf v1 ∧ ∀ j, v1.2.2 33 j = v.2.2 33 j := by
  refine ⟨(((hX.ag (congrArg Prod.snd hS.1.1)).r41 (x := some (68 + 4 * t))).ag rfl).ag (congrArg Prod.snd hO.1), fun j => ?_⟩
  have e : (uR u 41 6 (some (68 + 4 * t))).2.2 33 j = u.2.2 33 j := uR_off (by omega)
  exact (congrFun (congrFun (congrArg Prod.snd hO.1) 33) j).trans (e.trans (congrFun (congrFun (congrArg Prod.snd hS.1.1) 33) j))
set_option maxHeartbeats 1000000 in
theorem op_text {X : pmX} {d n tx z : Nat} {LT : pmT} {v : pmV} (hC : Cpl n tx z LT v) : EvP X (d + 54) MX11_text 0 [.ref 32, pmJ] [] (pmT0 ++ LT) v (Aft X (d + 54) MX12_text [.ref 100, pmJ]) := by
  obtain ⟨hX, hL, hS, hR, hI, hT, hTa, hSh, hF⟩ := hC
  by_cases h6 : tx = 6
  · subst h6
    exact c_X11_text6 hT.2.2.1 (c_X12_text6 (d := d + 48) hT.2.2.2.1 ⟨rfl, n, 6, z, LT, rfl, hX, hL, hS, hR, hI, hT, hTa, hSh, hF⟩)
  · obtain ⟨t1, t2, t3, t4, t5⟩ := hT
    obtain ⟨z1, z2, z3, z4⟩ := hTa
    have ht : tx ≤ 5 := by omega
    refine c_X11_text (t := tx) (B := v.1 42) (z := z) hX z1 z2 (fun j _ => rfl) (fun j hj => (z4 j hj).2) (by omega) t3 (fun m u k v1 hS1 hk hg hO => ?_) (fun m u k cs es v1 hS1 hk hg hR1 => ?_)
    · have hA1 := tx_off hS1 hO
      have hA : ∀ a j, ¬ zC tx a j → (uI v1 41 1 0).1 a j = v.1 a j := fun a j h => (uI_ne (fun e => h (by unfold zC; omega))).trans (hA1 a j h)
      obtain ⟨hX1, h33⟩ := tx_rf hX hS1 hO
      refine c_X12_text (d := d + 48) (t := tx) (B := v.1 42) (z := z) (hX1.ag rfl) z1 ((hA 100 12 (by unfold zC; omega)).trans z3) (fun j hj => (hA 106 j (by unfold zC; omega)).trans (z4 j hj).1) (fun j hj => (z4 j hj).2) (TKS.of hS1) ht ((hA 100 10 (by unfold zC; omega)).trans t4) (hg [] []) (fun _ v3 hO3 e12 e10 => ?_) (fun e => by cases e)
      have hA3 : ∀ a j, ¬ (zC tx a j ∨ xC tx a j) → v3.1 a j = v.1 a j := fun a j h => (hO3.off (fun q => h (Or.inr q))).trans (hA a j (fun q => h (Or.inl q)))
      have e32 : v3.1 32 6 = nI tx := (hO3.off (by unfold xC yC; omega)).trans ((uI_ne (by decide)).trans ((hO.off (by unfold rC gC; omega)).trans ((uI_ne (by decide)).trans ((uI_ne (by decide)).trans ((hS1.1.off (by unfold sC; omega)).trans t3)))))
      exact ⟨rfl, n, tx, 0, LT, rfl, tx_cpl ((hX1.ag rfl).ag (congrArg Prod.snd hO3.1)) (fun j => (congrFun (congrFun (congrArg Prod.snd hO3.1) 33) j).trans (h33 j)) ht hA3 hL hS hR hI hSh hF ⟨t1, t2, e32, e10, fun q hq => (t5 q hq).ag2 (fun a j w => hA3 a j (by unfold zC xC yC; omega))⟩ ((hO3.off (by unfold xC yC; omega)).trans uI_on) e12⟩
    · have hO := hR1.1
      have hA1 := tx_off hS1 hO
      have hA : ∀ a j, ¬ zC tx a j → (uI (uI v1 41 1 0) 32 6 (nI (tx + 1))).1 a j = v.1 a j := fun a j h => (uI_off (fun e => h (by unfold zC; omega))).trans ((uI_ne (fun e => h (by unfold zC; omega))).trans (hA1 a j h))
      obtain ⟨hX1, h33⟩ := tx_rf hX hS1 hO
      refine c_X12_text (d := d + 48) (t := tx) (B := v.1 42) (z := z) ((hX1.ag rfl).ag rfl) z1 ((hA 100 12 (by unfold zC; omega)).trans z3) (fun j hj => (hA 106 j (by unfold zC; omega)).trans (z4 j hj).1) (fun j hj => (z4 j hj).2) (TKS.of hS1) ht ((hA 100 10 (by unfold zC; omega)).trans t4) hg (fun e => by cases e) (fun _ v3 hO3 e12 e10 hE => ?_)
      obtain ⟨c0, c1, c2, g0, g1, g2, ecs, ees, p0, p1, p2⟩ := hE
      have hA3 : ∀ a j, ¬ (zC tx a j ∨ xC tx a j) → v3.1 a j = v.1 a j := fun a j h => (hO3.off (fun q => h (Or.inr q))).trans (hA a j (fun q => h (Or.inl q)))
      have e32 : v3.1 32 6 = nI (tx + 1) := (hO3.off (by unfold xC yC; omega)).trans uI_on
      have hT1 : ∀ a j, a = 69 + 4 * tx ∨ a = 70 + 4 * tx → v3.1 a j = v1.1 a j := fun a j h => (hO3.off (by unfold xC yC; omega)).trans ((uI_ne (by omega)).trans (uI_ne (by omega)))
      have hlen : cs.length ≤ m := gRd_len (if_neg (by rw [hS1.2.2.1]; omega)) hg
      have hm := hS1.2.1
      have hTn : TxtOk tx v3 := by
        subst ecs ees
        exact txAll (by omega) (fun i hi => (hT1 _ i (Or.inl rfl)).trans (hR1.2.2.2.1 i hi)) (fun p hp => (hT1 _ p (Or.inr rfl)).trans (hR1.2.2.2.2 p hp)) g0 g1 g2 p0 p1 p2
      refine ⟨rfl, n, tx + 1, 0, LT, rfl, tx_cpl (((hX1.ag rfl).ag rfl).ag (congrArg Prod.snd hO3.1)) (fun j => (congrFun (congrFun (congrArg Prod.snd hO3.1) 33) j).trans (h33 j)) ht hA3 hL hS hR.mo hI.mo hSh hF ⟨by omega, by omega, e32, e10, fun q hq => ?_⟩ ((hO3.off (by unfold xC yC; omega)).trans ((uI_ne (by decide)).trans uI_on)) e12⟩
      by_cases hq2 : q = tx
      · rw [hq2]; exact hTn
      · exact (t5 q (by omega)).ag2 (fun a j w => hA3 a j (by unfold zC xC yC; omega))
