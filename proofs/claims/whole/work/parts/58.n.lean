theorem tell_fr {S : HI} {x : Int32} (hd : vp_in (S 1 6) 7) : Fr (fun a => 18 ≤ a) S (fX0_tellOne S x) := by
  unfold fX0_tellOne
  repeat' split
  · exact Fr.refl.put (by omega)
  · exact (Fr.refl.put (by omega)).put (by omega)
  · exact Fr.refl.put (by omega)
  · exact Fr.refl.put (by omega)
  · exact fun a ha => addTrace_k hd ha
  · exact Fr.refl.put (by omega)
def Km (Kb K : HI) : Prop := ∀ a b, (59 < a ∨ a < 52 ∨ (a = 52 ∧ (b < 3 ∨ 5 < b))) → K a b = Kb a b
theorem tell_loop {I S Kb : HI} {m : Nat} (hm : vp_in (I 47 1) 97) (hc : Cf I S) (hSm : ∀ t, t < m → Sm I S Kb t) (h16 : Kb 52 16 = nI m) (h13 : Kb 52 13 = 0) (h65 : ∀ q, q < 146 → Kb 65 q = Kb (la q) (lb q)) (hR0 : R S (up Kb 52 13 (I 47 1))) : ∀ n i (S' K' : HI) (room : Int32), i + n = m → R S' (up K' 52 13 (I 47 1)) → Fr (fun a => 18 ≤ a) S S' → Km Kb K' → room = nI (6 - ix (S' 1 6)) →
    (∃ t K2, t < m ∧ foE n i (fun (i : Nat) (s : Int32) => fX0_faultyOne_b7 S i s) (fun (s : Int32) => fX0_faultyOne_x7 s) room = -2000 - S 49 t ∧ foE n i (fun (i : Nat) (s : HI) => fX6_rink_b84 i s) (fun (s : HI) => fX6_rink_x84 s) K' = (-2000 - S 49 t, K2) ∧ R (up S 47 1 0) K2 ∧ Fr Ph Kb K2) ∨
    (foE n i (fun (i : Nat) (s : Int32) => fX0_faultyOne_b7 S i s) (fun (s : Int32) => fX0_faultyOne_x7 s) room = 0 ∧ ∃ K2, foE n i (fun (i : Nat) (s : HI) => fX6_rink_b84 i s) (fun (s : HI) => fX6_rink_x84 s) K' = (nI m, K2) ∧ R (up (fo n i (fun (i : Nat) (s : HI) => fX0_tellTo_b33 i s) S') 47 1 0) K2 ∧ Fr (fun a => 18 ≤ a) S (fo n i (fun (i : Nat) (s : HI) => fX0_tellTo_b33 i s) S') ∧ Fr Ph Kb K2)
  | 0, i, S', K', room, hi, hR, hF, hK, hr => by
    refine Or.inr ⟨by rw [foE_0]; rfl, K', ?_, ?_, ?_, fun a ha => ?_⟩
    · rw [foE_0]
      unfold fX6_rink_x84
      rw [hK 52 16 (by omega), h16]
    · rw [fo_0]; exact rz hR (by rw [hK 52 13 (by omega)]; exact h13)
    · rw [fo_0]; exact hF
    · have ha2 : a < 52 := ha
      funext b; exact hK a b (by omega)
  | n + 1, i, S', K', room, hi, hR, hF, hK, hr => by
    obtain ⟨q, q97, s49, k62, k63, hok, hV⟩ := hSm i (by omega)
    have hcs8 : S 48 = I 48 := hc.1 48 (by omega)
    have h47 : S' 47 1 = I 47 1 := by rw [hF 47 (by omega)]; exact hc.2
    have h48 : S' 48 = I 48 := by rw [hF 48 (by omega)]; exact hcs8
    have h49 : S' 49 i = nI q := by rw [hF 49 (by omega)]; exact s49
    have k64 : ∀ b, K' 64 b = Kb 64 b := fun b => hK 64 b (by omega)
    have key := tell1 (A := S) (S' := S') (K' := K') (q := q) (i := i) (d := ix (S' 1 6)) hR h47 h48 hc.2 hcs8 hm q97 (by rw [hK 63 i (by omega)]; exact k63) hok (by rw [k64, k64, k64]; exact hV) rfl
    unfold Tl at key
    rw [← hr] at key
    have hC : Km Kb (fX6_comes K' i).2 := fun a b hab => by rw [comes_ne hab]; exact hK a b hab
    rw [foE_s, foE_s, fo_s]
    rcases key with ⟨m1, m2, m3⟩ | ⟨m1, m2, m3, m4⟩
    · have e1 : fX0_faultyOne_b7 S i room = .inl (-2000 - S 49 i) := by
        unfold fX0_faultyOne_b7
        rw [s49, if_pos m1]
      have e2 : fX6_rink_b84 i K' = .inl (-2000 - S 49 i, fX6_carryAll_a (fX6_comes K' i).2 0) := by
        unfold fX6_rink_b84
        rw [if_pos m2, carryAll_k_a (Or.inl rfl) (Or.inl (by omega)), hC 62 i (by omega), k62, s49]
      rw [e1, e2]
      refine Or.inl ⟨i, fX6_carryAll_a (fX6_comes K' i).2 0, by omega, rfl, rfl, ?_, fun a ha => ?_⟩
      · refine restore_R hR0 h13 h65 hC (fun t ht => ?_)
        have z := hR.hF6 t ht
        rw [up_ne2 (by omega)] at z
        rw [m3]; exact z
      · have ha2 : a < 52 := ha
        funext b
        rw [carryAll_k_a (Or.inl rfl) (by omega)]
        exact hC a b (by omega)
    · have e1 : fX0_faultyOne_b7 S i room = .inr (if cs I q = 116 then room + (-1) else if cs I q = 119 then 6 else room) := by
        unfold fX0_faultyOne_b7
        rw [s49, if_neg m1, show fX0_signAt S (nI q) = cs I q from signAt_congr hc.2 hcs8 (nI q)]
        split
        · rfl
        · split <;> rfl
      have e2 : fX6_rink_b84 i K' = .inr (fX6_comes K' i).2 := by
        unfold fX6_rink_b84
        rw [if_neg m2]
      have e3 : fX0_tellTo_b33 i S' = fX0_tellOne S' (nI q) := by unfold fX0_tellTo_b33; rw [h49]
      rw [e1, e2, e3]
      exact tell_loop hm hc hSm h16 h13 h65 hR0 n (i + 1) (fX0_tellOne S' (nI q)) (fX6_comes K' i).2 _ (by omega) m3 (hF.trans (tell_fr hR.hd)) hC m4
theorem smr {I J : HI} (hR : R I J) : (fX5_rink I).1 = (fX6_rink J).1 ∧ R (fX5_rink I).2 (fX6_rink J).2 ∧ Fr Pl I (fX5_rink I).2 ∧ Fr Ph J (fX6_rink J).2 := by
  have hm := hR.hm
  unfold fX5_rink fX0_tellTo fX6_rink fX6_rink_c15
  have mfJ : ∀ a b, ¬ (a = 52 ∧ (b = 10 ∨ b = 14 ∨ b = 15 ∨ b = 16)) → up (up (up (up J 52 10 0) 52 14 0) 52 15 0) 52 16 0 a b = J a b := fun a b h => by rw [up_o (by omega), up_o (by omega), up_o (by omega), up_o (by omega)]
  have j14 : up (up (up (up J 52 10 0) 52 14 0) 52 15 0) 52 16 0 52 14 = 0 := by rw [up_k (by omega), up_k (by omega), up_v]
  have j15 : up (up (up (up J 52 10 0) 52 14 0) 52 15 0) 52 16 0 52 15 = 0 := by rw [up_k (by omega), up_v]
  have j16 : up (up (up (up J 52 10 0) 52 14 0) 52 15 0) 52 16 0 52 16 = 0 := up_v
  generalize up (up (up (up J 52 10 0) 52 14 0) 52 15 0) 52 16 0 = Jb at mfJ j14 j15 j16 ⊢
  have hcJ : Rc I Jb := hR.2.2.1.c rfl rfl (mfJ 52 13 (by omega)) (by funext b; exact mfJ 61 b (by omega))
  have hrd := read_loop hcJ 49 0 0 (up (up I 47 4 0) 47 3 0) Jb rfl ⟨⟨fun a ha => by rw [up_ne a (by omega), up_ne a (by omega)], by rw [up_k (by omega), up_k (by omega)]⟩, fun _ _ _ _ _ _ => rfl, ⟨by rw [up_k (by omega), up_v]; rfl, by rw [up_v]; rfl⟩, ⟨j14, j15, j16⟩, by omega, by omega, fun t ht => absurd ht (Nat.not_lt_zero t)⟩ (Or.inl rfl)
  obtain ⟨p1, p2, p3, p4, p5⟩ := passAll_facts hm
  have hpa : foE (96 - 0) 0 (fun (i : Nat) (s : HI) => fX0_passAll_b12 i s) (fun (s : HI) => fX0_passAll_x12 s) (up (up I 47 4 0) 47 3 0) = fX0_passAll I := rfl
  rw [hpa] at hrd
  generalize fX0_passAll I = P at hrd p3 p4 p5 ⊢
  obtain ⟨v, S⟩ := P
  rw [show 50 - 0 = 50 from rfl] at hrd
  generalize wh 50 (fun (s : HI) => fX6_rink_b20 s) Jb = K at hrd ⊢
  obtain ⟨hc, mf, hz⟩ := hrd
  dsimp only at hc hz p3 p4 p5 ⊢
  have hKJ : ∀ a b, a ≠ 62 → a ≠ 63 → a ≠ 64 → ¬ (a = 52 ∧ (b = 10 ∨ b = 14 ∨ b = 15 ∨ b = 16)) → K a b = J a b := fun a b h1 h2 h3 h4 => (mf a b h1 h2 h3 (by omega)).trans (mfJ a b h4)
  have hRS : R S J := hR.c (hc.1.sub (fun a ha => by omega)) hc.2
  have hRK : R S K := hRS.m (fun a ha => by funext b; exact hKJ a b (by omega) (by omega) (by omega) (by omega)) (fun b hb => hKJ 52 b (by omega) (by omega) (by omega) (by omega)) (fun t _ => ⟨hKJ 56 t (by omega) (by omega) (by omega) (by omega), hKJ 57 t (by omega) (by omega) (by omega) (by omega), hKJ 58 t (by omega) (by omega) (by omega) (by omega), fun k _ => hKJ 59 _ (by omega) (by omega) (by omega) (by omega)⟩) (fun t ht => by rw [hKJ 56 t (by omega) (by omega) (by omega) (by omega)]; exact hRS.hF6 t ht)
  have k13 : K 52 13 = I 47 1 := by rw [hKJ 52 13 (by omega) (by omega) (by omega) (by omega)]; exact hR.2.2.1.2.1
  have eK : up (up K 52 13 0) 52 13 (I 47 1) = K := by rw [up_up, ← k13, up_id]
  have hloS : Fr Pl I S := fun a ha => hc.1 a (by have : 52 ≤ a := ha; omega)
  have hhiK : Fr Ph J K := fun a ha => by
    have ha2 : a < 52 := ha
    funext b
    exact hKJ a b (by omega) (by omega) (by omega) (by omega)
  unfold fX0_tellTo_c4 fX0_tellTo_26 fX6_rink_x20 fX6_rink_c57
  have k15 : up K 52 13 0 52 15 = K 52 15 := up_k (by omega)
  have k14 : up K 52 13 0 52 14 = K 52 14 := up_k (by omega)
  rw [k15, k14]
  rcases hz with ⟨z1, z2, z3⟩ | ⟨z1, z2, m, hm50, z3, z4, z5⟩
  · rw [if_pos z1, if_neg (m1000 p4), if_neg z2, z3]
    exact ⟨rfl, rz (K := up K 52 13 0) (N := I 47 1) (by rw [eK]; exact hRK) up_v, fl hloS (by omega), fh hhiK (by omega)⟩
  · rw [if_neg z1, if_pos z2]
    unfold fX6_rink_c82
    have tk := carryAll_takes_a (up K 52 13 0)
    have tf : ∀ a b, a ≠ 65 → ¬ (a = 52 ∧ 23 ≤ b ∧ b ≤ 25) → fX6_carryAll_a (up K 52 13 0) 1 a b = up K 52 13 0 a b := tk.2
    have hf2 : Fr Ph J (fX6_carryAll_a (up K 52 13 0) 1) := (fh hhiK (j := 52) (k := 13) (v := 0) (by omega)).trans (fun a ha => by
      have ha2 : a < 52 := ha
      funext b
      exact tf a b (by omega) (by omega))
    have h65 : ∀ q, q < 146 → fX6_carryAll_a (up K 52 13 0) 1 65 q = fX6_carryAll_a (up K 52 13 0) 1 (la q) (lb q) := fun q hq => by
      have hl := la_ok hq
      rw [tk.1 q hq, tf _ _ (by omega) (by omega)]
    generalize fX6_carryAll_a (up K 52 13 0) 1 = Kb at tf h65 hf2 ⊢
    clear tk
    have tb : ∀ a, a ≠ 52 → a ≠ 65 → Kb a = K a := fun a h1 h2 => by funext b; rw [tf a b h2 (by omega), up_ne2 h1]
    have b16 : Kb 52 16 = nI m := by rw [tf 52 16 (by omega) (by omega), up_k (by omega)]; exact z4
    have b13 : Kb 52 13 = 0 := by rw [tf 52 13 (by omega) (by omega), up_v]
    have hRb : R S (up Kb 52 13 (I 47 1)) := hRK.m (fun a ha => by rw [up_ne a (by omega)]; exact tb a (by omega) (by omega)) (fun b hb => by
      by_cases q : b = 13
      · rw [q, up_v, k13]
      · rw [up_k q, tf 52 b (by omega) (by omega), up_k q]) (fun t _ => by
      rw [up_ne2 (by omega), up_ne2 (by omega), up_ne2 (by omega), tb 56 (by omega) (by omega), tb 57 (by omega) (by omega), tb 58 (by omega) (by omega)]
      exact ⟨rfl, rfl, rfl, fun k _ => by rw [up_ne2 (by omega), tb 59 (by omega) (by omega)]⟩) (fun t ht => by rw [up_ne2 (by omega), tb 56 (by omega) (by omega)]; exact hRK.hF6 t ht)
    have hSm : ∀ t, t < m → Sm I S Kb t := fun t ht => by
      obtain ⟨q, a1, a2, a3, a4, a5, a6⟩ := z5 t ht
      refine ⟨q, a1, a2, by rw [tb 62 (by omega) (by omega)]; exact a3, by rw [tb 63 (by omega) (by omega)]; exact a4, a5, ?_⟩
      rw [tb 64 (by omega) (by omega)]; exact a6
    have im : ix (S 47 3) = m := by rw [z3, ix_nI (by omega)]
    have ib : ix (Kb 52 16) = m := by rw [b16, ix_nI (by omega)]
    have d6 := hRS.d6
    have hroom : 6 - S 1 6 = nI (6 - ix (S 1 6)) := nv_isub (a := 6) rfl (vx hRS.hd) (by omega)
    unfold fX0_faultyOne
    rw [im, ib, hroom]
    rcases tell_loop hm hc hSm b16 b13 h65 hRb m 0 S Kb _ (by omega) hRb Fr.refl (fun _ _ _ => rfl) rfl with ⟨t, K2, ht, q1, q2, q3, q4⟩ | ⟨q1, K2, q2, q3, q4, q5⟩
    · rw [q1, q2, if_neg (m2000 (p5 t (by rw [im]; exact ht)))]
      exact ⟨rfl, q3, fl hloS (by omega), hf2.trans q4⟩
    · rw [q1, q2, if_pos rfl]
      unfold fX0_tellTo_x33
      refine ⟨?_, q3, fl (hloS.trans (fun a ha => q4 a (by have : 52 ≤ a := ha; omega))) (by omega), hf2.trans q5⟩
      show (fo m 0 _ S) 47 3 = nI m
      rw [q4 47 (by omega)]
      exact z3
theorem pr_rink {I : HI} (hR : R I I) : R I ((fX5_rink I).2) ∧ (fX5_rink I).1 = (fX6_rink ((fX5_rink I).2)).1 ∧ R ((fX6_rink ((fX5_rink I).2)).2) ((fX6_rink ((fX5_rink I).2)).2) := by
  have h1 := hR.lo (smr hR).2.2.1
  obtain ⟨e, r, -, hi⟩ := smr h1
  exact ⟨h1, e, r.hi hi⟩
