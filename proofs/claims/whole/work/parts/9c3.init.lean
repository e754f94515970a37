/-! class and reference are joint at the start -/
theorem ct_l7 (k j : Nat) (hk : k < 8) : ct_l k j = jg ct_m 0 k j := by
  unfold jg
  match k, hk with
  | 0, _ => rw [if_neg (by omega)]; rfl
  | 1, _ => rw [if_neg (by omega)]; rfl
  | 2, _ => rw [if_neg (by omega)]; rfl
  | 3, _ => rw [if_neg (by omega)]; rfl
  | 4, _ => rw [if_neg (by omega)]; rfl
  | 5, _ => rw [if_neg (by omega)]; rfl
  | 6, _ => rw [if_neg (by omega)]; rfl
  | 7, _ => rw [if_pos ⟨rfl, by omega⟩]; rfl
  | _ + 8, h => exact absurd h (by omega)
theorem ct_lmx : ct_l = sp_mx (jg ct_m 0) ct_l := by
  funext k
  by_cases h : k < 8
  · rw [sp_mx_lt h]
    funext j
    exact ct_l7 k j h
  · rw [sp_mx_ge h]
theorem ct_lo : jo ct_l := by
  intro k j hk hn
  match k, hk, hn with
  | 0, _, hn =>
    have h2 : ¬ j = 2 := fun e => hn (Or.inl ⟨rfl, Or.inl (by omega)⟩)
    show (if j = 2 then (-1 : Int32) else 0) = 0
    rw [if_neg h2]
  | 1, _, _ => rfl
  | 2, _, _ => rfl
  | 3, _, _ => rfl
  | 4, _, _ => rfl
  | 5, _, _ => rfl
  | 6, _, _ => rfl
  | 7, _, _ => rfl
  | _ + 8, h, _ => exact absurd h (by omega)
theorem ct_mz : jz ct_m := by
  intro k j hk hk7 hn
  match k, hk, hk7, hn with
  | 0, _, _, hn =>
    have h2 : ¬ j = 2 := fun e => hn (Or.inl ⟨rfl, Or.inl (by omega)⟩)
    show (if j = 2 then (-1 : Int32) else 0) = 0
    rw [if_neg h2]
  | 1, _, _, _ => rfl
  | 2, _, _, _ => rfl
  | 3, _, _, _ => rfl
  | 4, _, _, _ => rfl
  | 5, _, _, _ => rfl
  | 6, _, _, _ => rfl
  | 7, _, h7, _ => exact absurd rfl h7
  | _ + 8, h, _, _ => exact absurd h (by omega)
theorem ct_rg : sp_Rg ct_r (fun _ => 0) (fun _ => 0) (fun _ => 0) (fun _ => 0) 0 0 0 := by
  refine ⟨⟨rfl, by omega, fun t h => absurd h (Nat.not_lt_zero t), rfl, by omega, fun f h => absurd h (Nat.not_lt_zero f)⟩, fun t h => absurd h (Nat.not_lt_zero t), fun t h => absurd h (Nat.not_lt_zero t), by decide, rfl, by omega, fun y h => absurd h (Nat.not_lt_zero y)⟩
theorem ct_bit {t c : Nat} : (ct_r 5 t) >>> (nI c &&& 31) &&& 1 = 0 ↔ ct_r 5 (12 * t + c) = 0 := by
  show ((0 : Int32) >>> (nI c &&& 31) &&& 1 = 0) ↔ ((0 : Int32) = 0)
  rw [Int32.zero_shiftRight, Int32.zero_and]
theorem ct_jR : jR ct_r ct_r (fun _ => 0) (fun _ => 0) (fun _ => 0) (fun _ => 0) 0 0 0 :=
  ⟨fun _ _ _ => rfl, fun _ _ _ _ => ct_bit, fun _ _ => Or.inl rfl, fun y h => absurd h (Nat.not_lt_zero y), ct_rg⟩
theorem ct_iv : sp_Iv ct_r ct_m 0 0 0 (fun _ => 0) 20000 :=
  ⟨fun t h => absurd h (Nat.not_lt_zero t), ⟨by decide, by decide⟩, Or.inl (by decide), fun f h => absurd h (Nat.not_lt_zero f), by decide, by decide⟩
theorem ct_jZ : jZ ct_m 0 0 :=
  ⟨fun _ _ _ => ⟨fun _ _ => ⟨rfl, rfl⟩, rfl, rfl⟩, fun _ _ _ => ⟨rfl, rfl, (by decide : -1 ≤ (0 : Int32).toInt)⟩, ct_mz⟩
theorem ct_jL : jL ct_l ct_m ct_r (fun _ => 0) 0 0 0 0 0 :=
  ⟨ct_lmx, fun h => absurd (by decide : ct_m 0 2 < 0) h, ct_iv, ct_jZ, Or.inl rfl, by decide⟩
theorem ct_jI : jI ct_l ct_7 ct_8 ct_r (fun _ => 0) 0 0 0 :=
  ⟨rfl, Or.inl rfl, fun h => absurd h (by decide)⟩
theorem ct_jS : jS ct_7 ct_8 (fun _ => 0) 0 0 0 0 :=
  ⟨rfl, rfl, ⟨by omega, fun _ _ => Or.inl rfl⟩, rfl, rfl, rfl, by omega, rfl, ⟨rfl, rfl, rfl, rfl, rfl, rfl, rfl, rfl, rfl⟩, fun r h => absurd h (Nat.not_lt_zero r), fun _ _ => ⟨Or.inl rfl, 0, by omega, rfl⟩, rfl, rfl⟩
theorem ct_jA : jA ct_s0 := ⟨fun _ => 0, fun _ => 0, fun _ => 0, fun _ => 0, 0, 0, 0, 0, 0, ct_jR, ct_jL, ⟨ct_jI, ct_lo, ct_lo⟩, ct_jS⟩
