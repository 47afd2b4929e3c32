/-! an agenda before its loop: the kinds of its cells -/
theorem z_full (x : Int32) : (-2147483648 : Int) ≤ x.toInt ∧ x.toInt ≤ 2147483647 := z_b32 x
theorem z_agd {M : zH} {T : List zK} (h : z_W M T) {kp q t : Nat} {p1 p2 p3 p4 av bv : Int32} {wv : Int64} (q0 : 1 ≤ q) (q1 : q ≤ 10) (t8 : t ≤ 8) (hk : T[kp]? = some (.inr (108, 1, t * z_bl q, 0, 0))) (hp1 : p1.toInt = (q : Int)) (hp4 : p4.toInt = (t : Int)) (ha : av.toInt = (z_po q : Int) - 1) (hb : bv.toInt = (z_bl q : Int)) : z_W (M ++ [.inr (2, [.int p1, .int av, .int p2, .int p3, .int p4, .null, .int bv, .long wv, .ref kp, .ref (M.length + 2), .int 0, .null, .ref (M.length + 3), .ref (M.length + 1)]), .inl (0, 12, .inl fun _ => 0), .inl (1, z_bl q, .inr (.inl fun _ => 0)), .inl (1, z_bl q, .inr (.inl fun _ => 0))]) (T ++ [.inl (2, q, t, 0, 1), z_ai 113 12 0 (64 * z_bl q - 1), z_al 109 (z_bl q), z_al 112 (z_bl q)]) := by
  have z0 : (0 : Int32).toInt = 0 := rfl
  have hbl := z_blb q0 q1
  have hx : ∀ (κs : List zK) (j : Nat), (T ++ κs)[M.length + j]? = κs[j]? := fun κs j => by
    rw [h.1, List.getElem?_append_right (by omega), Nat.add_sub_cancel_left]
  refine h.block rfl (fun i e κ h1 h2 => ?_)
  match i, h1, h2 with
  | 0, h1, h2 =>
    cases h1
    cases h2
    refine ⟨rfl, rfl, ⟨by decide, fun _ => ⟨q0, q1, t8, by decide⟩, fun z => by omega⟩, fun k v hv => ?_⟩
    match k, hv with
    | 0, hv => cases hv; exact ⟨by omega, by omega⟩
    | 1, hv => cases hv; exact ⟨by omega, by omega⟩
    | 2, hv => cases hv; exact z_full p2
    | 3, hv => cases hv; exact z_full p3
    | 4, hv => cases hv; exact ⟨by omega, by omega⟩
    | 5, hv => cases hv; exact True.intro
    | 6, hv => cases hv; exact ⟨by omega, by omega⟩
    | 7, hv => cases hv; exact True.intro
    | 8, hv => cases hv; show _ = _; rw [List.getElem?_append_left (List.getElem?_eq_some_iff.mp hk).1]; exact hk
    | 9, hv => cases hv; exact hx _ 2
    | 10, hv => cases hv; exact z_full 0
    | 11, hv => cases hv; exact True.intro
    | 12, hv => cases hv; exact hx _ 3
    | 13, hv => cases hv; exact hx _ 1
  | 1, h1, h2 => cases h1; cases h2; exact Or.inr ⟨rfl, rfl, rfl, fun i _ => ⟨by show _ ≤ (0 : Int32).toInt; rw [z0]; decide, by show (0 : Int32).toInt ≤ _; rw [z0]; omega⟩⟩
  | 2, h1, h2 => cases h1; cases h2; exact Or.inr ⟨rfl, rfl, rfl⟩
  | 3, h1, h2 => cases h1; cases h2; exact Or.inr ⟨rfl, rfl, rfl⟩
