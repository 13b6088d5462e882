/-! from what the constructors leave to the one world -/
def G9 (k : Nat) : Nat := if k < 7 then k else if k = 7 then 48 else if k < 54 then k + 81 else if k < 95 then k - 47 else if k < 135 then k - 46 else if k = 135 then 153 else k - 1
theorem G9_inj {i j : Nat} (hi : i < 154) (hj : j < 154) (h : G9 i = G9 j) : i = j := by
  unfold G9 at h
  repeat' split at h
  all_goals omega
def I9 (f : Nat → Int32) : MI := fun k j => if k = 150 then f j else if k < 8 then 0 else if k < 54 then -1 else if k < 95 then 0 else if k < 135 ∧ (k - 95) % 4 = 0 ∧ j = 3 then -1 else 0
def L9 (gB g : Nat → Int64) : ML := fun k j => if k = 2 then gB j else if k = 138 then g j else 0
def w9 (cy : Nat → ClassId) (aB aM : Nat → Nat) (f : Nat → Int32) (gB g : Nat → Int64) (T : va_W) (o : Nat) : va_W := (hdB cy aB gB T ++ mW cy aM f g) ++ [(o, eL cy 1 (fun _ => 0))]
theorem w9_T {cy : Nat → ClassId} {aB aM : Nat → Nat} {f : Nat → Int32} {gB g : Nat → Int64} {T : va_W} {o k : Nat} (h : k < T.length) : (w9 cy aB aM f gB g T o)[k + 7]? = T[k]? := by
  show (T ++ mW cy aM f g ++ [(o, eL cy 1 (fun _ => 0))])[k]? = T[k]?
  rw [List.append_assoc, List.getElem?_append_left h]
theorem w9_M {cy : Nat → ClassId} {aB aM : Nat → Nat} {f : Nat → Int32} {gB g : Nat → Int64} {T : va_W} {o k : Nat} (hT : T.length = 128) (h : k < 18) : (w9 cy aB aM f gB g T o)[k + 135]? = (mW cy aM f g)[k]? := by
  show (T ++ mW cy aM f g ++ [(o, eL cy 1 (fun _ => 0))])[k + 128]? = _
  rw [List.append_assoc, List.getElem?_append_right (by omega), List.getElem?_append_left (by show _ < 18; omega), show k + 128 - T.length = k by omega]
theorem w9_o {cy : Nat → ClassId} {aB aM : Nat → Nat} {f : Nat → Int32} {gB g : Nat → Int64} {T : va_W} {o : Nat} (hT : T.length = 128) : (w9 cy aB aM f gB g T o)[153]? = some (o, eL cy 1 (fun _ => 0)) := by
  show (T ++ mW cy aM f g ++ [(o, eL cy 1 (fun _ => 0))])[146]? = _
  rw [List.append_assoc, List.getElem?_append_right (by omega), hT]
  rfl
theorem adr_of {T : va_W} {k : Nat} {x : Nat × va_E} (h : T[k]? = some x) : adr T k = x.1 := by
  unfold adr
  rw [h]
  rfl
section S9
variable {cy : Nat → ClassId} {aB aM : Nat → Nat} {f : Nat → Int32} {gB g : Nat → Int64} {T : va_W} {o : Nat}
theorem adr_T {k : Nat} (h : k < T.length) : adr (w9 cy aB aM f gB g T o) (k + 7) = adr T k := by
  unfold adr
  rw [w9_T h]
theorem adr_M {k : Nat} (hT : T.length = 128) (h : k < 18) : adr (w9 cy aB aM f gB g T o) (k + 135) = aM k := by
  have e : (mW cy aM f g)[k]? = some (aM k, ((mW cy aM f g)[k]?.map Prod.snd).getD (.inr (0, []))) := by
    rcases (show k = 0 ∨ k = 1 ∨ k = 2 ∨ k = 3 ∨ k = 4 ∨ k = 5 ∨ k = 6 ∨ k = 7 ∨ k = 8 ∨ k = 9 ∨ k = 10 ∨ k = 11 ∨ k = 12 ∨ k = 13 ∨ k = 14 ∨ k = 15 ∨ k = 16 ∨ k = 17 by omega) with rfl | rfl | rfl | rfl | rfl | rfl | rfl | rfl | rfl | rfl | rfl | rfl | rfl | rfl | rfl | rfl | rfl | rfl <;> rfl
  rw [adr_of ((w9_M hT h).trans e)]
def ad9 (w : va_W) (k : Nat) : Nat := adr w (G9 k)
theorem ad9_T {k j : Nat} (h : j < T.length) (hk : G9 k = j + 7) : ad9 (w9 cy aB aM f gB g T o) k = adr T j := by
  unfold ad9
  rw [hk, adr_T h]
theorem ad9_h {k : Nat} (h : k < 7) : ad9 (w9 cy aB aM f gB g T o) k = aB k := by
  rcases (show k = 0 ∨ k = 1 ∨ k = 2 ∨ k = 3 ∨ k = 4 ∨ k = 5 ∨ k = 6 by omega) with rfl | rfl | rfl | rfl | rfl | rfl | rfl <;> rfl
theorem ad9_M {k : Nat} (hT : T.length = 128) (h : k < 18) : ad9 (w9 cy aB aM f gB g T o) (136 + k) = aM k := by
  unfold ad9
  rw [show G9 (136 + k) = k + 135 from by unfold G9; (repeat' split) <;> omega, adr_M hT h]
theorem G9_1 {k : Nat} (h1 : 8 ≤ k) (h2 : k < 54) : G9 k = k + 74 + 7 := by unfold G9; (repeat' split) <;> omega
theorem G9_2 {k : Nat} (h1 : 54 ≤ k) (h2 : k < 95) : G9 k = k - 54 + 7 := by unfold G9; (repeat' split) <;> omega
theorem G9_3 {k : Nat} (h1 : 95 ≤ k) (h2 : k < 135) : G9 k = k - 53 + 7 := by unfold G9; (repeat' split) <;> omega
theorem rfs_ad {o1 st n b : Nat} (hk : ∀ j, j < n → ad9 (w9 cy aB aM f gB g T o) (b + st * j) = adr T (o1 + st * j)) : rfs T o1 st n = fun j => if j < n then some (ad9 (w9 cy aB aM f gB g T o) (b + st * j)) else none := funext fun j => by
  unfold rfs
  by_cases h : j < n
  · rw [if_pos h, if_pos h, hk j h]
  · rw [if_neg h, if_neg h]
theorem w9_T' {k j : Nat} (hT : TS cy T) (h : j < T.length) (hk : G9 k = j + 7) : (w9 cy aB aM f gB g T o)[G9 k]? = some (ad9 (w9 cy aB aM f gB g T o) k, tsp (adr T) cy j) := by
  rw [ad9_T h hk, hk, w9_T h, hT j h]
set_option maxHeartbeats 2000000 in
theorem w9_k (hT : TS cy T) (hl : T.length = 128) {k : Nat} (h : k < 154) : (w9 cy aB aM f gB g T o)[G9 k]? = some (ad9 (w9 cy aB aM f gB g T o) k, kct cy (ad9 (w9 cy aB aM f gB g T o)) k (I9 f k) (L9 gB g k)) := by
  by_cases h7 : k < 7
  · have hc : (w9 cy aB aM f gB g T o)[G9 k]? = some (aB k, ((w9 cy aB aM f gB g T o)[G9 k]?.map Prod.snd).getD (.inr (0, []))) := by
      rcases (show k = 0 ∨ k = 1 ∨ k = 2 ∨ k = 3 ∨ k = 4 ∨ k = 5 ∨ k = 6 by omega) with rfl | rfl | rfl | rfl | rfl | rfl | rfl <;> rfl
    rw [hc, ad9_h h7]
    congr 2
    rcases (show k = 0 ∨ k = 1 ∨ k = 2 ∨ k = 3 ∨ k = 4 ∨ k = 5 ∨ k = 6 by omega) with rfl | rfl | rfl | rfl | rfl | rfl | rfl
    · show (_ : va_E) = .inr (3, fsB (ad9 (w9 cy aB aM f gB g T o)) (I9 f 0) (L9 gB g 0))
      have e1 := fun k h => ad9_h (cy := cy) (aB := aB) (aM := aM) (f := f) (gB := gB) (g := g) (T := T) (o := o) (k := k) h
      have e7 := ad9_T (cy := cy) (aB := aB) (aM := aM) (f := f) (gB := gB) (g := g) (T := T) (o := o) (k := 7) (j := 41) (by omega) rfl
      simp only [fsB]
      rw [e1 1 (by decide), e1 2 (by decide), e1 3 (by decide), e1 4 (by decide), e1 5 (by decide), e1 6 (by decide), e7]
      rfl
    · rfl
    · rfl
    · exact congrArg (eF cy 3 10) (rfs_ad (fun j hj => ad9_T (by omega) (by rw [G9_3 (by omega) (by omega)]; omega)))
    · exact congrArg (eF cy 4 6) (rfs_ad (fun j hj => ad9_T (by omega) (by rw [G9_1 (by omega) (by omega)]; omega)))
    · exact congrArg (eF cy 5 40) (rfs_ad (fun j hj => ad9_T (by omega) (by rw [G9_1 (by omega) (by omega)]; omega)))
    · exact congrArg (eF cy 6 41) (rfs_ad (fun j hj => ad9_T (by omega) (by rw [G9_2 (by omega) (by omega)]; omega)))
  · by_cases h8 : k = 7
    · subst h8
      rw [w9_T' hT (j := 41) (by omega) rfl]
      rfl
    · by_cases h14 : k < 14
      · rw [w9_T' hT (j := k + 74) (by omega) (G9_1 (by omega) (by omega))]
        obtain ⟨q, rfl⟩ : ∃ q, k = 8 + q := ⟨k - 8, by omega⟩
        rw [kd_Q (by omega)]
        unfold tsp
        rw [if_neg (by omega), if_neg (by omega), if_neg (by omega), if_pos (by omega)]
        have e0 : ∀ j, I9 f (8 + q) j = -1 := fun j => by unfold I9; rw [if_neg (by omega), if_neg (by omega), if_pos (by omega)]
        have e1 : L9 gB g (8 + q) 2 = 0 := by unfold L9; rw [if_neg (by omega), if_neg (by omega)]
        simp only [fsQ, e0, e1]
      · by_cases h54 : k < 54
        · rw [w9_T' hT (j := k + 74) (by omega) (G9_1 (by omega) (by omega))]
          obtain ⟨q, rfl⟩ : ∃ q, k = 14 + q := ⟨k - 14, by omega⟩
          rw [kd_E (by omega)]
          unfold tsp
          rw [if_neg (by omega), if_neg (by omega), if_neg (by omega), if_neg (by omega)]
          have e0 : ∀ j, I9 f (14 + q) j = -1 := fun j => by unfold I9; rw [if_neg (by omega), if_neg (by omega), if_pos (by omega)]
          have e1 : L9 gB g (14 + q) 1 = 0 := by unfold L9; rw [if_neg (by omega), if_neg (by omega)]
          simp only [fsE, e0, e1]
        · by_cases h95 : k < 95
          · rw [w9_T' hT (j := k - 54) (by omega) (G9_2 (by omega) (by omega))]
            obtain ⟨q, rfl⟩ : ∃ q, k = 54 + q := ⟨k - 54, by omega⟩
            rw [kd_T (by omega)]
            unfold tsp
            rw [if_pos (by omega)]
            have e1 : L9 gB g (54 + q) = fun _ => 0 := funext fun j => by unfold L9; rw [if_neg (by omega), if_neg (by omega)]
            rw [e1]
          · by_cases h135 : k < 135
            · rw [w9_T' hT (j := k - 53) (by omega) (G9_3 (by omega) (by omega))]
              unfold tsp
              rw [if_neg (by omega), if_neg (by omega), if_pos (by omega)]
              obtain ⟨q, r, hr, rfl⟩ : ∃ q r, r < 4 ∧ k = 95 + 4 * q + r := ⟨(k - 95) / 4, (k - 95) % 4, by omega, by omega⟩
              have e2 : ∀ j, j ≠ 3 → I9 f (95 + 4 * q + r) j = 0 := fun j hj => by unfold I9; rw [if_neg (by omega), if_neg (by omega), if_neg (by omega), if_neg (by omega), if_neg (by omega)]
              rcases (show r = 0 ∨ r = 1 ∨ r = 2 ∨ r = 3 by omega) with rfl | rfl | rfl | rfl
              · rw [if_pos (by omega)]
                have e3 : I9 f (95 + 4 * q + 0) 3 = -1 := by unfold I9; rw [if_neg (by omega), if_neg (by omega), if_neg (by omega), if_neg (by omega), if_pos (by omega)]
                have e4 := e2 2 (by decide)
                simp only [Nat.add_zero] at e3 e4 ⊢
                rw [kd_P (by omega)]
                simp only [fsP, e3, e4]
                rw [ad9_T (k := 96 + 4 * q) (j := 43 + 4 * q) (by omega) (by rw [G9_3 (by omega) (by omega)]; omega), ad9_T (k := 97 + 4 * q) (j := 44 + 4 * q) (by omega) (by rw [G9_3 (by omega) (by omega)]; omega), ad9_T (k := 98 + 4 * q) (j := 45 + 4 * q) (by omega) (by rw [G9_3 (by omega) (by omega)]; omega)]
                rw [show 95 + 4 * q - 53 + 1 = 43 + 4 * q by omega, show 95 + 4 * q - 53 + 2 = 44 + 4 * q by omega, show 95 + 4 * q - 53 + 3 = 45 + 4 * q by omega]
              · rw [if_neg (by omega), if_neg (by omega), show 95 + 4 * q + 1 = 96 + 4 * q by omega, kd_PA (by omega)]
                have e5 : I9 f (96 + 4 * q) = fun _ => 0 := funext fun j => by unfold I9; rw [if_neg (by omega), if_neg (by omega), if_neg (by omega), if_neg (by omega), if_neg (by omega)]
                rw [e5]
              · rw [if_neg (by omega), if_neg (by omega), show 95 + 4 * q + 2 = 97 + 4 * q by omega, kd_PS (by omega)]
                have e5 : I9 f (97 + 4 * q) = fun _ => 0 := funext fun j => by unfold I9; rw [if_neg (by omega), if_neg (by omega), if_neg (by omega), if_neg (by omega), if_neg (by omega)]
                rw [e5]
              · rw [if_neg (by omega), if_pos (by omega), show 95 + 4 * q + 3 = 98 + 4 * q by omega, kd_PG (by omega)]
                have e5 : I9 f (98 + 4 * q) = fun _ => 0 := funext fun j => by unfold I9; rw [if_neg (by omega), if_neg (by omega), if_neg (by omega), if_neg (by omega), if_neg (by omega)]
                rw [e5]
            · by_cases h135' : k = 135
              · subst h135'
                have e := w9_o (cy := cy) (aB := aB) (aM := aM) (f := f) (gB := gB) (g := g) (o := o) hl
                rw [show G9 135 = 153 from rfl, e, show ad9 (w9 cy aB aM f gB g T o) 135 = o from adr_of e]
                rfl
              · obtain ⟨q, rfl⟩ : ∃ q, k = 136 + q := ⟨k - 136, by omega⟩
                rw [ad9_M hl (by omega), show G9 (136 + q) = q + 135 from by unfold G9; (repeat' split) <;> omega, w9_M hl (by omega)]
                have e1 := fun k h => ad9_M (cy := cy) (aB := aB) (aM := aM) (f := f) (gB := gB) (g := g) (T := T) (o := o) (k := k) hl h
                by_cases hq : q = 0
                · subst hq
                  show (some (aM 0, _) : Option (Nat × va_E)) = some (aM 0, .inr (4, fsM (ad9 (w9 cy aB aM f gB g T o)) (I9 f 136) (L9 gB g 136)))
                  simp only [fsM]
                  rw [show ad9 (w9 cy aB aM f gB g T o) 137 = aM 1 from e1 1 (by decide), show ad9 (w9 cy aB aM f gB g T o) 138 = aM 2 from e1 2 (by decide), show ad9 (w9 cy aB aM f gB g T o) 139 = aM 3 from e1 3 (by decide), show ad9 (w9 cy aB aM f gB g T o) 140 = aM 4 from e1 4 (by decide), show ad9 (w9 cy aB aM f gB g T o) 141 = aM 5 from e1 5 (by decide), show ad9 (w9 cy aB aM f gB g T o) 142 = aM 6 from e1 6 (by decide), show ad9 (w9 cy aB aM f gB g T o) 143 = aM 7 from e1 7 (by decide), show ad9 (w9 cy aB aM f gB g T o) 144 = aM 8 from e1 8 (by decide), show ad9 (w9 cy aB aM f gB g T o) 145 = aM 9 from e1 9 (by decide), show ad9 (w9 cy aB aM f gB g T o) 146 = aM 10 from e1 10 (by decide), show ad9 (w9 cy aB aM f gB g T o) 147 = aM 11 from e1 11 (by decide), show ad9 (w9 cy aB aM f gB g T o) 148 = aM 12 from e1 12 (by decide), show ad9 (w9 cy aB aM f gB g T o) 149 = aM 13 from e1 13 (by decide), show ad9 (w9 cy aB aM f gB g T o) 150 = aM 14 from e1 14 (by decide), show ad9 (w9 cy aB aM f gB g T o) 151 = aM 15 from e1 15 (by decide), show ad9 (w9 cy aB aM f gB g T o) 152 = aM 16 from e1 16 (by decide), show ad9 (w9 cy aB aM f gB g T o) 153 = aM 17 from e1 17 (by decide)]
                  rfl
                · rcases (show q = 1 ∨ q = 2 ∨ q = 3 ∨ q = 4 ∨ q = 5 ∨ q = 6 ∨ q = 7 ∨ q = 8 ∨ q = 9 ∨ q = 10 ∨ q = 11 ∨ q = 12 ∨ q = 13 ∨ q = 14 ∨ q = 15 ∨ q = 16 ∨ q = 17 by omega) with rfl | rfl | rfl | rfl | rfl | rfl | rfl | rfl | rfl | rfl | rfl | rfl | rfl | rfl | rfl | rfl | rfl <;> rfl
theorem w9_start {D : va_G} {A : Nat → Prop} {H : Heap} (hT : TS cy T) (hl : T.length = 128) (hP : va_P D vwCl (w9 cy aB aM f gB g T o) H) (hD : va_D A (w9 cy aB aM f gB g T o)) : gP D cy (ad9 (w9 cy aB aM f gB g T o)) (I9 f) (L9 gB g) H ∧ gD (ad9 (w9 cy aB aM f gB g T o)) A := by
  refine ⟨fun k q hq => ?_, fun i j hi hj e => ?_, fun k hk => ?_⟩
  · obtain ⟨h1, rfl⟩ := gw_lt hq
    exact hP _ _ (w9_k hT hl h1)
  · exact G9_inj hi hj (hD.1 _ _ _ _ (w9_k hT hl hi) (w9_k hT hl hj) e)
  · exact hD.2 _ _ (w9_k hT hl hk)
end S9
