/-! OUR OWN JUDGEMENT: the world is a fixed set of cells; what they hold is a memory of ints, longs and timers' references by (place, slot); V is W over that memory. -/
def gw : List Cond := lw_tbl.filter goodWord
theorem gw_good {w : Cond} (h : w ∈ gw) : (w.onTables && w.keeps) = true ∨ ∃ ty, w = .arrayClass ty := good_of_word (List.mem_filter.mp h).2
theorem gw_of {w : Cond} (h : w ∈ lw_tbl) (hg : goodWord w = true) : w ∈ gw := List.mem_filter.mpr ⟨h, hg⟩
theorem gw_at {w : Cond} (i : Nat) (h : tables_1[i]? = some w) (hg : goodWord w = true) : w ∈ gw := gw_of (List.mem_append_right _ (List.mem_of_getElem? h)) hg
theorem gw_pr {w : Cond} (i : Nat) (h : (k2_sels lw_privs)[i]? = some w) (hg : goodWord w = true) : w ∈ gw := gw_of (List.mem_append_left _ (List.mem_of_getElem? h)) hg
/-- the memory: ints (booleans too), longs, references of the lines -/
abbrev Mm : Type := (Nat → Nat → Int32) × (Nat → Nat → Int64) × (Nat → Nat → Option Nat)
def up2 {α : Type} (f : Nat → Nat → α) (a j : Nat) (v : α) : Nat → Nat → α := fun x y => if x = a ∧ y = j then v else f x y
theorem up2_self {α : Type} (f : Nat → Nat → α) (a j : Nat) (v : α) : up2 f a j v a j = v := by simp [up2]
theorem up2_ne {α : Type} (f : Nat → Nat → α) {a j x y : Nat} (v : α) (h : x ≠ a ∨ y ≠ j) : up2 f a j v x y = f x y := by
  unfold up2
  split
  · next q => exact absurd q (by rintro ⟨q1, q2⟩; rcases h with h | h <;> contradiction)
  · rfl
def wI (σ : Mm) (a j : Nat) (v : Int32) : Mm := (up2 σ.1 a j v, σ.2)
def wL (σ : Mm) (a j : Nat) (v : Int64) : Mm := (σ.1, up2 σ.2.1 a j v, σ.2.2)
def wT (σ : Mm) (a j : Nat) (v : Option Nat) : Mm := (σ.1, σ.2.1, up2 σ.2.2 a j v)
/-- the shape: which places there are, their kinds (0 .. 9 objects, 10 ints, 11 longs, 12 a line's row, 13 a row of timers that stays), lengths, references that stay -/
abbrev Sh : Type := List Nat × (Nat → Nat) × (Nat → Nat) × (Nat → Nat → Option Nat)
/-- the launch, the first address of ours, addresses of places and back, classes, slots -/
abbrev Wp : Type := Launch × Nat × (Nat → Nat) × (Nat → Nat) × va_G × ClassId × ClassId × ClassId
abbrev Wp.l (w : Wp) : Launch := w.1
abbrev Wp.B (w : Wp) : Nat := w.2.1
abbrev Wp.ad (w : Wp) : Nat → Nat := w.2.2.1
abbrev Wp.un (w : Wp) : Nat → Nat := w.2.2.2.1
abbrev Wp.D (w : Wp) : va_G := w.2.2.2.2.1
abbrev Wp.ty (w : Wp) : List (ClassId × FieldType) := [(w.2.2.2.2.2.1, .int), (w.2.2.2.2.2.2.1, .long), (w.2.2.2.2.2.2.2, .object RX6)]
def nf (k : Nat) : Nat := match k with
  | 0 => 8 | 1 => 2 | 2 => 8 | 3 => 2 | 4 => 4 | 5 => 2 | 6 => 15 | 7 => 7 | 8 => 12 | 9 => 21 | _ => 0
def RXn (k : Nat) : String := match k with
  | 0 => RX0 | 1 => RX1 | 2 => RX2 | 3 => RX3 | 4 => RX4 | 5 => RX5 | 6 => RX6 | 7 => RX7 | 8 => RX8 | _ => RX9
def TXn (k : Nat) : u_T := match k with
  | 0 => TX0 | 1 => TX1 | 2 => TX2 | 3 => TX3 | 4 => TX4 | 5 => TX5 | 6 => TX6 | 7 => TX7 | 8 => TX8 | _ => TX9
def tyXn (k : Nat) : Nat → FieldType := match k with
  | 0 => tyX0 | 1 => tyX1 | 2 => tyX2 | 3 => tyX3 | 4 => tyX4 | 5 => tyX5 | 6 => tyX6 | 7 => tyX7 | 8 => tyX8 | _ => tyX9
def cvv (w : Wp) (v : Value) : Value := match v with
  | .ref a => .ref (w.ad a)
  | v => v
def cvl (w : Wp) (q : Nat × Value) : Nat × Value := (q.1, cvv w q.2)
def fvv (S : Sh) (w : Wp) (σ : Mm) (a j : Nat) : Value := match S.2.2.2 a j with
  | some t => .ref (w.ad t)
  | none => .int (σ.1 a j)
def trr (S : Sh) (σ : Mm) (a j : Nat) : Option Nat := if S.2.1 a = 12 then σ.2.2 a j else some (a + 3 + j)
def cll (S : Sh) (w : Wp) (σ : Mm) (a : Nat) : va_E :=
  if S.2.1 a < 10 then .inr (S.2.1 a, (List.range (nf (S.2.1 a))).map (fvv S w σ a))
  else if S.2.1 a = 10 then .inl (w.2.2.2.2.2.1, S.2.2.1 a, .inl (σ.1 a))
  else if S.2.1 a = 11 then .inl (w.2.2.2.2.2.2.1, S.2.2.1 a, .inr (.inl (σ.2.1 a)))
  else .inl (w.2.2.2.2.2.2.2, S.2.2.1 a, .inr (.inr (.inr (.inr (fun j => (trr S σ a j).map w.ad)))))
def Wws (S : Sh) (w : Wp) (σ : Mm) : va_W := va_pl (S.1.map w.ad) (fun c => cll S w σ (w.un c))
def WH (S : Sh) (w : Wp) (σ : Mm) (H : Heap) : Prop := va_P w.D vwCl (Wws S w σ) H
/-- shape and addresses fit -/
def Fit (S : Sh) (w : Wp) : Prop := S.1.Nodup ∧ (∀ a, S.2.1 a < 14 → a ∈ S.1) ∧ ∀ a ∈ S.1, w.un (w.ad a) = a ∧ w.B ≤ w.ad a
def Aw (w : Wp) : Nat → Prop := fun q => w.B ≤ q ∧ w.ad (w.un q) = q
theorem Wws_get {S : Sh} {w : Wp} (hf : Fit S w) (σ : Mm) {a : Nat} (ha : a ∈ S.1) : ∃ k : Nat, (Wws S w σ)[k]? = some (w.ad a, cll S w σ a) := by
  obtain ⟨k, hk⟩ := va_pl_get (X := []) (L := S.1.map w.ad) (f := fun c => cll S w σ (w.un c)) (List.mem_map.mpr ⟨a, ha, rfl⟩)
  refine ⟨k, ?_⟩
  have hk' : (va_pl (S.1.map w.ad) (fun c => cll S w σ (w.un c)))[k]? = some (w.ad a, cll S w σ (w.un (w.ad a))) := hk
  rw [(hf.2.2 a ha).1] at hk'
  exact hk'
theorem Wws_inj {S : Sh} {w : Wp} (hf : Fit S w) {a b : Nat} (ha : a ∈ S.1) (hb : b ∈ S.1) (h : w.ad a = w.ad b) : a = b := by
  rw [← (hf.2.2 a ha).1, h, (hf.2.2 b hb).1]
theorem Wws_D {S : Sh} {w : Wp} (hf : Fit S w) (σ : Mm) : va_D (Aw w) (Wws S w σ) := by
  have key : ∀ (k : Nat) (q : Nat × va_E), (Wws S w σ)[k]? = some q → ∃ a, S.1[k]? = some a ∧ q.1 = w.ad a := by
    intro k q hk
    unfold Wws va_pl at hk
    rw [List.getElem?_map, List.getElem?_map] at hk
    cases hs : S.1[k]? with
    | none => rw [hs] at hk; cases hk
    | some a => rw [hs] at hk; cases hk; exact ⟨a, rfl, rfl⟩
  refine ⟨fun i j p q hi hj hpq => ?_, fun k q hk => ?_⟩
  · obtain ⟨a, ha, ea⟩ := key i p hi
    obtain ⟨b, hb, eb⟩ := key j q hj
    have hab : a = b := Wws_inj hf (List.mem_of_getElem? ha) (List.mem_of_getElem? hb) (by rw [← ea, ← eb]; exact hpq)
    subst hab
    have hi' := (List.getElem?_eq_some_iff.mp ha).1
    exact (List.getElem?_inj hi' hf.1).mp (ha.trans hb.symm)
  · obtain ⟨a, ha, ea⟩ := key k q hk
    show w.B ≤ q.1 ∧ w.ad (w.un q.1) = q.1
    rw [ea]
    have h := hf.2.2 a (List.mem_of_getElem? ha)
    exact ⟨h.2, by rw [h.1]⟩
/-- a cell that changes: the world with it is the new memory's -/
theorem Wws_set {S : Sh} {w : Wp} (hf : Fit S w) {σ σ' : Mm} {a k : Nat} (ha : a ∈ S.1) (hk : (Wws S w σ)[k]? = some (w.ad a, cll S w σ a)) (ho : ∀ b, b ≠ a → cll S w σ' b = cll S w σ b) : (Wws S w σ).set k (w.ad a, cll S w σ' a) = Wws S w σ' := by
  have hD := Wws_D hf σ
  have hk2 : ([] ++ va_pl (S.1.map w.ad) (fun c => cll S w σ (w.un c)))[k]? = some (w.ad a, (fun c => cll S w σ (w.un c)) (w.ad a)) := by
    show (Wws S w σ)[k]? = some (w.ad a, cll S w σ (w.un (w.ad a)))
    rw [(hf.2.2 a ha).1]
    exact hk
  have h := va_pl_set (X := []) (e := cll S w σ' a) hD (List.mem_map.mpr ⟨a, ha, rfl⟩) hk2
  refine Eq.trans h ?_
  show va_pl _ _ = va_pl _ _
  unfold va_pl
  rw [List.map_map, List.map_map]
  apply List.map_congr_left
  intro b hb
  show (w.ad b, va_up _ (w.ad a) _ (w.ad b)) = (w.ad b, cll S w σ' (w.un (w.ad b)))
  rw [(hf.2.2 b hb).1]
  by_cases hab : b = a
  · subst hab
    rw [va_up_self]
  · rw [va_up_ne _ _ (fun q => hab (Wws_inj hf hb ha q))]
    show (w.ad b, cll S w σ (w.un (w.ad b))) = _
    rw [(hf.2.2 b hb).1, ho b hab]
/-- the method's fixed part: program, env, room, start, itself, arguments, frames below, final predicate -/
abbrev Cx : Type := Program × Env × Room × State × MethodId × Array Value × List Frame × Method × Code × (State → Prop)
abbrev Cx.p (x : Cx) : Program := x.1
abbrev Cx.e (x : Cx) : Env := x.2.1
abbrev Cx.R (x : Cx) : Room := x.2.2.1
abbrev Cx.s (x : Cx) : State := x.2.2.2.1
abbrev Cx.m (x : Cx) : MethodId := x.2.2.2.2.1
abbrev Cx.a (x : Cx) : Array Value := x.2.2.2.2.2.1
abbrev Cx.b (x : Cx) : List Frame := x.2.2.2.2.2.2.1
abbrev Cx.me (x : Cx) : Method := x.2.2.2.2.2.2.2.1
abbrev Cx.c (x : Cx) : Code := x.2.2.2.2.2.2.2.2.1
abbrev Cx.F (x : Cx) : State → Prop := x.2.2.2.2.2.2.2.2.2
/-- the words of links to nest mates -/
def isNest (w : Cond) : Prop := ∃ a i y h, w = .methodLinkNest a i y h
def nws : List Cond := lw_tbl.filter (fun w => match w with | .methodLinkNest _ _ _ _ => true | _ => false)
theorem nws_nest {w : Cond} (h : w ∈ nws) : isNest w := by
  have h2 := (List.mem_filter.mp h).2
  cases w <;> first | exact ⟨_, _, _, _, rfl⟩ | (exact absurd h2 (by simp))
abbrev Md : Type := MethodName × ByteArray × Nat × Option FieldType
def Ok (S : Sh) (w : Wp) (x : Cx) (own : String) (M : Md) : Prop := Fit S w ∧ CallFix x.p x.m x.c M.2.1 M.2.2.1 x.s x.a gw own ∧ va_K w.D vwCl w.ty x.s ∧ ∀ n ∈ nws, va_Nw n x.s
/-- at pc, with locals, stack and memory: the machine comes to its end -/
def V (S : Sh) (w : Wp) (x : Cx) (M : Md) (cn : Nat × Nat) (pc : Nat) (ls : List (Nat × Value)) (st : List Value) (σ : Mm) : Prop :=
  ∀ (H : Heap) (locs : List Loc) (la : Array Slot), WH S w σ H → va_S (Aw w) x.s.heap H locs → lv_has la M.2.2.1 (ls.map (cvl w)) → W x.p w.l x.e x.R x.s x.m x.a x.b x.me x.c H locs cn.1 cn.2 x.F (F0 x.m pc la (st.map (cvv w)))
def st1 (ls : List (Nat × Value)) (i : Nat) (v : Value) : List (Nat × Value) := (i, v) :: ls.filter (fun q => !(q.1 == i) && !(q.1 + 1 == i && q.2.category == 2))
def st2 (ls : List (Nat × Value)) (i : Nat) (v : Value) : List (Nat × Value) := (i, v) :: ls.filter (fun q => !(q.1 == i) && (!(q.1 == i + 1) && !(q.1 + 1 == i && q.2.category == 2)))
theorem cvv_cat (w : Wp) (v : Value) : (cvv w v).category = v.category := by cases v <;> rfl
theorem st1_map (w : Wp) (ls : List (Nat × Value)) (i : Nat) (v : Value) : (st1 ls i v).map (cvl w) = (i, cvv w v) :: (ls.map (cvl w)).filter (fun q => !(q.1 == i) && !(q.1 + 1 == i && q.2.category == 2)) := by
  show cvl w (i, v) :: _ = _
  congr 1
  rw [List.filter_map]
  congr 1
  apply List.filter_congr
  intro q _
  simp [cvl, cvv_cat]
theorem st2_map (w : Wp) (ls : List (Nat × Value)) (i : Nat) (v : Value) : (st2 ls i v).map (cvl w) = (i, cvv w v) :: (ls.map (cvl w)).filter (fun q => !(q.1 == i) && (!(q.1 == i + 1) && !(q.1 + 1 == i && q.2.category == 2))) := by
  show cvl w (i, v) :: _ = _
  congr 1
  rw [List.filter_map]
  congr 1
  apply List.filter_congr
  intro q _
  simp [cvl, cvv_cat]
theorem lkp_mem : ∀ {ls : List (Nat × Value)} {i : Nat} {v : Value}, ls.lookup i = some v → (i, v) ∈ ls
  | [], _, _, h => by cases h
  | (j, u) :: r, i, v, h => by
    unfold List.lookup at h
    split at h
    · next q => cases h; have := eq_of_beq q; subst this; exact List.mem_cons_self
    · exact List.mem_cons_of_mem _ (lkp_mem h)
theorem lkp_at {w : Wp} {la : Array Slot} {n : Nat} {ls : List (Nat × Value)} {i : Nat} {v : Value} (h : lv_has la n (ls.map (cvl w))) (hl : ls.lookup i = some v) : la[i]? = some (.val (cvv w v)) :=
  h.2.2 (i, cvv w v) (List.mem_map.mpr ⟨(i, v), lkp_mem hl, rfl⟩)
theorem lkp_ix {w : Wp} {ls : List (Nat × Value)} {i : Nat} {v : Value} (hl : ls.lookup i = some v) : ∃ k : Nat, (ls.map (cvl w))[k]? = some (i, cvv w v) :=
  List.getElem?_of_mem (List.mem_map.mpr ⟨(i, v), lkp_mem hl, rfl⟩)
