-- ===== a state: what each cell holds, slot by slot; the world of a state =====
abbrev St : Type := Nat → Nat → Int32
def u2 (σ : St) (k j : Nat) (v : Int32) : St := va_up σ k (upd (σ k) j v)
abbrev Sh : Type := (Nat × List Nat) ⊕ ((Nat × Nat) ⊕ (Nat × Nat × Nat × Nat))
def slotV (a ad : Nat → Nat) (c : Nat) (x : Int32) : Value := match c with
  | 0 => .int x
  | 1 => .ref (ad x.toNatClampNeg)
  | n + 2 => .ref (a n)
def slotsV (a ad : Nat → Nat) (f : Nat → Int32) : Nat → List Nat → List Value
  | _, [] => []
  | j, c :: l => slotV a ad c (f j) :: slotsV a ad f (j + 1) l
theorem slotsV_get (a ad : Nat → Nat) (f : Nat → Int32) : ∀ (l : List Nat) (b j : Nat) (c : Nat), l[j]? = some c → (slotsV a ad f b l)[j]? = some (slotV a ad c (f (b + j)))
  | [], _, j, c, h => by simp at h
  | d :: l, b, 0, c, h => by
    rw [List.getElem?_cons_zero] at h
    cases h
    rfl
  | d :: l, b, j + 1, c, h => by
    rw [List.getElem?_cons_succ] at h
    have := slotsV_get a ad f l (b + 1) j c h
    rw [Nat.add_assoc, Nat.add_comm 1 j] at this
    exact this
theorem slotsV_len (a ad : Nat → Nat) (f : Nat → Int32) : ∀ (l : List Nat) (b : Nat), (slotsV a ad f b l).length = l.length
  | [], _ => rfl
  | _ :: l, b => congrArg (· + 1) (slotsV_len a ad f l (b + 1))
theorem slotsV_congr (a ad : Nat → Nat) (f g : Nat → Int32) : ∀ (l : List Nat) (b : Nat), (∀ j, b ≤ j → f j = g j) → slotsV a ad f b l = slotsV a ad g b l
  | [], _, _ => rfl
  | c :: l, b, h => by
    show slotV a ad c (f b) :: slotsV a ad f (b + 1) l = slotV a ad c (g b) :: slotsV a ad g (b + 1) l
    rw [h b (Nat.le_refl b), slotsV_congr a ad f g l (b + 1) (fun j hj => h j (by omega))]
theorem slotsV_set (a ad : Nat → Nat) (v : Int32) : ∀ (l : List Nat) (b j : Nat) (f : Nat → Int32) (c : Nat), l[j]? = some c → (slotsV a ad f b l).set j (slotV a ad c v) = slotsV a ad (upd f (b + j) v) b l
  | [], _, j, f, c, h => by simp at h
  | d :: l, b, 0, f, c, h => by
    rw [List.getElem?_cons_zero] at h
    cases h
    show slotV a ad d v :: slotsV a ad f (b + 1) l = slotV a ad d (upd f (b + 0) v b) :: slotsV a ad (upd f (b + 0) v) (b + 1) l
    rw [slotsV_congr a ad f (upd f (b + 0) v) l (b + 1) (fun j hj => by unfold upd; rw [if_neg (by omega)])]
    congr 1
    unfold upd
    rw [if_pos (by omega)]
  | d :: l, b, j + 1, f, c, h => by
    rw [List.getElem?_cons_succ] at h
    show slotV a ad d (f b) :: (slotsV a ad f (b + 1) l).set j (slotV a ad c v) = slotV a ad d (upd f (b + (j + 1)) v b) :: slotsV a ad (upd f (b + (j + 1)) v) (b + 1) l
    rw [slotsV_set a ad v l (b + 1) j f c h]
    rw [show b + 1 + j = b + (j + 1) by omega]
    congr 1
    unfold upd
    rw [if_neg (by omega)]
def mkE (cA : Nat → ClassId) (ad a : Nat → Nat) (s : Sh) (f : Nat → Int32) : va_E := match s with
  | .inl o => .inr (o.1, slotsV a ad f 0 o.2)
  | .inr (.inl r) => .inl (cA r.1, r.2, .inl f)
  | .inr (.inr r) => .inl (cA r.1, r.2.1, .inr (.inr (.inr (.inr (fun j => if j < r.2.1 then some (a (r.2.2.1 + r.2.2.2 * j)) else none)))))
def gwd (N : Nat) (sh : Nat → Sh) (cA : Nat → ClassId) (ad a : Nat → Nat) (fr : va_W) (σ : St) : va_W := (List.range N).map (fun k => (a k, mkE cA ad a (sh k) (σ k))) ++ fr
theorem gwd_get {N : Nat} {sh : Nat → Sh} {cA : Nat → ClassId} {ad a : Nat → Nat} {fr : va_W} {σ : St} {k : Nat} {s : Sh} (hk : k < N) (hs : sh k = s) : (gwd N sh cA ad a fr σ)[k]? = some (a k, mkE cA ad a s (σ k)) := by
  unfold gwd
  rw [List.getElem?_append_left (by simp; exact hk), List.getElem?_map, List.getElem?_range hk, ← hs]
  rfl
theorem gwd_set {N : Nat} {sh : Nat → Sh} {cA : Nat → ClassId} {ad a : Nat → Nat} {fr : va_W} {σ : St} {k : Nat} {s : Sh} {f : Nat → Int32} (hk : k < N) (hs : sh k = s) : (gwd N sh cA ad a fr σ).set k (a k, mkE cA ad a s f) = gwd N sh cA ad a fr (va_up σ k f) := by
  unfold gwd
  rw [List.set_append_left _ _ (by simp; exact hk)]
  congr 1
  apply List.ext_getElem?
  intro j
  rw [List.getElem?_set]
  simp only [List.length_map, List.length_range]
  by_cases hj : k = j
  · subst hj
    rw [if_pos rfl, if_pos hk, List.getElem?_map, List.getElem?_range hk]
    simp [va_up, hs]
  · rw [if_neg hj, List.getElem?_map, List.getElem?_map]
    by_cases hN : j < N
    · rw [List.getElem?_range hN]
      simp [va_up, Ne.symm hj]
    · rw [List.getElem?_eq_none (by simp; omega)]
      rfl
-- ===== what the tables say that is handed on with every call =====
def NESTF : List (String × Nat × String × String × String × String) := [("NoiseMill", 145, "NoiseMill$Noises", "numbers", "[I", "NoiseMill"), ("NoiseMill$Mill", 157, "NoiseMill$Noises", "numbers", "[I", "NoiseMill"), ("NoiseMill", 167, "NoiseMill$Noises", "bands", "[I", "NoiseMill"), ("NoiseMill$Mill", 144, "NoiseMill$Noises", "bands", "[I", "NoiseMill"), ("NoiseMill", 170, "NoiseMill$Noises", "loudnesses", "[I", "NoiseMill"), ("NoiseMill$Mill", 100, "NoiseMill$Noises", "amounts", "[I", "NoiseMill"), ("NoiseMill", 173, "NoiseMill$Noises", "amounts", "[I", "NoiseMill"), ("NoiseMill$WaitingQueue", 19, "NoiseMill$Noises", "waiting", "I", "NoiseMill"), ("NoiseMill", 130, "NoiseMill$Noises", "waiting", "I", "NoiseMill"), ("NoiseMill", 225, "NoiseMill$Store", "grains", "[I", "NoiseMill"), ("NoiseMill", 237, "NoiseMill$Store", "shipped", "[I", "NoiseMill"), ("NoiseMill", 240, "NoiseMill$Store", "records", "[I", "NoiseMill"), ("NoiseMill", 246, "NoiseMill$Store", "ground", "I", "NoiseMill"), ("NoiseMill", 252, "NoiseMill$Store", "sieved", "I", "NoiseMill"), ("NoiseMill", 255, "NoiseMill$Store", "spilt", "I", "NoiseMill"), ("NoiseMill", 287, "NoiseMill$Log", "numbers", "[I", "NoiseMill"), ("NoiseMill", 291, "NoiseMill$Log", "wheels", "[I", "NoiseMill"), ("NoiseMill", 294, "NoiseMill$Log", "times", "[I", "NoiseMill"), ("NoiseMill", 282, "NoiseMill$Log", "count", "I", "NoiseMill"), ("NoiseMill", 126, "NoiseMill$Mill", "noises", "LNoiseMill$Noises;", "NoiseMill"), ("NoiseMill", 208, "NoiseMill$Mill", "store", "LNoiseMill$Store;", "NoiseMill"), ("NoiseMill", 278, "NoiseMill$Mill", "log", "LNoiseMill$Log;", "NoiseMill"), ("NoiseMill", 193, "NoiseMill$Mill", "gears", "[I", "NoiseMill"), ("NoiseMill", 196, "NoiseMill$Mill", "wears", "[I", "NoiseMill"), ("NoiseMill", 205, "NoiseMill$Mill", "meshes", "[I", "NoiseMill"), ("NoiseMill", 123, "NoiseMill$Mill", "clock", "I", "NoiseMill"), ("NoiseMill", 379, "NoiseMill$History", "count", "I", "NoiseMill"), ("NoiseMill$Script", 48, "NoiseMill$Command", "kind", "LNoiseMill$Kind;", "NoiseMill"), ("NoiseMill", 465, "NoiseMill$Command", "kind", "LNoiseMill$Kind;", "NoiseMill"), ("NoiseMill$Script", 60, "NoiseMill$Command", "arguments", "[I", "NoiseMill"), ("NoiseMill", 457, "NoiseMill$Command", "arguments", "[I", "NoiseMill"), ("NoiseMill", 364, "NoiseMill$Script", "position", "I", "NoiseMill"), ("NoiseMill", 441, "NoiseMill$Script", "commands", "[LNoiseMill$Command;", "NoiseMill"), ("NoiseMill", 374, "NoiseMill$Script", "commandCount", "I", "NoiseMill"), ("NoiseMill$Script", 79, "NoiseMill", "KINDS", "[LNoiseMill$Kind;", "NoiseMill"), ("java/util/ArrayList$Itr", 28, "java/util/ArrayList", "size", "I", "java/util/ArrayList"), ("NoiseMill$Script", 83, "NoiseMill$Kind", "word", "Ljava/lang/String;", "NoiseMill"), ("NoiseMill$Script", 52, "NoiseMill$Kind", "digits", "I", "NoiseMill"), ("NoiseMill$Script", 68, "NoiseMill$Kind", "takesNumber", "Z", "NoiseMill"), ("NoiseMill$Script", 76, "NoiseMill$Kind", "needsNumber", "Z", "NoiseMill")]
def NESTM : List (String × Nat × MethodName × String) := [("NoiseMill$Mill", 11, ⟨"NoiseMill$Noises", "<init>", "()V"⟩, "NoiseMill"), ("NoiseMill$Mill", 20, ⟨"NoiseMill$Store", "<init>", "()V"⟩, "NoiseMill"), ("NoiseMill$Mill", 27, ⟨"NoiseMill$Log", "<init>", "()V"⟩, "NoiseMill"), ("NoiseMill", 35, ⟨"NoiseMill$WaitingQueue", "<init>", "()V"⟩, "NoiseMill"), ("NoiseMill$Script", 31, ⟨"NoiseMill$Command", "<init>", "()V"⟩, "NoiseMill")]
def NW (U : State) : Prop := (∀ q ∈ NESTF, va_Nw (.fieldLinkNest q.1 q.2.1 q.2.2.1 q.2.2.2.1 q.2.2.2.2.1 q.2.2.2.2.2) U) ∧ ∀ q ∈ NESTM, va_Nw (.methodLinkNest q.1 q.2.1 q.2.2.1 q.2.2.2) U
theorem NW.warm {s U : State} (hW : s.WarmedH U.vm) (h : NW s) : NW U := ⟨fun q hq => (h.1 q hq).warmF hW, fun q hq => (h.2 q hq).warmM hW⟩
theorem NW.call {U : State} {g : JFrame} {mk : MethodId} {a : Array Value} (h : NW U) : NW (U.calling g mk a) := ⟨fun q hq => (h.1 q hq).same rfl rfl, fun q hq => (h.2 q hq).same rfl rfl⟩
theorem nf_0 {U : State} (h : NW U) : va_Nw (.fieldLinkNest "NoiseMill" 145 "NoiseMill$Noises" "numbers" "[I" "NoiseMill") U := h.1 _ (List.mem_of_getElem? (i := 0) rfl)
theorem nf_1 {U : State} (h : NW U) : va_Nw (.fieldLinkNest "NoiseMill$Mill" 157 "NoiseMill$Noises" "numbers" "[I" "NoiseMill") U := h.1 _ (List.mem_of_getElem? (i := 1) rfl)
theorem nf_2 {U : State} (h : NW U) : va_Nw (.fieldLinkNest "NoiseMill" 167 "NoiseMill$Noises" "bands" "[I" "NoiseMill") U := h.1 _ (List.mem_of_getElem? (i := 2) rfl)
theorem nf_3 {U : State} (h : NW U) : va_Nw (.fieldLinkNest "NoiseMill$Mill" 144 "NoiseMill$Noises" "bands" "[I" "NoiseMill") U := h.1 _ (List.mem_of_getElem? (i := 3) rfl)
theorem nf_4 {U : State} (h : NW U) : va_Nw (.fieldLinkNest "NoiseMill" 170 "NoiseMill$Noises" "loudnesses" "[I" "NoiseMill") U := h.1 _ (List.mem_of_getElem? (i := 4) rfl)
theorem nf_5 {U : State} (h : NW U) : va_Nw (.fieldLinkNest "NoiseMill$Mill" 100 "NoiseMill$Noises" "amounts" "[I" "NoiseMill") U := h.1 _ (List.mem_of_getElem? (i := 5) rfl)
theorem nf_6 {U : State} (h : NW U) : va_Nw (.fieldLinkNest "NoiseMill" 173 "NoiseMill$Noises" "amounts" "[I" "NoiseMill") U := h.1 _ (List.mem_of_getElem? (i := 6) rfl)
theorem nf_7 {U : State} (h : NW U) : va_Nw (.fieldLinkNest "NoiseMill$WaitingQueue" 19 "NoiseMill$Noises" "waiting" "I" "NoiseMill") U := h.1 _ (List.mem_of_getElem? (i := 7) rfl)
theorem nf_8 {U : State} (h : NW U) : va_Nw (.fieldLinkNest "NoiseMill" 130 "NoiseMill$Noises" "waiting" "I" "NoiseMill") U := h.1 _ (List.mem_of_getElem? (i := 8) rfl)
theorem nf_9 {U : State} (h : NW U) : va_Nw (.fieldLinkNest "NoiseMill" 225 "NoiseMill$Store" "grains" "[I" "NoiseMill") U := h.1 _ (List.mem_of_getElem? (i := 9) rfl)
theorem nf_10 {U : State} (h : NW U) : va_Nw (.fieldLinkNest "NoiseMill" 237 "NoiseMill$Store" "shipped" "[I" "NoiseMill") U := h.1 _ (List.mem_of_getElem? (i := 10) rfl)
theorem nf_11 {U : State} (h : NW U) : va_Nw (.fieldLinkNest "NoiseMill" 240 "NoiseMill$Store" "records" "[I" "NoiseMill") U := h.1 _ (List.mem_of_getElem? (i := 11) rfl)
theorem nf_12 {U : State} (h : NW U) : va_Nw (.fieldLinkNest "NoiseMill" 246 "NoiseMill$Store" "ground" "I" "NoiseMill") U := h.1 _ (List.mem_of_getElem? (i := 12) rfl)
theorem nf_13 {U : State} (h : NW U) : va_Nw (.fieldLinkNest "NoiseMill" 252 "NoiseMill$Store" "sieved" "I" "NoiseMill") U := h.1 _ (List.mem_of_getElem? (i := 13) rfl)
theorem nf_14 {U : State} (h : NW U) : va_Nw (.fieldLinkNest "NoiseMill" 255 "NoiseMill$Store" "spilt" "I" "NoiseMill") U := h.1 _ (List.mem_of_getElem? (i := 14) rfl)
theorem nf_15 {U : State} (h : NW U) : va_Nw (.fieldLinkNest "NoiseMill" 287 "NoiseMill$Log" "numbers" "[I" "NoiseMill") U := h.1 _ (List.mem_of_getElem? (i := 15) rfl)
theorem nf_16 {U : State} (h : NW U) : va_Nw (.fieldLinkNest "NoiseMill" 291 "NoiseMill$Log" "wheels" "[I" "NoiseMill") U := h.1 _ (List.mem_of_getElem? (i := 16) rfl)
theorem nf_17 {U : State} (h : NW U) : va_Nw (.fieldLinkNest "NoiseMill" 294 "NoiseMill$Log" "times" "[I" "NoiseMill") U := h.1 _ (List.mem_of_getElem? (i := 17) rfl)
theorem nf_18 {U : State} (h : NW U) : va_Nw (.fieldLinkNest "NoiseMill" 282 "NoiseMill$Log" "count" "I" "NoiseMill") U := h.1 _ (List.mem_of_getElem? (i := 18) rfl)
theorem nf_19 {U : State} (h : NW U) : va_Nw (.fieldLinkNest "NoiseMill" 126 "NoiseMill$Mill" "noises" "LNoiseMill$Noises;" "NoiseMill") U := h.1 _ (List.mem_of_getElem? (i := 19) rfl)
theorem nf_20 {U : State} (h : NW U) : va_Nw (.fieldLinkNest "NoiseMill" 208 "NoiseMill$Mill" "store" "LNoiseMill$Store;" "NoiseMill") U := h.1 _ (List.mem_of_getElem? (i := 20) rfl)
theorem nf_21 {U : State} (h : NW U) : va_Nw (.fieldLinkNest "NoiseMill" 278 "NoiseMill$Mill" "log" "LNoiseMill$Log;" "NoiseMill") U := h.1 _ (List.mem_of_getElem? (i := 21) rfl)
theorem nf_22 {U : State} (h : NW U) : va_Nw (.fieldLinkNest "NoiseMill" 193 "NoiseMill$Mill" "gears" "[I" "NoiseMill") U := h.1 _ (List.mem_of_getElem? (i := 22) rfl)
theorem nf_23 {U : State} (h : NW U) : va_Nw (.fieldLinkNest "NoiseMill" 196 "NoiseMill$Mill" "wears" "[I" "NoiseMill") U := h.1 _ (List.mem_of_getElem? (i := 23) rfl)
theorem nf_24 {U : State} (h : NW U) : va_Nw (.fieldLinkNest "NoiseMill" 205 "NoiseMill$Mill" "meshes" "[I" "NoiseMill") U := h.1 _ (List.mem_of_getElem? (i := 24) rfl)
theorem nf_25 {U : State} (h : NW U) : va_Nw (.fieldLinkNest "NoiseMill" 123 "NoiseMill$Mill" "clock" "I" "NoiseMill") U := h.1 _ (List.mem_of_getElem? (i := 25) rfl)
theorem nf_26 {U : State} (h : NW U) : va_Nw (.fieldLinkNest "NoiseMill" 379 "NoiseMill$History" "count" "I" "NoiseMill") U := h.1 _ (List.mem_of_getElem? (i := 26) rfl)
theorem nf_27 {U : State} (h : NW U) : va_Nw (.fieldLinkNest "NoiseMill$Script" 48 "NoiseMill$Command" "kind" "LNoiseMill$Kind;" "NoiseMill") U := h.1 _ (List.mem_of_getElem? (i := 27) rfl)
theorem nf_28 {U : State} (h : NW U) : va_Nw (.fieldLinkNest "NoiseMill" 465 "NoiseMill$Command" "kind" "LNoiseMill$Kind;" "NoiseMill") U := h.1 _ (List.mem_of_getElem? (i := 28) rfl)
theorem nf_29 {U : State} (h : NW U) : va_Nw (.fieldLinkNest "NoiseMill$Script" 60 "NoiseMill$Command" "arguments" "[I" "NoiseMill") U := h.1 _ (List.mem_of_getElem? (i := 29) rfl)
theorem nf_30 {U : State} (h : NW U) : va_Nw (.fieldLinkNest "NoiseMill" 457 "NoiseMill$Command" "arguments" "[I" "NoiseMill") U := h.1 _ (List.mem_of_getElem? (i := 30) rfl)
theorem nf_31 {U : State} (h : NW U) : va_Nw (.fieldLinkNest "NoiseMill" 364 "NoiseMill$Script" "position" "I" "NoiseMill") U := h.1 _ (List.mem_of_getElem? (i := 31) rfl)
theorem nf_32 {U : State} (h : NW U) : va_Nw (.fieldLinkNest "NoiseMill" 441 "NoiseMill$Script" "commands" "[LNoiseMill$Command;" "NoiseMill") U := h.1 _ (List.mem_of_getElem? (i := 32) rfl)
theorem nf_33 {U : State} (h : NW U) : va_Nw (.fieldLinkNest "NoiseMill" 374 "NoiseMill$Script" "commandCount" "I" "NoiseMill") U := h.1 _ (List.mem_of_getElem? (i := 33) rfl)
theorem nf_34 {U : State} (h : NW U) : va_Nw (.fieldLinkNest "NoiseMill$Script" 79 "NoiseMill" "KINDS" "[LNoiseMill$Kind;" "NoiseMill") U := h.1 _ (List.mem_of_getElem? (i := 34) rfl)
theorem nf_35 {U : State} (h : NW U) : va_Nw (.fieldLinkNest "java/util/ArrayList$Itr" 28 "java/util/ArrayList" "size" "I" "java/util/ArrayList") U := h.1 _ (List.mem_of_getElem? (i := 35) rfl)
theorem nf_36 {U : State} (h : NW U) : va_Nw (.fieldLinkNest "NoiseMill$Script" 83 "NoiseMill$Kind" "word" "Ljava/lang/String;" "NoiseMill") U := h.1 _ (List.mem_of_getElem? (i := 36) rfl)
theorem nf_37 {U : State} (h : NW U) : va_Nw (.fieldLinkNest "NoiseMill$Script" 52 "NoiseMill$Kind" "digits" "I" "NoiseMill") U := h.1 _ (List.mem_of_getElem? (i := 37) rfl)
theorem nf_38 {U : State} (h : NW U) : va_Nw (.fieldLinkNest "NoiseMill$Script" 68 "NoiseMill$Kind" "takesNumber" "Z" "NoiseMill") U := h.1 _ (List.mem_of_getElem? (i := 38) rfl)
theorem nf_39 {U : State} (h : NW U) : va_Nw (.fieldLinkNest "NoiseMill$Script" 76 "NoiseMill$Kind" "needsNumber" "Z" "NoiseMill") U := h.1 _ (List.mem_of_getElem? (i := 39) rfl)
theorem nm_0 {U : State} (h : NW U) : va_Nw (.methodLinkNest "NoiseMill$Mill" 11 ⟨"NoiseMill$Noises", "<init>", "()V"⟩ "NoiseMill") U := h.2 _ (List.mem_of_getElem? (i := 0) rfl)
theorem nm_1 {U : State} (h : NW U) : va_Nw (.methodLinkNest "NoiseMill$Mill" 20 ⟨"NoiseMill$Store", "<init>", "()V"⟩ "NoiseMill") U := h.2 _ (List.mem_of_getElem? (i := 1) rfl)
theorem nm_2 {U : State} (h : NW U) : va_Nw (.methodLinkNest "NoiseMill$Mill" 27 ⟨"NoiseMill$Log", "<init>", "()V"⟩ "NoiseMill") U := h.2 _ (List.mem_of_getElem? (i := 2) rfl)
theorem nm_3 {U : State} (h : NW U) : va_Nw (.methodLinkNest "NoiseMill" 35 ⟨"NoiseMill$WaitingQueue", "<init>", "()V"⟩ "NoiseMill") U := h.2 _ (List.mem_of_getElem? (i := 3) rfl)
theorem nm_4 {U : State} (h : NW U) : va_Nw (.methodLinkNest "NoiseMill$Script" 31 ⟨"NoiseMill$Command", "<init>", "()V"⟩ "NoiseMill") U := h.2 _ (List.mem_of_getElem? (i := 4) rfl)
-- ===== the pure side: partial functions, and how a walk takes one apart =====
def LET {α β : Type} (x : α) (K : α → β) : β := K x
theorem let_e {α β : Type} {x y : α} {K : α → β} {r : β} (e : y = x) (h : LET x K = r) : K y = r := by rw [e]; exact h
def BND {α : Type} (i : Int32) (n : Nat) (K : Option α) : Option α := if i < 0 ∨ n ≤ i.toNatClampNeg then none else K
theorem bnd_e {α : Type} {i : Int32} {n : Nat} {K : Option α} {r : α} (h : BND i n K = some r) : vp_in i n ∧ K = some r := by
  unfold BND at h
  by_cases hc : i < 0 ∨ n ≤ i.toNatClampNeg
  · rw [if_pos hc] at h; cases h
  · rw [if_neg hc] at h; exact ⟨hc, h⟩
def NZ {α : Type} (i : Int32) (K : Option α) : Option α := if i = 0 then none else K
theorem nz_e {α : Type} {i : Int32} {K : Option α} {r : α} (h : NZ i K = some r) : ¬ i = 0 ∧ K = some r := by
  unfold NZ at h
  by_cases hc : i = 0
  · rw [if_pos hc] at h; cases h
  · rw [if_neg hc] at h; exact ⟨hc, h⟩
def BL {α : Type} (i : Int32) (K : Option α) : Option α := if i = 0 ∨ i = 1 then K else none
theorem bl_e {α : Type} {i : Int32} {K : Option α} {r : α} (h : BL i K = some r) : (i = 0 ∨ i = 1) ∧ K = some r := by
  unfold BL at h
  by_cases hc : i = 0 ∨ i = 1
  · rw [if_pos hc] at h; exact ⟨hc, h⟩
  · rw [if_neg hc] at h; cases h
def OB {σ α : Type} (x : Option (Int32 × σ)) (K : Int32 → σ → Option α) : Option α := match x with
  | none => none
  | some (r, s) => K r s
theorem ob_e {σ α : Type} {x : Option (Int32 × σ)} {K : Int32 → σ → Option α} {r : α} (h : OB x K = some r) : ∃ (v : Int32) (s : σ), x = some (v, s) ∧ K v s = some r := by
  cases x with
  | none => cases h
  | some q => exact ⟨q.1, q.2, rfl, h⟩
theorem it_t {c : Prop} [Decidable c] {α : Type} {x y r : α} (hc : c) (h : (if c then x else y) = r) : x = r := by rw [if_pos hc] at h; exact h
theorem it_f {c : Prop} [Decidable c] {α : Type} {x y r : α} (hc : ¬ c) (h : (if c then x else y) = r) : y = r := by rw [if_neg hc] at h; exact h
theorem bl_n {v : Int32} (h : v = 0 ∨ v = 1) : narrow .boolean (.int v) = .int v := by rcases h with rfl | rfl <;> rfl
theorem bl_f {v : Int32} (h : v = 0 ∨ v = 1) : fits .boolean (.int v) = true := by rcases h with rfl | rfl <;> rfl
-- ===== the fixed facts of a walk =====
abbrev RM (d : Nat) : Room := { frames := d, cells := 0, slots := 0, locals := 40 * d }
abbrev gST : Type := (Nat → Prop) → State → Prop
def STok (ST : gST) : Prop := (∀ (A : Nat → Prop) (U : State) (g : JFrame) (mk : MethodId) (a : Array Value), ST A U → ST A (U.calling g mk a)) ∧ ∀ (A A1 : Nat → Prop) (s U : State) (H : Heap) (locs : List Loc), ST A s → va_S A s.heap H locs → U.heap = H → s.WarmedH U.vm → (∀ q, A1 q → A q) → ST A1 U
def ST0 : gST := fun _ _ => True
theorem st0_ok : STok ST0 := ⟨fun _ _ _ _ _ _ => trivial, fun _ _ _ _ _ _ _ _ _ _ _ => trivial⟩
def GC (p : Program) (s : State) (m : MethodId) (args : Array Value) (meth : Method) (c : Code) (cc : ByteArray) (maxL : Nat) (own : String) (ret : Option FieldType) (A : Nat → Prop) (D : va_G) (tys : List (ClassId × FieldType)) (ST : gST) : Prop :=
  p.tables.exec = Jvm.exec ∧ c.code = cc ∧ c.maxLocals = maxL ∧ s.vm.findClass own = some m.cls ∧ (∀ w ∈ BIG, w.before args s = true) ∧ meth.sig.returnType = ret ∧ meth.locks = false ∧ (∀ q : Nat, s.heap.size ≤ q → A q) ∧ va_K D vwCl tys s ∧ NW s ∧ ST A s ∧ STok ST
def gPre (D : va_G) (tys : List (ClassId × FieldType)) (ST : gST) (ws : va_W) (sz : Nat) (av : List Value) : Array Value → State → Prop :=
  va_Pc av (fun U => U.heap.size = sz ∧ va_P D vwCl ws U.heap ∧ va_K D vwCl tys U ∧ va_D (fun _ => True) ws ∧ NW U ∧ ST (va_A ws sz) U)
theorem gPre_blind {D : va_G} {tys : List (ClassId × FieldType)} {ST : gST} {ws : va_W} {sz : Nat} {av : List Value} (hT : STok ST) : FrameBlind (gPre D tys ST ws sz av) := fun a U g mk q => by
  obtain ⟨q0, q1, qP, qK, qD, qN, qS⟩ := q
  exact ⟨q0, q1, qP, va_K.moved (u := U) (U := U.calling g mk a) (Vm.Alike.refl U.vm) qK, qD, qN.call, hT.1 _ _ _ _ _ qS⟩
def gQi (D : va_G) (tys : List (ClassId × FieldType)) (A : Nat → Prop) (wd : St → va_W) (r : Int32) (σ' : St) : Array Value → State → Outcome → State → Prop :=
  va_Qi (fun r1 s1 => r1 = r ∧ s1 = σ') (fun s1 t => va_P D vwCl (wd s1) t.heap ∧ va_K D vwCl tys t ∧ va_D A (wd s1)) A
def gQv (D : va_G) (tys : List (ClassId × FieldType)) (A : Nat → Prop) (wd : St → va_W) (σ' : St) : Array Value → State → Outcome → State → Prop :=
  va_Qv (fun s1 => s1 = σ') (fun s1 t => va_P D vwCl (wd s1) t.heap ∧ va_K D vwCl tys t ∧ va_D A (wd s1)) A
/-- a method's contract: from the world of σ, with these arguments, it comes to Qk -/
def gMet (l : Launch) (y : MethodName) (cc : ByteArray) (maxL : Nat) (ret : Option FieldType) (d : Nat) (D : va_G) (tys : List (ClassId × FieldType)) (ST : gST) (ws : va_W) (av : List Value) (Qk : (Nat → Prop) → Array Value → State → Outcome → State → Prop) : Prop :=
  ∀ sz : Nat, Met l y (.code y cc maxL ret :: BIG) (RM d) (gPre D tys ST ws sz av) (Qk (va_A ws sz)) 0 0 (va_A ws sz)
theorem g_ofW {l : Launch} {y : MethodName} {cc : ByteArray} {maxL d : Nat} {ret : Option FieldType} {D : va_G} {tys : List (ClassId × FieldType)} {ST : gST} {ws : va_W} {av : List Value} {Qk : (Nat → Prop) → Array Value → State → Outcome → State → Prop} (hT : STok ST) (hy : plainName y.cls = true) (hav : (lg_sl av).length ≤ maxL)
    (body : ∀ p e s m args below meth c ls A, GC p s m args meth c cc maxL y.cls ret A D tys ST → va_P D vwCl ws s.heap → va_D A ws → lv_has ls maxL (lv_args 0 av) → W p l e (RM d) s m args below meth c s.heap [] 0 0 (MQ below (Qk A) args s 0 0 A) (F0 m 0 ls [])) : gMet l y cc maxL ret d D tys ST ws av Qk := by
  intro sz
  refine Met.ofW (cc := cc) (maxL := maxL) (ret := ret) hy rfl ?_
  intro p e s m args below meth c s₁ B hml hv
  obtain ⟨rfl, hsz, hP, hK, hD0, hN, hX⟩ := hv
  subst hsz
  have hts0 := atoms_spec (ws := .code y cc maxL ret :: BIG) B.pre
  rw [lg_entry_eq]
  exact body p e s m av.toArray below meth c _ _ ⟨B.exec, B.bytes, hml, findClass_of_methodNamed B.named, fun w h => hts0 w (List.mem_cons_of_mem _ h), B.returns, B.notSynchronized, fun q h => Or.inr h, hK, hN, hX, hT⟩ hP hD0.self (lv_entry av hav)
section GR
variable {p : Program} {l : Launch} {e : Env} {R : Room} {s : State} {m : MethodId} {args : Array Value} {below : List Frame} {meth : Method} {c : Code} {H : Heap} {locs : List Loc} {cells slots : Nat} {Q : State → Prop}
variable {cc : ByteArray} {maxL : Nat} {ret : Option FieldType} {pc : Nat} {ls : Array Slot} {rest : List Value} {D : va_G} {A : Nat → Prop} {tys : List (ClassId × FieldType)} {H0 : Heap} {N : Nat} {sh : Nat → Sh} {cA : Nat → ClassId} {ad a : Nat → Nat} {fr : va_W} {σ : St} {ST : gST} {own : String}
theorem g_free {ws : va_W} (hD : va_D A ws) (hS : va_S A H0 H locs) (hA : ∀ q : Nat, H0.size ≤ q → A q) : ∀ q, va_A ws H.size q → A q := by
  intro q h
  rcases h with ⟨k, e, h⟩ | h
  · exact hD.2 k (q, e) h
  · exact hA q (Nat.le_trans hS.1 h)
theorem g_geti (G : GC p s m args meth c cc maxL own ret A D tys ST) (hP : va_P D vwCl (gwd N sh cA ad a fr σ) H) {C : String} {T : u_T} {M ci index : Nat} {sl : List Nat} (k j : Nat) (hin : ∀ w ∈ u_ws C T M, w ∈ BIG) (hc : vwCl[ci]? = some (C, T, M)) (hk : k < N) (hs : sh k = .inl (ci, sl)) (hj : j < M) (hsl : sl[j]? = some 0) (hlink : Cond.fieldLink own index (T j).1 (T j).2.1 (T j).2.2.1 ∈ BIG) (hdg : decode cc pc = .ok (.getfield index, 3))
    (kk : W p l e R s m args below meth c H locs cells slots Q (F0 m (pc + 3) ls (.int (σ k j) :: rest))) : W p l e R s m args below meth c H locs cells slots Q (F0 m pc ls (.ref (a k) :: rest)) :=
  va_get G.1 G.2.1 G.2.2.2.2.1 hin G.2.2.2.1 G.2.2.2.2.2.2.2.2.1 hP k (gwd_get hk hs) hc j hj (G.2.2.2.2.1 _ hlink) (fun _ h => h) (by have h9 := slotsV_get a ad (σ k) sl 0 j 0 hsl; rw [Nat.zero_add] at h9; exact h9) hdg kk
theorem g_getr (G : GC p s m args meth c cc maxL own ret A D tys ST) (hP : va_P D vwCl (gwd N sh cA ad a fr σ) H) {C : String} {T : u_T} {M ci index n : Nat} {sl : List Nat} (k j : Nat) (hin : ∀ w ∈ u_ws C T M, w ∈ BIG) (hc : vwCl[ci]? = some (C, T, M)) (hk : k < N) (hs : sh k = .inl (ci, sl)) (hj : j < M) (hsl : sl[j]? = some (n + 2)) (hlink : Cond.fieldLink own index (T j).1 (T j).2.1 (T j).2.2.1 ∈ BIG) (hdg : decode cc pc = .ok (.getfield index, 3))
    (kk : W p l e R s m args below meth c H locs cells slots Q (F0 m (pc + 3) ls (.ref (a n) :: rest))) : W p l e R s m args below meth c H locs cells slots Q (F0 m pc ls (.ref (a k) :: rest)) :=
  va_get G.1 G.2.1 G.2.2.2.2.1 hin G.2.2.2.1 G.2.2.2.2.2.2.2.2.1 hP k (gwd_get hk hs) hc j hj (G.2.2.2.2.1 _ hlink) (fun _ h => h) (by have h9 := slotsV_get a ad (σ k) sl 0 j (n + 2) hsl; exact h9) hdg kk
theorem g_puti (G : GC p s m args meth c cc maxL own ret A D tys ST) (hP : va_P D vwCl (gwd N sh cA ad a fr σ) H) (hD : va_D A (gwd N sh cA ad a fr σ)) (hS : va_S A s.heap H locs) {C : String} {T : u_T} {M ci index : Nat} {sl : List Nat} (k j : Nat) (hin : ∀ w ∈ u_ws C T M, w ∈ BIG) (hc : vwCl[ci]? = some (C, T, M)) (ty0 : Nat → FieldType) (hty : ∀ k, k < M → parseFieldDescriptor (T k).2.2.1 = some (ty0 k)) (hnm : ∀ a, a < M → ∀ b, b < M → a ≠ b → (T a).2.1 ≠ (T b).2.1) (hk : k < N) (hs : sh k = .inl (ci, sl)) (hj : j < M) (hsl : sl[j]? = some 0) (hlink : Cond.fieldLink own index (T j).1 (T j).2.1 (T j).2.2.1 ∈ BIG) (hfin : (T j).2.2.2 = false) {v : Int32} (hn : narrow (ty0 j) (.int v) = .int v) (hfit : fits (ty0 j) (.int v) = true) (hdg : decode cc pc = .ok (.putfield index, 3))
    (kk : ∀ σ1 : St, σ1 = u2 σ k j v → ∀ (H1 : Heap) (locs1 : List Loc), va_P D vwCl (gwd N sh cA ad a fr σ1) H1 → va_D A (gwd N sh cA ad a fr σ1) → va_S A s.heap H1 locs1 → W p l e R s m args below meth c H1 locs1 cells slots Q (F0 m (pc + 3) ls rest)) : W p l e R s m args below meth c H locs cells slots Q (F0 m pc ls (.int v :: .ref (a k) :: rest)) := by
  have e9 : (slotsV a ad (σ k) 0 sl).set j (.int v) = slotsV a ad (upd (σ k) j v) 0 sl := by
    have h9 := slotsV_set a ad v sl 0 j (σ k) 0 hsl
    rw [Nat.zero_add] at h9
    exact h9
  refine va_put (ty := ty0 j) G.1 G.2.1 G.2.2.2.2.1 hin ty0 hty hnm G.2.2.2.1 G.2.2.2.2.2.2.2.2.1 hP hD hS k (gwd_get hk hs) hc j hj (G.2.2.2.2.1 _ hlink) (fun _ h => h) hfin (hty j hj) hn hfit (by rw [slotsV_len]; exact (List.getElem?_eq_some_iff.mp hsl).1) hdg (fun H1 locs1 hP1 hD1 hS1 => ?_)
  rw [e9] at hP1 hD1
  rw [show (Sum.inr (ci, slotsV a ad (upd (σ k) j v) 0 sl) : va_E) = mkE cA ad a (.inl (ci, sl)) (upd (σ k) j v) from rfl, gwd_set hk hs] at hP1 hD1
  exact kk _ rfl H1 locs1 hP1 hD1 hS1
theorem g_ald {t : Nat} {ty : FieldType} (hty : ty = .int ∨ ty = .char ∨ ty = .boolean) (G : GC p s m args meth c cc maxL own ret A D tys ST) (hP : va_P D vwCl (gwd N sh cA ad a fr σ) H) (k : Nat) {n : Nat} (hk : k < N) (hs : sh k = .inr (.inl (t, n))) (ht : tys[t]? = some (cA t, ty)) {i : Int32} (hi : vp_in i n) (hdg : decode cc pc = .ok ((match ty with | .int => .iaload | .char => .caload | _ => .baload), 1))
    (kk : W p l e R s m args below meth c H locs cells slots Q (F0 m (pc + 1) ls (.int (σ k i.toNatClampNeg) :: rest))) : W p l e R s m args below meth c H locs cells slots Q (F0 m pc ls (.int i :: .ref (a k) :: rest)) := by
  rcases hty with rfl | rfl | rfl
  · exact va_iald G.1 G.2.1 G.2.2.2.2.2.2.2.2.1 hP k t (gwd_get hk hs) ht hi hdg kk
  · exact va_cald G.1 G.2.1 G.2.2.2.2.2.2.2.2.1 hP k t (gwd_get hk hs) ht hi hdg kk
  · exact va_zald G.1 G.2.1 G.2.2.2.2.2.2.2.2.1 hP k t (gwd_get hk hs) ht hi hdg kk
theorem g_ast {t : Nat} {ty : FieldType} (hty : ty = .int ∨ ty = .char ∨ ty = .boolean) (G : GC p s m args meth c cc maxL own ret A D tys ST) (hP : va_P D vwCl (gwd N sh cA ad a fr σ) H) (hD : va_D A (gwd N sh cA ad a fr σ)) (hS : va_S A s.heap H locs) (k : Nat) {n : Nat} (hk : k < N) (hs : sh k = .inr (.inl (t, n))) (ht : tys[t]? = some (cA t, ty)) {i x : Int32} (hi : vp_in i n) (hdg : decode cc pc = .ok ((match ty with | .int => .iastore | .char => .castore | _ => .bastore), 1))
    (kk : ∀ σ1 : St, σ1 = u2 σ k i.toNatClampNeg (match ty with | .int => x | t => vp_nar t x) → ∀ (H1 : Heap) (locs1 : List Loc), va_P D vwCl (gwd N sh cA ad a fr σ1) H1 → va_D A (gwd N sh cA ad a fr σ1) → va_S A s.heap H1 locs1 → W p l e R s m args below meth c H1 locs1 cells slots Q (F0 m (pc + 1) ls rest)) : W p l e R s m args below meth c H locs cells slots Q (F0 m pc ls (.int x :: .int i :: .ref (a k) :: rest)) := by
  have key : ∀ v : Int32, (gwd N sh cA ad a fr σ).set k (a k, .inl (cA t, n, .inl (upd (σ k) i.toNatClampNeg v))) = gwd N sh cA ad a fr (u2 σ k i.toNatClampNeg v) := fun v => gwd_set (s := .inr (.inl (t, n))) hk hs
  rcases hty with rfl | rfl | rfl
  · refine va_iast G.1 G.2.1 G.2.2.2.2.2.2.2.2.1 hP hD hS k t (gwd_get hk hs) ht hi hdg (fun H1 locs1 hP1 hD1 hS1 => ?_)
    rw [key] at hP1 hD1
    exact kk _ rfl H1 locs1 hP1 hD1 hS1
  · refine va_cast G.1 G.2.1 G.2.2.2.2.2.2.2.2.1 hP hD hS k t (gwd_get hk hs) ht hi hdg (fun H1 locs1 hP1 hD1 hS1 => ?_)
    rw [key] at hP1 hD1
    exact kk _ rfl H1 locs1 hP1 hD1 hS1
  · refine va_zast G.1 G.2.1 G.2.2.2.2.2.2.2.2.1 hP hD hS k t (gwd_get hk hs) ht hi hdg (fun H1 locs1 hP1 hD1 hS1 => ?_)
    rw [key] at hP1 hD1
    exact kk _ rfl H1 locs1 hP1 hD1 hS1
theorem g_ret {σ' : St} {v r : Int32} {ty : FieldType} (G : GC p s m args meth c cc maxL own (some ty) A D tys ST) (hP : va_P D vwCl (gwd N sh cA ad a fr σ) H) (hD : va_D A (gwd N sh cA ad a fr σ)) (hS : va_S A s.heap H locs) (h : (some (v, σ) : Option (Int32 × St)) = some (r, σ')) (hn : narrow ty (.int v) = .int v) (hdg : decode cc pc = .ok (.ireturn, 1)) : W p l e R s m args below meth c H locs 0 0 (MQ below (gQi D tys A (gwd N sh cA ad a fr) r σ') args s 0 0 A) (F0 m pc ls [.int v]) := by
  cases h
  obtain ⟨hx, hb, hml, hown, hts, hr, hlocks, hA, hK, hN, hX, hT⟩ := G
  exact W.zret hx hb hr hn (fun t ht hW => ⟨⟨v, σ, rfl, ⟨rfl, rfl⟩, by rw [ht]; exact hP, va_K.moved hW.alike hK, hD⟩, hS.F ht⟩) hS.2.2 hdg
theorem g_vret {σ' : St} {v r : Int32} (G : GC p s m args meth c cc maxL own none A D tys ST) (hP : va_P D vwCl (gwd N sh cA ad a fr σ) H) (hD : va_D A (gwd N sh cA ad a fr σ)) (hS : va_S A s.heap H locs) (h : (some (v, σ) : Option (Int32 × St)) = some (r, σ')) (hdg : decode cc pc = .ok (.return_, 1)) : W p l e R s m args below meth c H locs 0 0 (MQ below (gQv D tys A (gwd N sh cA ad a fr) σ') args s 0 0 A) (F0 m pc ls []) := by
  cases h
  obtain ⟨hx, hb, hml, hown, hts, hr, hlocks, hA, hK, hN, hX, hT⟩ := G
  exact W.vret hx hb hr (fun t ht hW => ⟨⟨σ, rfl, rfl, by rw [ht]; exact hP, va_K.moved hW.alike hK, hD⟩, hS.F ht⟩) hS.2.2 hdg
theorem g_good {own C : String} {index n : Nat} {y : MethodName} {b : ByteArray} {ret' : Option FieldType} (h1 : Cond.methodLink own index y ∈ BIG) (h2 : Cond.instanceMethod y ∈ BIG) (h3 : Cond.selects C y y ∈ BIG) (h4 : Cond.initialized C ∈ BIG) (h5 : Cond.code y b n ret' ∈ BIG) : GoodIn BIG (wsV own index C y (.code y b n ret' :: BIG)) := by
  intro w hw
  unfold wsV at hw
  refine big_good w ?_
  rcases List.mem_append.mp hw with h | h
  · simp only [List.mem_cons, List.not_mem_nil, or_false] at h
    rcases h with rfl | rfl | rfl | rfl <;> assumption
  · rcases List.mem_cons.mp h with rfl | h
    · exact h5
    · exact h
theorem g_goodS {own : String} {index n : Nat} {y : MethodName} {b : ByteArray} {ret' : Option FieldType} (h1 : Cond.methodLink own index y ∈ BIG) (h2 : Cond.static y ∈ BIG) (h4 : Cond.initialized own ∈ BIG) (h5 : Cond.code y b n ret' ∈ BIG) : GoodIn BIG (wsS own index y (.code y b n ret' :: BIG)) := by
  intro w hw
  unfold wsS at hw
  refine big_good w ?_
  rcases List.mem_append.mp hw with h | h
  · simp only [List.mem_cons, List.not_mem_nil, or_false] at h
    rcases h with rfl | rfl | rfl <;> assumption
  · rcases List.mem_cons.mp h with rfl | h
    · exact h5
    · exact h
theorem g_callVi {d d1 : Nat} {y : MethodName} {bytes : ByteArray} {n nA index ci : Nat} {ret' : Option FieldType} {C : String} {T : u_T} {M : Nat} {sl : List Nat} {σ1 : St} {r : Int32} {As st0 : List Value} {k : Nat} (hM : gMet l y bytes n ret' d1 D tys ST (gwd N sh cA ad a fr σ) (.ref (a k) :: As) (fun A => gQi D tys A (gwd N sh cA ad a fr) r σ1)) (G : GC p s m args meth c cc maxL own ret A D tys ST) (hP : va_P D vwCl (gwd N sh cA ad a fr σ) H) (hD : va_D A (gwd N sh cA ad a fr σ)) (hS : va_S A s.heap H locs)
    (hg : GoodIn BIG (wsV own index C y (.code y bytes n ret' :: BIG))) (hd : y.cls = C ∧ y.cls ≠ "java/lang/invoke/MethodHandle" ∧ y.cls ≠ "java/lang/invoke/VarHandle" ∧ (parseMethodDescriptor y.desc).map (fun d => d.parameters.length) = some nA) (hr : d1 + 1 ≤ d ∧ n ≤ 21) (hk : k < N) (hs : sh k = .inl (ci, sl)) (hc : vwCl[ci]? = some (C, T, M)) (hn : As.length = nA) (hls : ls.size = maxL) (rest : List Value) (hst : st0 = As.reverse ++ .ref (a k) :: rest) (hcat : (rest.map fun v => v.category).sum ≤ 8) (hdg : decode cc pc = .ok (.invokevirtual index, 3))
    (kk : ∀ (H1 : Heap) (locs1 : List Loc), va_P D vwCl (gwd N sh cA ad a fr σ1) H1 → va_D A (gwd N sh cA ad a fr σ1) → va_S A s.heap H1 locs1 → W p l e (RM d) s m args below meth c H1 locs1 0 0 Q (F0 m (pc + 3) ls (.int r :: rest))) : W p l e (RM d) s m args below meth c H locs 0 0 Q (F0 m pc ls st0) := by
  obtain ⟨hx, hb, hml, hown, hts, -, hlocks, hA, hK, hN, hX, hT⟩ := G
  have hF := g_free hD hS hA
  refine va_calli (va_runV (As := As) (rest := rest) ⟨hx, hb, hml, hown, hts⟩ (hM H.size) (cwV nA hts hg rfl rfl rfl hd ⟨by show d1 + 1 ≤ d; exact hr.1, by show 8 + (n + 11) + 40 * d1 ≤ 40 * d; omega⟩) ⟨gPre_blind hT, va_recv hK hP hc (gwd_get hk hs), fun U hU hW => ⟨rfl, by rw [hU], by rw [hU]; exact hP, va_K.moved hW.alike hK, hD.weaken (fun _ _ _ _ => trivial), hN.warm hW, hT.2 _ _ _ _ _ _ hX hS hU hW hF⟩⟩ rfl hn hls hst (lv_room hcat) hdg ⟨Nat.zero_le _, Nat.zero_le _⟩) hS (fun q _ h => hF q h) hF (fun r9 u9 t H1 locs1 ht hvm hw hB hz1 hk1 hS1 => ?_)
  obtain ⟨rfl, rfl⟩ := hw
  obtain ⟨hP1, hK1, hD1⟩ := hB
  rw [ht] at hP1
  exact kk H1 locs1 hP1 (hD1.weaken (fun _ q _ h => hF q.1 h)) hS1
theorem g_callVv {d d1 : Nat} {y : MethodName} {bytes : ByteArray} {n nA index ci : Nat} {ret' : Option FieldType} {C : String} {T : u_T} {M : Nat} {sl : List Nat} {σ1 : St} {As st0 : List Value} {k : Nat} (hM : gMet l y bytes n ret' d1 D tys ST (gwd N sh cA ad a fr σ) (.ref (a k) :: As) (fun A => gQv D tys A (gwd N sh cA ad a fr) σ1)) (G : GC p s m args meth c cc maxL own ret A D tys ST) (hP : va_P D vwCl (gwd N sh cA ad a fr σ) H) (hD : va_D A (gwd N sh cA ad a fr σ)) (hS : va_S A s.heap H locs)
    (hg : GoodIn BIG (wsV own index C y (.code y bytes n ret' :: BIG))) (hd : y.cls = C ∧ y.cls ≠ "java/lang/invoke/MethodHandle" ∧ y.cls ≠ "java/lang/invoke/VarHandle" ∧ (parseMethodDescriptor y.desc).map (fun d => d.parameters.length) = some nA) (hr : d1 + 1 ≤ d ∧ n ≤ 21) (hk : k < N) (hs : sh k = .inl (ci, sl)) (hc : vwCl[ci]? = some (C, T, M)) (hn : As.length = nA) (hls : ls.size = maxL) (rest : List Value) (hst : st0 = As.reverse ++ .ref (a k) :: rest) (hcat : (rest.map fun v => v.category).sum ≤ 8) (hdg : decode cc pc = .ok (.invokevirtual index, 3))
    (kk : ∀ (H1 : Heap) (locs1 : List Loc), va_P D vwCl (gwd N sh cA ad a fr σ1) H1 → va_D A (gwd N sh cA ad a fr σ1) → va_S A s.heap H1 locs1 → W p l e (RM d) s m args below meth c H1 locs1 0 0 Q (F0 m (pc + 3) ls rest)) : W p l e (RM d) s m args below meth c H locs 0 0 Q (F0 m pc ls st0) := by
  obtain ⟨hx, hb, hml, hown, hts, -, hlocks, hA, hK, hN, hX, hT⟩ := G
  have hF := g_free hD hS hA
  refine va_callv (va_runV (As := As) (rest := rest) ⟨hx, hb, hml, hown, hts⟩ (hM H.size) (cwV nA hts hg rfl rfl rfl hd ⟨by show d1 + 1 ≤ d; exact hr.1, by show 8 + (n + 11) + 40 * d1 ≤ 40 * d; omega⟩) ⟨gPre_blind hT, va_recv hK hP hc (gwd_get hk hs), fun U hU hW => ⟨rfl, by rw [hU], by rw [hU]; exact hP, va_K.moved hW.alike hK, hD.weaken (fun _ _ _ _ => trivial), hN.warm hW, hT.2 _ _ _ _ _ _ hX hS hU hW hF⟩⟩ rfl hn hls hst (lv_room hcat) hdg ⟨Nat.zero_le _, Nat.zero_le _⟩) hS (fun q _ h => hF q h) hF (fun u9 t H1 locs1 ht hvm hw hB hz1 hk1 hS1 => ?_)
  subst hw
  obtain ⟨hP1, hK1, hD1⟩ := hB
  rw [ht] at hP1
  exact kk H1 locs1 hP1 (hD1.weaken (fun _ q _ h => hF q.1 h)) hS1
theorem g_callSi {d d1 : Nat} {y : MethodName} {bytes : ByteArray} {n nA index : Nat} {ret' : Option FieldType} {σ1 : St} {r : Int32} {As st0 : List Value} (hM : gMet l y bytes n ret' d1 D tys ST (gwd N sh cA ad a fr σ) As (fun A => gQi D tys A (gwd N sh cA ad a fr) r σ1)) (G : GC p s m args meth c cc maxL own ret A D tys ST) (hP : va_P D vwCl (gwd N sh cA ad a fr σ) H) (hD : va_D A (gwd N sh cA ad a fr σ)) (hS : va_S A s.heap H locs)
    (hg : GoodIn BIG (wsS own index y (.code y bytes n ret' :: BIG))) (hd : y.cls = own ∧ y.cls ≠ "java/lang/invoke/MethodHandle" ∧ y.cls ≠ "java/lang/invoke/VarHandle" ∧ (parseMethodDescriptor y.desc).map (fun d => d.parameters.length) = some nA) (hr : d1 + 1 ≤ d ∧ n ≤ 21) (hn : As.length = nA) (hls : ls.size = maxL) (rest : List Value) (hst : st0 = As.reverse ++ rest) (hcat : (rest.map fun v => v.category).sum ≤ 8) (hdg : decode cc pc = .ok (.invokestatic index, 3))
    (kk : ∀ (H1 : Heap) (locs1 : List Loc), va_P D vwCl (gwd N sh cA ad a fr σ1) H1 → va_D A (gwd N sh cA ad a fr σ1) → va_S A s.heap H1 locs1 → W p l e (RM d) s m args below meth c H1 locs1 0 0 Q (F0 m (pc + 3) ls (.int r :: rest))) : W p l e (RM d) s m args below meth c H locs 0 0 Q (F0 m pc ls st0) := by
  obtain ⟨hx, hb, hml, hown, hts, -, hlocks, hA, hK, hN, hX, hT⟩ := G
  have hF := g_free hD hS hA
  refine va_calli (va_runS (As := As) (rest := rest) ⟨hx, hb, hml, hown, hts⟩ (hM H.size) (cwS nA hts hg rfl rfl rfl hd ⟨by show d1 + 1 ≤ d; exact hr.1, by show 8 + (n + 11) + 40 * d1 ≤ 40 * d; omega⟩) ⟨gPre_blind hT, fun U hU hW => ⟨rfl, by rw [hU], by rw [hU]; exact hP, va_K.moved hW.alike hK, hD.weaken (fun _ _ _ _ => trivial), hN.warm hW, hT.2 _ _ _ _ _ _ hX hS hU hW hF⟩⟩ rfl hn hls hst (lv_room hcat) hdg ⟨Nat.zero_le _, Nat.zero_le _⟩) hS (fun q _ h => hF q h) hF (fun r9 u9 t H1 locs1 ht hvm hw hB hz1 hk1 hS1 => ?_)
  obtain ⟨rfl, rfl⟩ := hw
  obtain ⟨hP1, hK1, hD1⟩ := hB
  rw [ht] at hP1
  exact kk H1 locs1 hP1 (hD1.weaken (fun _ q _ h => hF q.1 h)) hS1
end GR
