section
-- ===== PART A: goes FIRST, ahead of the names: the tables' words, and 'selects' of the private methods out of them =====
/-- a private method of a class that the tables say can be made, by its rows of tables_1 -/
def lw_okq (q : MethodName × Nat) : Prop := (q.1.cls ≠ "java/lang/invoke/MethodHandle" ∧ q.1.cls ≠ "java/lang/invoke/VarHandle") ∧ Cond.instantiable q.1.cls q.2 ∈ tables_1 ∧ Cond.privateMethod q.1 ∈ tables_1 ∧ Cond.instanceMethod q.1 ∈ tables_1
theorem lw_p0 : lw_okq (⟨"BasketHouse", "isThing", "(I)Z"⟩, 15) := ⟨⟨by decide +kernel, by decide +kernel⟩, List.mem_of_getElem? (i := 6) (by decide +kernel), List.mem_of_getElem? (i := 80) (by decide +kernel), List.mem_of_getElem? (i := 81) (by decide +kernel)⟩
theorem lw_p1 : lw_okq (⟨"BasketHouse", "areTwoThings", "(II)Z"⟩, 15) := ⟨⟨by decide +kernel, by decide +kernel⟩, List.mem_of_getElem? (i := 6) (by decide +kernel), List.mem_of_getElem? (i := 97) (by decide +kernel), List.mem_of_getElem? (i := 98) (by decide +kernel)⟩
theorem lw_p2 : lw_okq (⟨"BasketHouse", "isSetOfThings", "(I)Z"⟩, 15) := ⟨⟨by decide +kernel, by decide +kernel⟩, List.mem_of_getElem? (i := 6) (by decide +kernel), List.mem_of_getElem? (i := 108) (by decide +kernel), List.mem_of_getElem? (i := 109) (by decide +kernel)⟩
theorem lw_p3 : lw_okq (⟨"BasketHouse", "allThings", "()I"⟩, 15) := ⟨⟨by decide +kernel, by decide +kernel⟩, List.mem_of_getElem? (i := 6) (by decide +kernel), List.mem_of_getElem? (i := 112) (by decide +kernel), List.mem_of_getElem? (i := 113) (by decide +kernel)⟩
theorem lw_p4 : lw_okq (⟨"BasketHouse", "clearShown", "(II)V"⟩, 15) := ⟨⟨by decide +kernel, by decide +kernel⟩, List.mem_of_getElem? (i := 6) (by decide +kernel), List.mem_of_getElem? (i := 116) (by decide +kernel), List.mem_of_getElem? (i := 117) (by decide +kernel)⟩
theorem lw_p5 : lw_okq (⟨"BasketHouse", "isBasket", "(I)Z"⟩, 15) := ⟨⟨by decide +kernel, by decide +kernel⟩, List.mem_of_getElem? (i := 6) (by decide +kernel), List.mem_of_getElem? (i := 124) (by decide +kernel), List.mem_of_getElem? (i := 125) (by decide +kernel)⟩
theorem lw_p6 : lw_okq (⟨"BasketHouse", "removeBasket", "(I)V"⟩, 15) := ⟨⟨by decide +kernel, by decide +kernel⟩, List.mem_of_getElem? (i := 6) (by decide +kernel), List.mem_of_getElem? (i := 128) (by decide +kernel), List.mem_of_getElem? (i := 129) (by decide +kernel)⟩
theorem lw_p7 : lw_okq (⟨"BasketHouse", "removeOldBaskets", "()V"⟩, 15) := ⟨⟨by decide +kernel, by decide +kernel⟩, List.mem_of_getElem? (i := 6) (by decide +kernel), List.mem_of_getElem? (i := 140) (by decide +kernel), List.mem_of_getElem? (i := 141) (by decide +kernel)⟩
theorem lw_p8 : lw_okq (⟨"BasketHouse", "newThings", "()I"⟩, 15) := ⟨⟨by decide +kernel, by decide +kernel⟩, List.mem_of_getElem? (i := 6) (by decide +kernel), List.mem_of_getElem? (i := 148) (by decide +kernel), List.mem_of_getElem? (i := 149) (by decide +kernel)⟩
theorem lw_p9 : lw_okq (⟨"BasketHouse", "basketsWith", "(II)I"⟩, 15) := ⟨⟨by decide +kernel, by decide +kernel⟩, List.mem_of_getElem? (i := 6) (by decide +kernel), List.mem_of_getElem? (i := 160) (by decide +kernel), List.mem_of_getElem? (i := 161) (by decide +kernel)⟩
theorem lw_p10 : lw_okq (⟨"BasketHouse", "peopleWith", "(II)I"⟩, 15) := ⟨⟨by decide +kernel, by decide +kernel⟩, List.mem_of_getElem? (i := 6) (by decide +kernel), List.mem_of_getElem? (i := 164) (by decide +kernel), List.mem_of_getElem? (i := 165) (by decide +kernel)⟩
theorem lw_p11 : lw_okq (⟨"BasketHouse", "kinOf", "(II)I"⟩, 15) := ⟨⟨by decide +kernel, by decide +kernel⟩, List.mem_of_getElem? (i := 6) (by decide +kernel), List.mem_of_getElem? (i := 178) (by decide +kernel), List.mem_of_getElem? (i := 179) (by decide +kernel)⟩
theorem lw_p12 : lw_okq (⟨"BasketHouse", "writeKin", "(II)V"⟩, 15) := ⟨⟨by decide +kernel, by decide +kernel⟩, List.mem_of_getElem? (i := 6) (by decide +kernel), List.mem_of_getElem? (i := 187) (by decide +kernel), List.mem_of_getElem? (i := 188) (by decide +kernel)⟩
theorem lw_p13 : lw_okq (⟨"BasketHouse", "bestByPoints", "(I)I"⟩, 15) := ⟨⟨by decide +kernel, by decide +kernel⟩, List.mem_of_getElem? (i := 6) (by decide +kernel), List.mem_of_getElem? (i := 191) (by decide +kernel), List.mem_of_getElem? (i := 192) (by decide +kernel)⟩
theorem lw_p14 : lw_okq (⟨"BasketHouse", "takenBy", "(I)I"⟩, 15) := ⟨⟨by decide +kernel, by decide +kernel⟩, List.mem_of_getElem? (i := 6) (by decide +kernel), List.mem_of_getElem? (i := 199) (by decide +kernel), List.mem_of_getElem? (i := 200) (by decide +kernel)⟩
theorem lw_p15 : lw_okq (⟨"BasketHouse", "scoreOf", "(II)I"⟩, 15) := ⟨⟨by decide +kernel, by decide +kernel⟩, List.mem_of_getElem? (i := 6) (by decide +kernel), List.mem_of_getElem? (i := 207) (by decide +kernel), List.mem_of_getElem? (i := 208) (by decide +kernel)⟩
def lw_privs_1 : List (MethodName × Nat) := [(⟨"BasketHouse", "isThing", "(I)Z"⟩, 15), (⟨"BasketHouse", "areTwoThings", "(II)Z"⟩, 15), (⟨"BasketHouse", "isSetOfThings", "(I)Z"⟩, 15), (⟨"BasketHouse", "allThings", "()I"⟩, 15), (⟨"BasketHouse", "clearShown", "(II)V"⟩, 15), (⟨"BasketHouse", "isBasket", "(I)Z"⟩, 15), (⟨"BasketHouse", "removeBasket", "(I)V"⟩, 15), (⟨"BasketHouse", "removeOldBaskets", "()V"⟩, 15), (⟨"BasketHouse", "newThings", "()I"⟩, 15), (⟨"BasketHouse", "basketsWith", "(II)I"⟩, 15), (⟨"BasketHouse", "peopleWith", "(II)I"⟩, 15), (⟨"BasketHouse", "kinOf", "(II)I"⟩, 15), (⟨"BasketHouse", "writeKin", "(II)V"⟩, 15), (⟨"BasketHouse", "bestByPoints", "(I)I"⟩, 15), (⟨"BasketHouse", "takenBy", "(I)I"⟩, 15), (⟨"BasketHouse", "scoreOf", "(II)I"⟩, 15)]
theorem lw_r1 : ∀ q ∈ lw_privs_1, lw_okq q := List.forall_mem_cons.mpr ⟨lw_p0, List.forall_mem_cons.mpr ⟨lw_p1, List.forall_mem_cons.mpr ⟨lw_p2, List.forall_mem_cons.mpr ⟨lw_p3, List.forall_mem_cons.mpr ⟨lw_p4, List.forall_mem_cons.mpr ⟨lw_p5, List.forall_mem_cons.mpr ⟨lw_p6, List.forall_mem_cons.mpr ⟨lw_p7, List.forall_mem_cons.mpr ⟨lw_p8, List.forall_mem_cons.mpr ⟨lw_p9, List.forall_mem_cons.mpr ⟨lw_p10, List.forall_mem_cons.mpr ⟨lw_p11, List.forall_mem_cons.mpr ⟨lw_p12, List.forall_mem_cons.mpr ⟨lw_p13, List.forall_mem_cons.mpr ⟨lw_p14, List.forall_mem_cons.mpr ⟨lw_p15, fun _ h => absurd h List.not_mem_nil⟩⟩⟩⟩⟩⟩⟩⟩⟩⟩⟩⟩⟩⟩⟩⟩
theorem lw_p16 : lw_okq (⟨"BasketHouse", "mayPutUp", "(I)I"⟩, 15) := ⟨⟨by decide +kernel, by decide +kernel⟩, List.mem_of_getElem? (i := 6) (by decide +kernel), List.mem_of_getElem? (i := 215) (by decide +kernel), List.mem_of_getElem? (i := 216) (by decide +kernel)⟩
theorem lw_p17 : lw_okq (⟨"BasketHouse", "daysTired", "(II)I"⟩, 15) := ⟨⟨by decide +kernel, by decide +kernel⟩, List.mem_of_getElem? (i := 6) (by decide +kernel), List.mem_of_getElem? (i := 219) (by decide +kernel), List.mem_of_getElem? (i := 220) (by decide +kernel)⟩
theorem lw_p18 : lw_okq (⟨"BasketHouse", "canList", "(II)Z"⟩, 15) := ⟨⟨by decide +kernel, by decide +kernel⟩, List.mem_of_getElem? (i := 6) (by decide +kernel), List.mem_of_getElem? (i := 230) (by decide +kernel), List.mem_of_getElem? (i := 231) (by decide +kernel)⟩
theorem lw_p19 : lw_okq (⟨"BasketHouse", "bestList", "(II)I"⟩, 15) := ⟨⟨by decide +kernel, by decide +kernel⟩, List.mem_of_getElem? (i := 6) (by decide +kernel), List.mem_of_getElem? (i := 234) (by decide +kernel), List.mem_of_getElem? (i := 235) (by decide +kernel)⟩
theorem lw_p20 : lw_okq (⟨"BasketHouse", "isTurnOfNew", "(I)Z"⟩, 15) := ⟨⟨by decide +kernel, by decide +kernel⟩, List.mem_of_getElem? (i := 6) (by decide +kernel), List.mem_of_getElem? (i := 238) (by decide +kernel), List.mem_of_getElem? (i := 239) (by decide +kernel)⟩
theorem lw_p21 : lw_okq (⟨"BasketHouse", "writeScores", "(II)V"⟩, 15) := ⟨⟨by decide +kernel, by decide +kernel⟩, List.mem_of_getElem? (i := 6) (by decide +kernel), List.mem_of_getElem? (i := 242) (by decide +kernel), List.mem_of_getElem? (i := 243) (by decide +kernel)⟩
theorem lw_p22 : lw_okq (⟨"BasketHouse", "keepsRules", "(I)Z"⟩, 15) := ⟨⟨by decide +kernel, by decide +kernel⟩, List.mem_of_getElem? (i := 6) (by decide +kernel), List.mem_of_getElem? (i := 246) (by decide +kernel), List.mem_of_getElem? (i := 247) (by decide +kernel)⟩
theorem lw_p23 : lw_okq (⟨"BasketHouse", "sumOfPoints", "(I)I"⟩, 15) := ⟨⟨by decide +kernel, by decide +kernel⟩, List.mem_of_getElem? (i := 6) (by decide +kernel), List.mem_of_getElem? (i := 250) (by decide +kernel), List.mem_of_getElem? (i := 251) (by decide +kernel)⟩
theorem lw_p24 : lw_okq (⟨"BasketHouse", "showOnce", "(II)V"⟩, 15) := ⟨⟨by decide +kernel, by decide +kernel⟩, List.mem_of_getElem? (i := 6) (by decide +kernel), List.mem_of_getElem? (i := 258) (by decide +kernel), List.mem_of_getElem? (i := 259) (by decide +kernel)⟩
theorem lw_p25 : lw_okq (⟨"BasketHouseModel", "isThing", "(I)Z"⟩, 20) := ⟨⟨by decide +kernel, by decide +kernel⟩, List.mem_of_getElem? (i := 270) (by decide +kernel), List.mem_of_getElem? (i := 348) (by decide +kernel), List.mem_of_getElem? (i := 349) (by decide +kernel)⟩
theorem lw_p26 : lw_okq (⟨"BasketHouseModel", "goes", "(I)V"⟩, 20) := ⟨⟨by decide +kernel, by decide +kernel⟩, List.mem_of_getElem? (i := 270) (by decide +kernel), List.mem_of_getElem? (i := 371) (by decide +kernel), List.mem_of_getElem? (i := 372) (by decide +kernel)⟩
theorem lw_p27 : lw_okq (⟨"BasketHouseModel", "news", "()I"⟩, 20) := ⟨⟨by decide +kernel, by decide +kernel⟩, List.mem_of_getElem? (i := 270) (by decide +kernel), List.mem_of_getElem? (i := 387) (by decide +kernel), List.mem_of_getElem? (i := 388) (by decide +kernel)⟩
theorem lw_p28 : lw_okq (⟨"BasketHouseModel", "both", "(II)I"⟩, 20) := ⟨⟨by decide +kernel, by decide +kernel⟩, List.mem_of_getElem? (i := 270) (by decide +kernel), List.mem_of_getElem? (i := 399) (by decide +kernel), List.mem_of_getElem? (i := 400) (by decide +kernel)⟩
theorem lw_p29 : lw_okq (⟨"BasketHouseModel", "people", "(II)I"⟩, 20) := ⟨⟨by decide +kernel, by decide +kernel⟩, List.mem_of_getElem? (i := 270) (by decide +kernel), List.mem_of_getElem? (i := 403) (by decide +kernel), List.mem_of_getElem? (i := 404) (by decide +kernel)⟩
theorem lw_p30 : lw_okq (⟨"BasketHouseModel", "kinOf", "(II)I"⟩, 20) := ⟨⟨by decide +kernel, by decide +kernel⟩, List.mem_of_getElem? (i := 270) (by decide +kernel), List.mem_of_getElem? (i := 411) (by decide +kernel), List.mem_of_getElem? (i := 412) (by decide +kernel)⟩
theorem lw_p31 : lw_okq (⟨"BasketHouseModel", "takenBy", "(I)I"⟩, 20) := ⟨⟨by decide +kernel, by decide +kernel⟩, List.mem_of_getElem? (i := 270) (by decide +kernel), List.mem_of_getElem? (i := 424) (by decide +kernel), List.mem_of_getElem? (i := 425) (by decide +kernel)⟩
def lw_privs_2 : List (MethodName × Nat) := [(⟨"BasketHouse", "mayPutUp", "(I)I"⟩, 15), (⟨"BasketHouse", "daysTired", "(II)I"⟩, 15), (⟨"BasketHouse", "canList", "(II)Z"⟩, 15), (⟨"BasketHouse", "bestList", "(II)I"⟩, 15), (⟨"BasketHouse", "isTurnOfNew", "(I)Z"⟩, 15), (⟨"BasketHouse", "writeScores", "(II)V"⟩, 15), (⟨"BasketHouse", "keepsRules", "(I)Z"⟩, 15), (⟨"BasketHouse", "sumOfPoints", "(I)I"⟩, 15), (⟨"BasketHouse", "showOnce", "(II)V"⟩, 15), (⟨"BasketHouseModel", "isThing", "(I)Z"⟩, 20), (⟨"BasketHouseModel", "goes", "(I)V"⟩, 20), (⟨"BasketHouseModel", "news", "()I"⟩, 20), (⟨"BasketHouseModel", "both", "(II)I"⟩, 20), (⟨"BasketHouseModel", "people", "(II)I"⟩, 20), (⟨"BasketHouseModel", "kinOf", "(II)I"⟩, 20), (⟨"BasketHouseModel", "takenBy", "(I)I"⟩, 20)]
theorem lw_r2 : ∀ q ∈ lw_privs_2, lw_okq q := List.forall_mem_cons.mpr ⟨lw_p16, List.forall_mem_cons.mpr ⟨lw_p17, List.forall_mem_cons.mpr ⟨lw_p18, List.forall_mem_cons.mpr ⟨lw_p19, List.forall_mem_cons.mpr ⟨lw_p20, List.forall_mem_cons.mpr ⟨lw_p21, List.forall_mem_cons.mpr ⟨lw_p22, List.forall_mem_cons.mpr ⟨lw_p23, List.forall_mem_cons.mpr ⟨lw_p24, List.forall_mem_cons.mpr ⟨lw_p25, List.forall_mem_cons.mpr ⟨lw_p26, List.forall_mem_cons.mpr ⟨lw_p27, List.forall_mem_cons.mpr ⟨lw_p28, List.forall_mem_cons.mpr ⟨lw_p29, List.forall_mem_cons.mpr ⟨lw_p30, List.forall_mem_cons.mpr ⟨lw_p31, fun _ h => absurd h List.not_mem_nil⟩⟩⟩⟩⟩⟩⟩⟩⟩⟩⟩⟩⟩⟩⟩⟩
theorem lw_p32 : lw_okq (⟨"BasketHouseModel", "scoreOf", "(II)I"⟩, 20) := ⟨⟨by decide +kernel, by decide +kernel⟩, List.mem_of_getElem? (i := 270) (by decide +kernel), List.mem_of_getElem? (i := 432) (by decide +kernel), List.mem_of_getElem? (i := 433) (by decide +kernel)⟩
theorem lw_p33 : lw_okq (⟨"BasketHouseModel", "mayFor", "(I)I"⟩, 20) := ⟨⟨by decide +kernel, by decide +kernel⟩, List.mem_of_getElem? (i := 270) (by decide +kernel), List.mem_of_getElem? (i := 440) (by decide +kernel), List.mem_of_getElem? (i := 441) (by decide +kernel)⟩
theorem lw_p34 : lw_okq (⟨"BasketHouseModel", "lists", "(II)Z"⟩, 20) := ⟨⟨by decide +kernel, by decide +kernel⟩, List.mem_of_getElem? (i := 270) (by decide +kernel), List.mem_of_getElem? (i := 448) (by decide +kernel), List.mem_of_getElem? (i := 449) (by decide +kernel)⟩
theorem lw_p35 : lw_okq (⟨"BasketHouseModel", "keeps", "(I)Z"⟩, 20) := ⟨⟨by decide +kernel, by decide +kernel⟩, List.mem_of_getElem? (i := 270) (by decide +kernel), List.mem_of_getElem? (i := 455) (by decide +kernel), List.mem_of_getElem? (i := 456) (by decide +kernel)⟩
def lw_privs_3 : List (MethodName × Nat) := [(⟨"BasketHouseModel", "scoreOf", "(II)I"⟩, 20), (⟨"BasketHouseModel", "mayFor", "(I)I"⟩, 20), (⟨"BasketHouseModel", "lists", "(II)Z"⟩, 20), (⟨"BasketHouseModel", "keeps", "(I)Z"⟩, 20)]
theorem lw_r3 : ∀ q ∈ lw_privs_3, lw_okq q := List.forall_mem_cons.mpr ⟨lw_p32, List.forall_mem_cons.mpr ⟨lw_p33, List.forall_mem_cons.mpr ⟨lw_p34, List.forall_mem_cons.mpr ⟨lw_p35, fun _ h => absurd h List.not_mem_nil⟩⟩⟩⟩
def lw_privs : List (MethodName × Nat) := lw_privs_1 ++ (lw_privs_2 ++ (lw_privs_3))
def lw_tbl : List Cond := k2_sels lw_privs ++ tables_1
theorem lw_privs_ok : ∀ q ∈ lw_privs, lw_okq q := by
  show ∀ q ∈ lw_privs_1 ++ (lw_privs_2 ++ (lw_privs_3)), lw_okq q
  exact List.forall_mem_append.mpr ⟨lw_r1, List.forall_mem_append.mpr ⟨lw_r2, lw_r3⟩⟩
end
section
/-- of an array's class: the array class over it (the printed rows below ask for this name, which nothing in the kit defines) -/
def va_AOA (ty : FieldType) (U : State) : Prop := (Cond.arrayOver (.array ty)).before #[] U = true
theorem va_AOA.use {ty : FieldType} {A : Array Value} {U : State} (h : va_AOA ty U) : (Cond.arrayOver (.array ty)).before A U = true := h
/-! ===== BEGIN words of one list among another's, by their places ===== -/
theorem goodIn_r {big : List Cond} (ws : List Cond) (ps : List Nat) (hp : ws = ps.filterMap (fun i => big[i]?)) (h : ws.all goodWord = true) : GoodIn big ws := by
  intro w hw
  have h1 := List.all_eq_true.mp h w hw
  rw [hp] at hw
  obtain ⟨i, -, hi⟩ := List.mem_filterMap.mp hw
  have hm : w ∈ big := by first | exact List.mem_of_getElem? hi | exact List.getElem?_mem hi
  exact ⟨hm, good_of_word h1⟩
theorem goodIn_app {big a b : List Cond} (ha : GoodIn big a) (hb : GoodIn big b) : GoodIn big (a ++ b) := fun w h => (List.mem_append.mp h).elim (ha w) (hb w)
theorem goodIn_ca {big a b : List Cond} {c : Cond} (ha : GoodIn big (c :: a)) (hb : GoodIn big b) : GoodIn big (c :: (a ++ b)) := fun w h => (List.mem_cons.mp h).elim (fun e => ha w (List.mem_cons.mpr (Or.inl e))) (fun h => (List.mem_append.mp h).elim (fun h => ha w (List.mem_cons.mpr (Or.inr h))) (hb w))
theorem goodIn_sub {big ws : List Cond} (hm : ∀ w ∈ ws, w ∈ big) (h : ws.all goodWord = true) : GoodIn big ws := fun w hw => ⟨hm w hw, good_of_word (List.all_eq_true.mp h w hw)⟩
/-! ===== END ===== -/

/-! ===== BEGIN new T[n][m]: the outer array a place, the inner ones among the pooled ===== -/
/-- f, but v at every address of l -/
def vr_up {α : Type} (f : Nat → α) (l : List Nat) (v : α) : Nat → α := fun a => if a ∈ l then v else f a
theorem vr_up_in {α : Type} {f : Nat → α} {l : List Nat} {v : α} {a : Nat} (h : a ∈ l) : vr_up f l v a = v := if_pos h
theorem vr_up_ne {α : Type} {f : Nat → α} {l : List Nat} {v : α} {a : Nat} (h : a ∉ l) : vr_up f l v a = f a := if_neg h
theorem vr_rows {L l : List Nat} {f : Nat → va_E} {e : va_E} (h : ∀ a, a ∈ l → a ∉ L) : va_pl L f ++ l.map (fun a => (a, e)) = va_pl (L ++ l) (vr_up f l e) := by
  unfold va_pl
  rw [List.map_append]
  congr 1
  · apply List.map_congr_left
    intro a ha
    rw [vr_up_ne (fun q => h a q ha)]
  · apply List.map_congr_left
    intro a ha
    rw [vr_up_in ha]
theorem vr_lay {X rows : va_W} {x : Nat × va_E} {pl : va_W} {D : va_G} {cl : List vw_C} {H : Heap} (hP : va_P D cl (((X ++ pl) ++ [x]) ++ rows) H) : va_P D cl ((X ++ [x]) ++ (pl ++ rows)) H := by
  rw [List.append_assoc (X ++ pl)] at hP
  have h := va_P.swap hP
  rw [← List.append_assoc X] at h
  have h2 := va_P.swap h
  rw [List.append_assoc (X ++ [x])] at h2
  exact h2
theorem vr_layD {X rows : va_W} {x : Nat × va_E} {pl : va_W} {A : Nat → Prop} (hD : va_D A (((X ++ pl) ++ [x]) ++ rows)) : va_D A ((X ++ [x]) ++ (pl ++ rows)) := by
  rw [List.append_assoc (X ++ pl)] at hD
  have h := va_D.swap hD
  rw [← List.append_assoc X] at h
  have h2 := va_D.swap h
  rw [List.append_assoc (X ++ [x])] at h2
  exact h2
theorem vr_outer (c : ClassId) (N h0 : Nat) : ∀ i : Nat, Jvm.Free.Multi.outerC c N h0 i = arrV c N (fun j => va_rf (if j < i then some (h0 + 1 + j) else none))
  | 0 => by
    show ({ cls := c, slots := Array.replicate N .null, vm := .none } : Cell) = _
    rw [arrV_new]
    refine congrArg (arrV c N) (funext fun j => ?_)
    simp [va_rf]
  | i + 1 => by
    show (Jvm.Free.Multi.outerC c N h0 i).setSlot i (.ref (h0 + 1 + i)) = _
    rw [vr_outer c N h0 i, arrV_store]
    refine congrArg (arrV c N) (funext fun j => ?_)
    by_cases e : j = i
    · subst e
      simp [updV, va_rf]
    · by_cases h : j < i
      · simp [updV, e, h, Nat.lt_succ_of_lt h]
      · simp [updV, e, h, show ¬ j < i + 1 by omega]
section VGM
variable {p : Program} {l : Launch} {e : Env} {R : Room} {s : State} {m : MethodId} {args : Array Value} {below : List Frame} {meth : Method} {c : Code} {H : Heap} {locs : List Loc} {cells slots : Nat} {Q : State → Prop}
variable {cc : ByteArray} {pc : Nat} {ls : Array Slot} {rest : List Value} {D : va_G} {cl : List vw_C} {A : Nat → Prop} {a : Nat} {tys : List (ClassId × FieldType)} {ws : va_W} {H0 : Heap}
theorem va_mna {X : va_W} {L : List Nat} {f : Nat → va_E} {cc : ByteArray} (hexec : p.tables.exec = Jvm.exec) (hb : c.code = cc) {own : String} {index : Nat} {ty : FieldType} {cy : ClassId} (hown : s.vm.findClass own = some m.cls) (hclink : (Cond.classLink own index ("[" ++ (FieldType.array ty).toString)).before args s = true) (hover : va_AOA ty s) (harr : (Cond.arrayClass ty).before args s = true) (hcy : s.vm.findClass (FieldType.array ty).toString = some cy)
    (hK : va_K D cl tys s) (hP : va_P D cl (X ++ va_pl L f) H) (hD : va_D A (X ++ va_pl L f)) (hS : va_S A H0 H locs) (hA : ∀ q, H0.size ≤ q → A q) {n k : Int32} {N' K' : Nat} {z : vp_A} (hn : ¬ n < 0) (hk : ¬ k < 0) (hN : n.toNatClampNeg = N') (hM : k.toNatClampNeg = K')
    (hb1 : N' * 4 ≤ 536870912) (hb2 : K' * componentBytes ty ≤ 536870912) (hb3 : K' ≤ 536870912) (hdf : fits ty (defaultValue ty) = true) (hdd : (defaultValue ty).isDefault = true) (hcells : cells + (1 + N') ≤ R.cells) (hslots : slots + (N' + N' * K') ≤ R.slots) (hz : ∀ c : ClassId, Jvm.Free.Multi.innerC c K' (defaultValue ty) = vp_cell c z) (hdg : decode cc pc = .ok (.multianewarray index 2, 4))
    (kk : ∀ (q : Nat) (r : Nat → Nat) (cA : ClassId) (H1 : Heap), (∀ i j : Nat, i < N' → j < N' → r i = r j → i = j) → (∀ i : Nat, i < N' → r i ∉ L) → va_K D cl (tys ++ [(cA, .array ty)]) s →
      va_P D cl ((X ++ [(q, .inl (cA, N', .inr (.inr (.inr (.inr (fun i => if i < N' then some (r i) else none))))))]) ++ va_pl (L ++ (List.range N').map r) (vr_up f ((List.range N').map r) (.inl (cy, z)))) H1 → va_D A ((X ++ [(q, .inl (cA, N', .inr (.inr (.inr (.inr (fun i => if i < N' then some (r i) else none))))))]) ++ va_pl (L ++ (List.range N').map r) (vr_up f ((List.range N').map r) (.inl (cy, z)))) → va_S A H0 H1 locs →
      W p l e R s m args below meth c H1 locs (cells + 1 + N') (slots + N' + N' * K') Q (F0 m (pc + 4) ls (.ref q :: rest))) : W p l e R s m args below meth c H locs cells slots Q (F0 m pc ls (.int k :: .int n :: rest)) := by
  subst hN
  subst hM
  intro T hT Xs
  obtain ⟨vm₁, cA, comp, -, fA, fC, hO, -, X', step⟩ := Xs.multianewarray2F hexec hown hclink (va_AOA.use hover) harr (g := F0 m pc ls (.int k :: .int n :: rest)) rfl (by rw [hb]; exact hdg) rfl hn hk hb1 hb2 hb3 hdf hdd hcells hslots
  have ec : some cy = some comp := hcy.symm.trans fC
  cases ec
  generalize hF : Jvm.Free.Multi.fill (T.setVm vm₁) cA cy n.toNatClampNeg k.toNatClampNeg (defaultValue ty) n.toNatClampNeg = F at X' step
  have hTh : (T.setVm vm₁).heap = H := hT
  obtain ⟨f1, f2, -, -⟩ := Jvm.Free.Multi.fill_facts (T.setVm vm₁) cA cy n.toNatClampNeg k.toNatClampNeg (defaultValue ty) n.toNatClampNeg
  rw [hF, hTh] at f1 f2
  have hold : ∀ x : Nat, x < H.size → F.heap[x]? = H[x]? := fun x hx => by
    have := Jvm.Free.Multi.fill_old (T.setVm vm₁) cA cy n.toNatClampNeg k.toNatClampNeg (defaultValue ty) (a := x) (by rw [hTh]; exact hx) n.toNatClampNeg
    rw [hF, hTh] at this
    exact this
  have hrow : ∀ j : Nat, j < n.toNatClampNeg → F.heap[H.size + 1 + j]? = some (vp_cell cy z) := fun j hj => by
    have := Jvm.Free.Multi.fill_inner (T.setVm vm₁) cA cy n.toNatClampNeg k.toNatClampNeg (defaultValue ty) n.toNatClampNeg j hj
    rw [hF, hTh, hz] at this
    exact this
  have hout : Jvm.Free.Multi.outerC cA n.toNatClampNeg H.size n.toNatClampNeg = vp_cell cA (n.toNatClampNeg, .inr (.inr (.inr (.inr (fun i => if i < n.toNatClampNeg then some (H.size + 1 + i) else none))))) := by
    rw [vp_cell_q]
    exact vr_outer cA n.toNatClampNeg H.size n.toNatClampNeg
  rw [hout] at f2
  have hlt : ∀ a, a ∈ L → a < H.size := fun a ha => by
    obtain ⟨k9, hk9⟩ := va_pl_get (X := X) (f := f) ha
    exact (hP k9 _ hk9).lt
  have hnl : ∀ i : Nat, i < n.toNatClampNeg → H.size + 1 + i ∉ L := fun i _ h => by
    have := hlt _ h
    omega
  have hnm : ∀ a, a ∈ (List.range n.toNatClampNeg).map (fun i => H.size + 1 + i) → a ∉ L := fun a ha h => by
    obtain ⟨i, -, rfl⟩ := List.mem_map.mp ha
    have := hlt _ h
    omega
  have hP0 : va_P D cl (X ++ va_pl L f) F.heap := hP.kept (fun k9 x hx => hold x.1 ((hP k9 x hx).lt))
  have hP1 : va_P D cl ((X ++ va_pl L f) ++ [(H.size, .inl (cA, n.toNatClampNeg, .inr (.inr (.inr (.inr (fun i => if i < n.toNatClampNeg then some (H.size + 1 + i) else none))))))]) F.heap := hP0.app (fun k9 x hx => by
    have h0 : k9 < 1 := (List.getElem?_eq_some_iff.mp hx).1
    rw [show k9 = 0 by omega] at hx
    cases hx
    exact f2)
  have hP2 : va_P D cl (((X ++ va_pl L f) ++ [(H.size, .inl (cA, n.toNatClampNeg, .inr (.inr (.inr (.inr (fun i => if i < n.toNatClampNeg then some (H.size + 1 + i) else none))))))]) ++ ((List.range n.toNatClampNeg).map (fun i => H.size + 1 + i)).map (fun a => (a, .inl (cy, z)))) F.heap := hP1.app (fun k9 x hx => by
    obtain ⟨a, ha, rfl⟩ := List.mem_map.mp (List.mem_of_getElem? hx)
    obtain ⟨i, hi, rfl⟩ := List.mem_map.mp ha
    exact hrow i (List.mem_range.mp hi))
  have hD2 : va_D A (((X ++ va_pl L f) ++ [(H.size, .inl (cA, n.toNatClampNeg, .inr (.inr (.inr (.inr (fun i => if i < n.toNatClampNeg then some (H.size + 1 + i) else none))))))]) ++ ((List.range n.toNatClampNeg).map (fun i => H.size + 1 + i)).map (fun a => (a, .inl (cy, z)))) := by
    have hD1 := hD.push (e := .inl (cA, n.toNatClampNeg, .inr (.inr (.inr (.inr (fun i => if i < n.toNatClampNeg then some (H.size + 1 + i) else none)))))) hP rfl (hA _ hS.1)
    generalize hW1 : (X ++ va_pl L f) ++ [(H.size, .inl (cA, n.toNatClampNeg, .inr (.inr (.inr (.inr (fun i => if i < n.toNatClampNeg then some (H.size + 1 + i) else none))))))] = W1 at hD1 hP1 ⊢
    have hle : ∀ (k9 : Nat) (x : Nat × va_E), W1[k9]? = some x → x.1 ≤ H.size := fun k9 x hx => by
      rw [← hW1] at hx
      by_cases hl : k9 < (X ++ va_pl L f).length
      · rw [List.getElem?_append_left hl] at hx
        exact Nat.le_of_lt ((hP k9 x hx).lt)
      · rw [List.getElem?_append_right (by omega)] at hx
        have h0 : k9 - (X ++ va_pl L f).length < 1 := (List.getElem?_eq_some_iff.mp hx).1
        rw [show k9 - (X ++ va_pl L f).length = 0 by omega] at hx
        cases hx
        exact Nat.le_refl _
    have hr : ∀ (k9 : Nat) (x : Nat × va_E), (((List.range n.toNatClampNeg).map (fun i => H.size + 1 + i)).map (fun a => ((a, .inl (cy, z)) : Nat × va_E)))[k9]? = some x → x.1 = H.size + 1 + k9 := fun k9 x hx => by
      rw [List.getElem?_map, List.getElem?_map] at hx
      by_cases h9 : k9 < n.toNatClampNeg
      · rw [List.getElem?_range h9] at hx
        cases hx
        rfl
      · have hn0 : (List.range n.toNatClampNeg)[k9]? = none := List.getElem?_eq_none (by rw [List.length_range]; omega)
        rw [hn0] at hx
        cases hx
    refine ⟨fun i j x y hi hj hxy => ?_, fun k9 x hx => ?_⟩
    · by_cases h1 : i < W1.length <;> by_cases h2 : j < W1.length
      · rw [List.getElem?_append_left h1] at hi
        rw [List.getElem?_append_left h2] at hj
        exact hD1.1 i j x y hi hj hxy
      · rw [List.getElem?_append_left h1] at hi
        rw [List.getElem?_append_right (by omega)] at hj
        have := hle _ _ hi
        have := hr _ _ hj
        omega
      · rw [List.getElem?_append_right (by omega)] at hi
        rw [List.getElem?_append_left h2] at hj
        have := hle _ _ hj
        have := hr _ _ hi
        omega
      · rw [List.getElem?_append_right (by omega)] at hi hj
        have := hr _ _ hi
        have := hr _ _ hj
        omega
    · by_cases h1 : k9 < W1.length
      · rw [List.getElem?_append_left h1] at hx
        exact hD1.2 k9 x hx
      · rw [List.getElem?_append_right (by omega)] at hx
        have := hr _ _ hx
        exact hA _ (by have := hS.1; omega)
  have hAr : ArrOfT s cA (.array ty) := fun N9 z9 => by
    obtain ⟨-, k9, hk9, cm9, hkk9⟩ := (hO 0 0 0).1
    exact ⟨(fun q hq => by cases hq), k9, hk9, cm9, hkk9⟩
  have hK2 : va_K D cl (tys ++ [(cA, .array ty)]) s := ⟨hK.1, fun k9 x hx => by
    by_cases hl : k9 < tys.length
    · rw [List.getElem?_append_left hl] at hx
      exact hK.2 k9 x hx
    · rw [List.getElem?_append_right (by omega)] at hx
      have h0 : k9 - tys.length < 1 := (List.getElem?_eq_some_iff.mp hx).1
      rw [show k9 - tys.length = 0 by omega] at hx
      cases hx
      exact ⟨hAr, fA⟩⟩
  obtain ⟨t, a1, b1⟩ := kk H.size (fun i => H.size + 1 + i) cA F.heap (fun i j _ _ h => by have h9 : H.size + 1 + i = H.size + 1 + j := h; omega) hnl hK2 (by rw [← vr_rows hnm]; exact vr_lay hP2) (by rw [← vr_rows hnm]; exact vr_layD hD2) ⟨by rw [f1]; have := hS.1; omega, fun x h1 h2 => (hold x (Nat.lt_of_lt_of_le h1 hS.1)).trans (hS.2.1 x h1 h2), hS.2.2⟩ F rfl X'
  refine ⟨t, step t ?_, b1⟩
  have e : T.heap.size = H.size := by rw [hT]
  rw [e]
  exact a1
end VGM
/-! ===== END ===== -/

/-! ===== BEGIN printed: names, fields, word lists, decode rows ===== -/
def RX0 : String := "BasketHouse"
def TX0 : u_T := fun k => match k with
  | 0 => ("BasketHouse", "today", "I", false)
  | 1 => ("BasketHouse", "settings", "[I", true)
  | 2 => ("BasketHouse", "things", "I", false)
  | 3 => ("BasketHouse", "stocked", "I", false)
  | 4 => ("BasketHouse", "cameOn", "[I", true)
  | 5 => ("BasketHouse", "sortSets", "[I", true)
  | 6 => ("BasketHouse", "foes", "[I", true)
  | 7 => ("BasketHouse", "baskets", "I", false)
  | 8 => ("BasketHouse", "owners", "[I", true)
  | 9 => ("BasketHouse", "boughtOn", "[I", true)
  | 10 => ("BasketHouse", "contents", "[I", true)
  | 11 => ("BasketHouse", "showings", "[I", true)
  | 12 => ("BasketHouse", "timesShown", "[[I", true)
  | 13 => ("BasketHouse", "tiredUntil", "[[I", true)
  | _ => ("BasketHouse", "points", "[I", true)
def tyX0 : Nat → FieldType := fun k => match k with
  | 0 => .int
  | 1 => .array .int
  | 2 => .int
  | 3 => .int
  | 4 => .array .int
  | 5 => .array .int
  | 6 => .array .int
  | 7 => .int
  | 8 => .array .int
  | 9 => .array .int
  | 10 => .array .int
  | 11 => .array .int
  | 12 => .array (.array .int)
  | 13 => .array (.array .int)
  | _ => .array .int
abbrev wsX00 : List Cond := u_ws RX0 TX0 15
theorem nmX0 : ∀ a, a < 15 → ∀ b, b < 15 → a ≠ b → (TX0 a).2.1 ≠ (TX0 b).2.1 := by decide +kernel
theorem tyX0_ok : ∀ k, k < 15 → parseFieldDescriptor (TX0 k).2.2.1 = some (tyX0 k) := by decide +kernel
abbrev cX0_init : ByteArray := prog_1_method_1_code
def yX0_init : MethodName := ⟨RX0, "<init>", "()V"⟩
abbrev cX0_thing : ByteArray := prog_1_method_2_code
def yX0_thing : MethodName := ⟨RX0, "thing", "(I)I"⟩
abbrev cX0_stock : ByteArray := prog_1_method_3_code
def yX0_stock : MethodName := ⟨RX0, "stock", "(IZ)Z"⟩
abbrev cX0_set : ByteArray := prog_1_method_4_code
def yX0_set : MethodName := ⟨RX0, "set", "(II)Z"⟩
abbrev cX0_apart : ByteArray := prog_1_method_5_code
def yX0_apart : MethodName := ⟨RX0, "apart", "(IIZ)Z"⟩
abbrev cX0_basket : ByteArray := prog_1_method_6_code
def yX0_basket : MethodName := ⟨RX0, "basket", "(II)I"⟩
abbrev cX0_drop : ByteArray := prog_1_method_7_code
def yX0_drop : MethodName := ⟨RX0, "drop", "(I)Z"⟩
abbrev cX0_forget : ByteArray := prog_1_method_8_code
def yX0_forget : MethodName := ⟨RX0, "forget", "(I)I"⟩
abbrev cX0_day : ByteArray := prog_1_method_9_code
def yX0_day : MethodName := ⟨RX0, "day", "()I"⟩
abbrev cX0_look : ByteArray := prog_1_method_10_code
def yX0_look : MethodName := ⟨RX0, "look", "(I)I"⟩
abbrev cX0_of : ByteArray := prog_1_method_11_code
def yX0_of : MethodName := ⟨RX0, "of", "(II)I"⟩
abbrev cX0_count : ByteArray := prog_1_method_12_code
def yX0_count : MethodName := ⟨RX0, "count", "(III)I"⟩
abbrev cX0_kin : ByteArray := prog_1_method_13_code
def yX0_kin : MethodName := ⟨RX0, "kin", "(II)I"⟩
abbrev cX0_near : ByteArray := prog_1_method_14_code
def yX0_near : MethodName := ⟨RX0, "near", "(II)I"⟩
abbrev cX0_taken : ByteArray := prog_1_method_15_code
def yX0_taken : MethodName := ⟨RX0, "taken", "(I)I"⟩
abbrev cX0_score : ByteArray := prog_1_method_16_code
def yX0_score : MethodName := ⟨RX0, "score", "(II)I"⟩
abbrev cX0_may : ByteArray := prog_1_method_17_code
def yX0_may : MethodName := ⟨RX0, "may", "(I)I"⟩
abbrev cX0_list : ByteArray := prog_1_method_18_code
def yX0_list : MethodName := ⟨RX0, "list", "(III)I"⟩
abbrev cX0_show : ByteArray := prog_1_method_19_code
def yX0_show : MethodName := ⟨RX0, "show", "(II)I"⟩
abbrev cX0_shown : ByteArray := prog_1_method_20_code
def yX0_shown : MethodName := ⟨RX0, "shown", "(III)I"⟩
abbrev cX0_why : ByteArray := prog_1_method_21_code
def yX0_why : MethodName := ⟨RX0, "why", "(III)I"⟩
abbrev cX0_isThing : ByteArray := prog_1_method_22_code
def yX0_isThing : MethodName := ⟨RX0, "isThing", "(I)Z"⟩
abbrev cX0_areTwoThings : ByteArray := prog_1_method_23_code
def yX0_areTwoThings : MethodName := ⟨RX0, "areTwoThings", "(II)Z"⟩
abbrev cX0_isSetOfThings : ByteArray := prog_1_method_24_code
def yX0_isSetOfThings : MethodName := ⟨RX0, "isSetOfThings", "(I)Z"⟩
abbrev cX0_isBasket : ByteArray := prog_1_method_25_code
def yX0_isBasket : MethodName := ⟨RX0, "isBasket", "(I)Z"⟩
abbrev cX0_canList : ByteArray := prog_1_method_26_code
def yX0_canList : MethodName := ⟨RX0, "canList", "(II)Z"⟩
abbrev cX0_isPerson : ByteArray := prog_1_method_27_code
def yX0_isPerson : MethodName := ⟨RX0, "isPerson", "(I)Z"⟩
abbrev cX0_has : ByteArray := prog_1_method_28_code
def yX0_has : MethodName := ⟨RX0, "has", "(II)Z"⟩
abbrev cX0_allThings : ByteArray := prog_1_method_29_code
def yX0_allThings : MethodName := ⟨RX0, "allThings", "()I"⟩
abbrev cX0_newThings : ByteArray := prog_1_method_30_code
def yX0_newThings : MethodName := ⟨RX0, "newThings", "()I"⟩
abbrev cX0_removeBasket : ByteArray := prog_1_method_31_code
def yX0_removeBasket : MethodName := ⟨RX0, "removeBasket", "(I)V"⟩
abbrev cX0_removeOldBaskets : ByteArray := prog_1_method_32_code
def yX0_removeOldBaskets : MethodName := ⟨RX0, "removeOldBaskets", "()V"⟩
abbrev cX0_basketsWith : ByteArray := prog_1_method_33_code
def yX0_basketsWith : MethodName := ⟨RX0, "basketsWith", "(II)I"⟩
abbrev cX0_peopleWith : ByteArray := prog_1_method_34_code
def yX0_peopleWith : MethodName := ⟨RX0, "peopleWith", "(II)I"⟩
abbrev cX0_kinOf : ByteArray := prog_1_method_35_code
def yX0_kinOf : MethodName := ⟨RX0, "kinOf", "(II)I"⟩
abbrev cX0_takenBy : ByteArray := prog_1_method_36_code
def yX0_takenBy : MethodName := ⟨RX0, "takenBy", "(I)I"⟩
abbrev cX0_scoreOf : ByteArray := prog_1_method_37_code
def yX0_scoreOf : MethodName := ⟨RX0, "scoreOf", "(II)I"⟩
abbrev cX0_writeKin : ByteArray := prog_1_method_38_code
def yX0_writeKin : MethodName := ⟨RX0, "writeKin", "(II)V"⟩
abbrev cX0_writeScores : ByteArray := prog_1_method_39_code
def yX0_writeScores : MethodName := ⟨RX0, "writeScores", "(II)V"⟩
abbrev cX0_bestByPoints : ByteArray := prog_1_method_40_code
def yX0_bestByPoints : MethodName := ⟨RX0, "bestByPoints", "(I)I"⟩
abbrev cX0_sumOfPoints : ByteArray := prog_1_method_41_code
def yX0_sumOfPoints : MethodName := ⟨RX0, "sumOfPoints", "(I)I"⟩
abbrev cX0_mayPutUp : ByteArray := prog_1_method_42_code
def yX0_mayPutUp : MethodName := ⟨RX0, "mayPutUp", "(I)I"⟩
abbrev cX0_isTurnOfNew : ByteArray := prog_1_method_43_code
def yX0_isTurnOfNew : MethodName := ⟨RX0, "isTurnOfNew", "(I)Z"⟩
abbrev cX0_keepsRules : ByteArray := prog_1_method_44_code
def yX0_keepsRules : MethodName := ⟨RX0, "keepsRules", "(I)Z"⟩
abbrev cX0_bestList : ByteArray := prog_1_method_45_code
def yX0_bestList : MethodName := ⟨RX0, "bestList", "(II)I"⟩
abbrev cX0_daysTired : ByteArray := prog_1_method_46_code
def yX0_daysTired : MethodName := ⟨RX0, "daysTired", "(II)I"⟩
abbrev cX0_showOnce : ByteArray := prog_1_method_47_code
def yX0_showOnce : MethodName := ⟨RX0, "showOnce", "(II)V"⟩
abbrev cX0_clearShown : ByteArray := prog_1_method_48_code
def yX0_clearShown : MethodName := ⟨RX0, "clearShown", "(II)V"⟩
def RX1 : String := "BasketHouseModel"
def TX1 : u_T := fun k => match k with
  | 0 => ("BasketHouseModel", "things", "I", false)
  | 1 => ("BasketHouseModel", "day", "I", false)
  | 2 => ("BasketHouseModel", "baskets", "I", false)
  | 3 => ("BasketHouseModel", "group", "I", false)
  | 4 => ("BasketHouseModel", "spread", "I", false)
  | 5 => ("BasketHouseModel", "share", "I", false)
  | 6 => ("BasketHouseModel", "limit", "I", false)
  | 7 => ("BasketHouseModel", "inStock", "I", false)
  | 8 => ("BasketHouseModel", "sort", "[I", true)
  | 9 => ("BasketHouseModel", "came", "[I", true)
  | 10 => ("BasketHouseModel", "rule", "[I", true)
  | 11 => ("BasketHouseModel", "person", "[I", true)
  | 12 => ("BasketHouseModel", "dayOf", "[I", true)
  | 13 => ("BasketHouseModel", "setOf", "[I", true)
  | 14 => ("BasketHouseModel", "showings", "[I", true)
  | 15 => ("BasketHouseModel", "shown", "[I", true)
  | 16 => ("BasketHouseModel", "tiredTo", "[I", true)
  | 17 => ("BasketHouseModel", "worth", "[I", true)
  | 18 => ("BasketHouseModel", "best", "I", false)
  | _ => ("BasketHouseModel", "bestSum", "I", false)
def tyX1 : Nat → FieldType := fun k => match k with
  | 0 => .int
  | 1 => .int
  | 2 => .int
  | 3 => .int
  | 4 => .int
  | 5 => .int
  | 6 => .int
  | 7 => .int
  | 8 => .array .int
  | 9 => .array .int
  | 10 => .array .int
  | 11 => .array .int
  | 12 => .array .int
  | 13 => .array .int
  | 14 => .array .int
  | 15 => .array .int
  | 16 => .array .int
  | 17 => .array .int
  | 18 => .int
  | _ => .int
abbrev wsX10 : List Cond := u_ws RX1 TX1 20
theorem nmX1 : ∀ a, a < 20 → ∀ b, b < 20 → a ≠ b → (TX1 a).2.1 ≠ (TX1 b).2.1 := by decide +kernel
theorem tyX1_ok : ∀ k, k < 20 → parseFieldDescriptor (TX1 k).2.2.1 = some (tyX1 k) := by decide +kernel
abbrev cX1_init : ByteArray := prog_3_method_1_code
def yX1_init : MethodName := ⟨RX1, "<init>", "()V"⟩
abbrev cX1_isIn : ByteArray := prog_3_method_2_code
def yX1_isIn : MethodName := ⟨RX1, "isIn", "(III)Z"⟩
abbrev cX1_isThing : ByteArray := prog_3_method_3_code
def yX1_isThing : MethodName := ⟨RX1, "isThing", "(I)Z"⟩
abbrev cX1_isPerson : ByteArray := prog_3_method_4_code
def yX1_isPerson : MethodName := ⟨RX1, "isPerson", "(I)Z"⟩
abbrev cX1_thing : ByteArray := prog_3_method_5_code
def yX1_thing : MethodName := ⟨RX1, "thing", "(I)I"⟩
abbrev cX1_stock : ByteArray := prog_3_method_6_code
def yX1_stock : MethodName := ⟨RX1, "stock", "(IZ)Z"⟩
abbrev cX1_set : ByteArray := prog_3_method_7_code
def yX1_set : MethodName := ⟨RX1, "set", "(II)Z"⟩
abbrev cX1_apart : ByteArray := prog_3_method_8_code
def yX1_apart : MethodName := ⟨RX1, "apart", "(IIZ)Z"⟩
abbrev cX1_basket : ByteArray := prog_3_method_9_code
def yX1_basket : MethodName := ⟨RX1, "basket", "(II)I"⟩
abbrev cX1_goes : ByteArray := prog_3_method_10_code
def yX1_goes : MethodName := ⟨RX1, "goes", "(I)V"⟩
abbrev cX1_drop : ByteArray := prog_3_method_11_code
def yX1_drop : MethodName := ⟨RX1, "drop", "(I)Z"⟩
abbrev cX1_forget : ByteArray := prog_3_method_12_code
def yX1_forget : MethodName := ⟨RX1, "forget", "(I)I"⟩
abbrev cX1_day : ByteArray := prog_3_method_13_code
def yX1_day : MethodName := ⟨RX1, "day", "()I"⟩
abbrev cX1_news : ByteArray := prog_3_method_14_code
def yX1_news : MethodName := ⟨RX1, "news", "()I"⟩
abbrev cX1_look : ByteArray := prog_3_method_15_code
def yX1_look : MethodName := ⟨RX1, "look", "(I)I"⟩
abbrev cX1_of : ByteArray := prog_3_method_16_code
def yX1_of : MethodName := ⟨RX1, "of", "(II)I"⟩
abbrev cX1_both : ByteArray := prog_3_method_17_code
def yX1_both : MethodName := ⟨RX1, "both", "(II)I"⟩
abbrev cX1_people : ByteArray := prog_3_method_18_code
def yX1_people : MethodName := ⟨RX1, "people", "(II)I"⟩
abbrev cX1_count : ByteArray := prog_3_method_19_code
def yX1_count : MethodName := ⟨RX1, "count", "(III)I"⟩
abbrev cX1_kinOf : ByteArray := prog_3_method_20_code
def yX1_kinOf : MethodName := ⟨RX1, "kinOf", "(II)I"⟩
abbrev cX1_kin : ByteArray := prog_3_method_21_code
def yX1_kin : MethodName := ⟨RX1, "kin", "(II)I"⟩
abbrev cX1_near : ByteArray := prog_3_method_22_code
def yX1_near : MethodName := ⟨RX1, "near", "(II)I"⟩
abbrev cX1_takenBy : ByteArray := prog_3_method_23_code
def yX1_takenBy : MethodName := ⟨RX1, "takenBy", "(I)I"⟩
abbrev cX1_taken : ByteArray := prog_3_method_24_code
def yX1_taken : MethodName := ⟨RX1, "taken", "(I)I"⟩
abbrev cX1_scoreOf : ByteArray := prog_3_method_25_code
def yX1_scoreOf : MethodName := ⟨RX1, "scoreOf", "(II)I"⟩
abbrev cX1_score : ByteArray := prog_3_method_26_code
def yX1_score : MethodName := ⟨RX1, "score", "(II)I"⟩
abbrev cX1_mayFor : ByteArray := prog_3_method_27_code
def yX1_mayFor : MethodName := ⟨RX1, "mayFor", "(I)I"⟩
abbrev cX1_may : ByteArray := prog_3_method_28_code
def yX1_may : MethodName := ⟨RX1, "may", "(I)I"⟩
abbrev cX1_bits : ByteArray := prog_3_method_29_code
def yX1_bits : MethodName := ⟨RX1, "bits", "(I)I"⟩
abbrev cX1_keeps : ByteArray := prog_3_method_30_code
def yX1_keeps : MethodName := ⟨RX1, "keeps", "(I)Z"⟩
abbrev cX1_lists : ByteArray := prog_3_method_31_code
def yX1_lists : MethodName := ⟨RX1, "lists", "(II)Z"⟩
abbrev cX1_list : ByteArray := prog_3_method_32_code
def yX1_list : MethodName := ⟨RX1, "list", "(III)I"⟩
abbrev cX1_show : ByteArray := prog_3_method_33_code
def yX1_show : MethodName := ⟨RX1, "show", "(II)I"⟩
abbrev cX1_shown : ByteArray := prog_3_method_34_code
def yX1_shown : MethodName := ⟨RX1, "shown", "(III)I"⟩
abbrev cX1_why : ByteArray := prog_3_method_35_code
def yX1_why : MethodName := ⟨RX1, "why", "(III)I"⟩
def RJx8e188 : String := "java/lang/Cloneable"
def TJx8e188 : u_T := fun k => match k with
  | _ => ("", "", "", false)
def tyJx8e188 : Nat → FieldType := fun k => match k with
  | _ => .int
abbrev wsJx8e1880 : List Cond := u_ws RJx8e188 TJx8e188 0
theorem nmJx8e188 : ∀ a, a < 0 → ∀ b, b < 0 → a ≠ b → (TJx8e188 a).2.1 ≠ (TJx8e188 b).2.1 := by decide +kernel
theorem tyJx8e188_ok : ∀ k, k < 0 → parseFieldDescriptor (TJx8e188 k).2.2.1 = some (tyJx8e188 k) := by decide +kernel
def RJ6 : String := "java/lang/Integer"
def TJ6 : u_T := fun k => match k with
  | _ => ("", "", "", false)
def tyJ6 : Nat → FieldType := fun k => match k with
  | _ => .int
abbrev wsJ60 : List Cond := u_ws RJ6 TJ6 0
theorem nmJ6 : ∀ a, a < 0 → ∀ b, b < 0 → a ≠ b → (TJ6 a).2.1 ≠ (TJ6 b).2.1 := by decide +kernel
theorem tyJ6_ok : ∀ k, k < 0 → parseFieldDescriptor (TJ6 k).2.2.1 = some (tyJ6 k) := by decide +kernel
abbrev cJ6_bitCount_0f7a4 : ByteArray := prog_5_method_49_code
def yJ6_bitCount_0f7a4 : MethodName := ⟨RJ6, "bitCount", "(I)I"⟩
def RJ9 : String := "java/lang/Math"
def TJ9 : u_T := fun k => match k with
  | _ => ("", "", "", false)
def tyJ9 : Nat → FieldType := fun k => match k with
  | _ => .int
abbrev wsJ90 : List Cond := u_ws RJ9 TJ9 0
theorem nmJ9 : ∀ a, a < 0 → ∀ b, b < 0 → a ≠ b → (TJ9 a).2.1 ≠ (TJ9 b).2.1 := by decide +kernel
theorem tyJ9_ok : ∀ k, k < 0 → parseFieldDescriptor (TJ9 k).2.2.1 = some (tyJ9 k) := by decide +kernel
abbrev cJ9_max_7cf53 : ByteArray := prog_6_method_65_code
def yJ9_max_7cf53 : MethodName := ⟨RJ9, "max", "(II)I"⟩
def RL : String := "BasketHouseLaw"
abbrev cL_law : ByteArray := code
def yL_law : MethodName := ⟨RL, "law", "([I)Z"⟩
end
section
theorem dX0_init_0 : decode cX0_init 0 = .ok (.aload_n 0, 1) := by decide +kernel
theorem dX0_init_1 : decode cX0_init 1 = .ok (.invokespecial 3, 3) := by decide +kernel
theorem dX0_init_4 : decode cX0_init 4 = .ok (.aload_n 0, 1) := by decide +kernel
theorem dX0_init_5 : decode cX0_init 5 = .ok (.getstatic 9, 3) := by decide +kernel
theorem dX0_init_8 : decode cX0_init 8 = .ok (.invokevirtual 13, 3) := by decide +kernel
theorem dX0_init_11 : decode cX0_init 11 = .ok (.checkcast 14, 3) := by decide +kernel
theorem dX0_init_14 : decode cX0_init 14 = .ok (.putfield 18, 3) := by decide +kernel
theorem dX0_init_17 : decode cX0_init 17 = .ok (.aload_n 0, 1) := by decide +kernel
theorem dX0_init_18 : decode cX0_init 18 = .ok (.bipush 12, 2) := by decide +kernel
theorem dX0_init_20 : decode cX0_init 20 = .ok (.newarray .int, 2) := by decide +kernel
theorem dX0_init_22 : decode cX0_init 22 = .ok (.putfield 21, 3) := by decide +kernel
theorem dX0_init_25 : decode cX0_init 25 = .ok (.aload_n 0, 1) := by decide +kernel
theorem dX0_init_26 : decode cX0_init 26 = .ok (.iconst 4, 1) := by decide +kernel
theorem dX0_init_27 : decode cX0_init 27 = .ok (.newarray .int, 2) := by decide +kernel
theorem dX0_init_29 : decode cX0_init 29 = .ok (.putfield 24, 3) := by decide +kernel
theorem dX0_init_32 : decode cX0_init 32 = .ok (.aload_n 0, 1) := by decide +kernel
theorem dX0_init_33 : decode cX0_init 33 = .ok (.bipush 12, 2) := by decide +kernel
theorem dX0_init_35 : decode cX0_init 35 = .ok (.newarray .int, 2) := by decide +kernel
theorem dX0_init_37 : decode cX0_init 37 = .ok (.putfield 27, 3) := by decide +kernel
theorem dX0_init_40 : decode cX0_init 40 = .ok (.aload_n 0, 1) := by decide +kernel
theorem dX0_init_41 : decode cX0_init 41 = .ok (.bipush 60, 2) := by decide +kernel
theorem dX0_init_43 : decode cX0_init 43 = .ok (.newarray .int, 2) := by decide +kernel
theorem dX0_init_45 : decode cX0_init 45 = .ok (.putfield 30, 3) := by decide +kernel
theorem dX0_init_48 : decode cX0_init 48 = .ok (.aload_n 0, 1) := by decide +kernel
theorem dX0_init_49 : decode cX0_init 49 = .ok (.bipush 60, 2) := by decide +kernel
theorem dX0_init_51 : decode cX0_init 51 = .ok (.newarray .int, 2) := by decide +kernel
theorem dX0_init_53 : decode cX0_init 53 = .ok (.putfield 33, 3) := by decide +kernel
theorem dX0_init_56 : decode cX0_init 56 = .ok (.aload_n 0, 1) := by decide +kernel
theorem dX0_init_57 : decode cX0_init 57 = .ok (.bipush 60, 2) := by decide +kernel
theorem dX0_init_59 : decode cX0_init 59 = .ok (.newarray .int, 2) := by decide +kernel
theorem dX0_init_61 : decode cX0_init 61 = .ok (.putfield 36, 3) := by decide +kernel
theorem dX0_init_64 : decode cX0_init 64 = .ok (.aload_n 0, 1) := by decide +kernel
theorem dX0_init_65 : decode cX0_init 65 = .ok (.bipush 8, 2) := by decide +kernel
theorem dX0_init_67 : decode cX0_init 67 = .ok (.newarray .int, 2) := by decide +kernel
theorem dX0_init_69 : decode cX0_init 69 = .ok (.putfield 39, 3) := by decide +kernel
theorem dX0_init_72 : decode cX0_init 72 = .ok (.aload_n 0, 1) := by decide +kernel
theorem dX0_init_73 : decode cX0_init 73 = .ok (.bipush 8, 2) := by decide +kernel
theorem dX0_init_75 : decode cX0_init 75 = .ok (.bipush 12, 2) := by decide +kernel
theorem dX0_init_77 : decode cX0_init 77 = .ok (.multianewarray 42 2, 4) := by decide +kernel
theorem dX0_init_81 : decode cX0_init 81 = .ok (.putfield 44, 3) := by decide +kernel
theorem dX0_init_84 : decode cX0_init 84 = .ok (.aload_n 0, 1) := by decide +kernel
theorem dX0_init_85 : decode cX0_init 85 = .ok (.bipush 8, 2) := by decide +kernel
theorem dX0_init_87 : decode cX0_init 87 = .ok (.bipush 12, 2) := by decide +kernel
theorem dX0_init_89 : decode cX0_init 89 = .ok (.multianewarray 42 2, 4) := by decide +kernel
theorem dX0_init_93 : decode cX0_init 93 = .ok (.putfield 47, 3) := by decide +kernel
theorem dX0_init_96 : decode cX0_init 96 = .ok (.aload_n 0, 1) := by decide +kernel
theorem dX0_init_97 : decode cX0_init 97 = .ok (.bipush 12, 2) := by decide +kernel
theorem dX0_init_99 : decode cX0_init 99 = .ok (.newarray .int, 2) := by decide +kernel
theorem dX0_init_101 : decode cX0_init 101 = .ok (.putfield 50, 3) := by decide +kernel
theorem dX0_init_104 : decode cX0_init 104 = .ok (.return_, 1) := by decide +kernel
theorem dX0_thing_0 : decode cX0_thing 0 = .ok (.iload_n 1, 1) := by decide +kernel
theorem dX0_thing_1 : decode cX0_thing 1 = .ok (.ifCond .lt 17, 3) := by decide +kernel
theorem dX0_thing_4 : decode cX0_thing 4 = .ok (.iload_n 1, 1) := by decide +kernel
theorem dX0_thing_5 : decode cX0_thing 5 = .ok (.iconst 4, 1) := by decide +kernel
theorem dX0_thing_6 : decode cX0_thing 6 = .ok (.if_icmp .ge 12, 3) := by decide +kernel
theorem dX0_thing_9 : decode cX0_thing 9 = .ok (.aload_n 0, 1) := by decide +kernel
theorem dX0_thing_10 : decode cX0_thing 10 = .ok (.getfield 53, 3) := by decide +kernel
theorem dX0_thing_13 : decode cX0_thing 13 = .ok (.bipush 12, 2) := by decide +kernel
theorem dX0_thing_15 : decode cX0_thing 15 = .ok (.if_icmp .lt 5, 3) := by decide +kernel
theorem dX0_thing_18 : decode cX0_thing 18 = .ok (.iconst (-1), 1) := by decide +kernel
theorem dX0_thing_19 : decode cX0_thing 19 = .ok (.ireturn, 1) := by decide +kernel
theorem dX0_thing_20 : decode cX0_thing 20 = .ok (.aload_n 0, 1) := by decide +kernel
theorem dX0_thing_21 : decode cX0_thing 21 = .ok (.getfield 53, 3) := by decide +kernel
theorem dX0_thing_24 : decode cX0_thing 24 = .ok (.istore_n 2, 1) := by decide +kernel
theorem dX0_thing_25 : decode cX0_thing 25 = .ok (.aload_n 0, 1) := by decide +kernel
theorem dX0_thing_26 : decode cX0_thing 26 = .ok (.dup, 1) := by decide +kernel
theorem dX0_thing_27 : decode cX0_thing 27 = .ok (.getfield 53, 3) := by decide +kernel
theorem dX0_thing_30 : decode cX0_thing 30 = .ok (.iconst 1, 1) := by decide +kernel
theorem dX0_thing_31 : decode cX0_thing 31 = .ok (.iadd, 1) := by decide +kernel
theorem dX0_thing_32 : decode cX0_thing 32 = .ok (.putfield 53, 3) := by decide +kernel
theorem dX0_thing_35 : decode cX0_thing 35 = .ok (.aload_n 0, 1) := by decide +kernel
theorem dX0_thing_36 : decode cX0_thing 36 = .ok (.getfield 21, 3) := by decide +kernel
theorem dX0_thing_39 : decode cX0_thing 39 = .ok (.iload_n 2, 1) := by decide +kernel
theorem dX0_thing_40 : decode cX0_thing 40 = .ok (.aload_n 0, 1) := by decide +kernel
theorem dX0_thing_41 : decode cX0_thing 41 = .ok (.getfield 57, 3) := by decide +kernel
theorem dX0_thing_44 : decode cX0_thing 44 = .ok (.iastore, 1) := by decide +kernel
theorem dX0_thing_45 : decode cX0_thing 45 = .ok (.aload_n 0, 1) := by decide +kernel
theorem dX0_thing_46 : decode cX0_thing 46 = .ok (.getfield 24, 3) := by decide +kernel
theorem dX0_thing_49 : decode cX0_thing 49 = .ok (.iload_n 1, 1) := by decide +kernel
theorem dX0_thing_50 : decode cX0_thing 50 = .ok (.dup2, 1) := by decide +kernel
theorem dX0_thing_51 : decode cX0_thing 51 = .ok (.iaload, 1) := by decide +kernel
theorem dX0_thing_52 : decode cX0_thing 52 = .ok (.iconst 1, 1) := by decide +kernel
theorem dX0_thing_53 : decode cX0_thing 53 = .ok (.iload_n 2, 1) := by decide +kernel
theorem dX0_thing_54 : decode cX0_thing 54 = .ok (.ishl, 1) := by decide +kernel
theorem dX0_thing_55 : decode cX0_thing 55 = .ok (.ior, 1) := by decide +kernel
theorem dX0_thing_56 : decode cX0_thing 56 = .ok (.iastore, 1) := by decide +kernel
theorem dX0_thing_57 : decode cX0_thing 57 = .ok (.aload_n 0, 1) := by decide +kernel
theorem dX0_thing_58 : decode cX0_thing 58 = .ok (.dup, 1) := by decide +kernel
theorem dX0_thing_59 : decode cX0_thing 59 = .ok (.getfield 60, 3) := by decide +kernel
theorem dX0_thing_62 : decode cX0_thing 62 = .ok (.iconst 1, 1) := by decide +kernel
theorem dX0_thing_63 : decode cX0_thing 63 = .ok (.iload_n 2, 1) := by decide +kernel
theorem dX0_thing_64 : decode cX0_thing 64 = .ok (.ishl, 1) := by decide +kernel
theorem dX0_thing_65 : decode cX0_thing 65 = .ok (.ior, 1) := by decide +kernel
theorem dX0_thing_66 : decode cX0_thing 66 = .ok (.putfield 60, 3) := by decide +kernel
theorem dX0_thing_69 : decode cX0_thing 69 = .ok (.iload_n 2, 1) := by decide +kernel
theorem dX0_thing_70 : decode cX0_thing 70 = .ok (.ireturn, 1) := by decide +kernel
theorem dX0_stock_0 : decode cX0_stock 0 = .ok (.aload_n 0, 1) := by decide +kernel
theorem dX0_stock_1 : decode cX0_stock 1 = .ok (.iload_n 1, 1) := by decide +kernel
theorem dX0_stock_2 : decode cX0_stock 2 = .ok (.invokevirtual 63, 3) := by decide +kernel
theorem dX0_stock_5 : decode cX0_stock 5 = .ok (.ifCond .eq 15, 3) := by decide +kernel
theorem dX0_stock_8 : decode cX0_stock 8 = .ok (.aload_n 0, 1) := by decide +kernel
theorem dX0_stock_9 : decode cX0_stock 9 = .ok (.getfield 60, 3) := by decide +kernel
theorem dX0_stock_12 : decode cX0_stock 12 = .ok (.iload_n 1, 1) := by decide +kernel
theorem dX0_stock_13 : decode cX0_stock 13 = .ok (.invokestatic 67, 3) := by decide +kernel
theorem dX0_stock_16 : decode cX0_stock 16 = .ok (.iload_n 2, 1) := by decide +kernel
theorem dX0_stock_17 : decode cX0_stock 17 = .ok (.if_icmp .ne 5, 3) := by decide +kernel
theorem dX0_stock_20 : decode cX0_stock 20 = .ok (.iconst 0, 1) := by decide +kernel
theorem dX0_stock_21 : decode cX0_stock 21 = .ok (.ireturn, 1) := by decide +kernel
theorem dX0_stock_22 : decode cX0_stock 22 = .ok (.aload_n 0, 1) := by decide +kernel
theorem dX0_stock_23 : decode cX0_stock 23 = .ok (.dup, 1) := by decide +kernel
theorem dX0_stock_24 : decode cX0_stock 24 = .ok (.getfield 60, 3) := by decide +kernel
theorem dX0_stock_27 : decode cX0_stock 27 = .ok (.iconst 1, 1) := by decide +kernel
theorem dX0_stock_28 : decode cX0_stock 28 = .ok (.iload_n 1, 1) := by decide +kernel
theorem dX0_stock_29 : decode cX0_stock 29 = .ok (.ishl, 1) := by decide +kernel
theorem dX0_stock_30 : decode cX0_stock 30 = .ok (.ixor, 1) := by decide +kernel
theorem dX0_stock_31 : decode cX0_stock 31 = .ok (.putfield 60, 3) := by decide +kernel
theorem dX0_stock_34 : decode cX0_stock 34 = .ok (.iconst 1, 1) := by decide +kernel
theorem dX0_stock_35 : decode cX0_stock 35 = .ok (.ireturn, 1) := by decide +kernel
theorem dX0_set_0 : decode cX0_set 0 = .ok (.iload_n 1, 1) := by decide +kernel
theorem dX0_set_1 : decode cX0_set 1 = .ok (.ifCond .lt 22, 3) := by decide +kernel
theorem dX0_set_4 : decode cX0_set 4 = .ok (.iload_n 1, 1) := by decide +kernel
theorem dX0_set_5 : decode cX0_set 5 = .ok (.iconst 4, 1) := by decide +kernel
theorem dX0_set_6 : decode cX0_set 6 = .ok (.if_icmp .ge 17, 3) := by decide +kernel
theorem dX0_set_9 : decode cX0_set 9 = .ok (.iload_n 2, 1) := by decide +kernel
theorem dX0_set_10 : decode cX0_set 10 = .ok (.iconst 1, 1) := by decide +kernel
theorem dX0_set_11 : decode cX0_set 11 = .ok (.if_icmp .lt 12, 3) := by decide +kernel
theorem dX0_set_14 : decode cX0_set 14 = .ok (.iload_n 2, 1) := by decide +kernel
theorem dX0_set_15 : decode cX0_set 15 = .ok (.getstatic 71, 3) := by decide +kernel
theorem dX0_set_18 : decode cX0_set 18 = .ok (.iload_n 1, 1) := by decide +kernel
theorem dX0_set_19 : decode cX0_set 19 = .ok (.iaload, 1) := by decide +kernel
theorem dX0_set_20 : decode cX0_set 20 = .ok (.if_icmp .le 5, 3) := by decide +kernel
theorem dX0_set_23 : decode cX0_set 23 = .ok (.iconst 0, 1) := by decide +kernel
theorem dX0_set_24 : decode cX0_set 24 = .ok (.ireturn, 1) := by decide +kernel
theorem dX0_set_25 : decode cX0_set 25 = .ok (.aload_n 0, 1) := by decide +kernel
theorem dX0_set_26 : decode cX0_set 26 = .ok (.getfield 18, 3) := by decide +kernel
theorem dX0_set_29 : decode cX0_set 29 = .ok (.iload_n 1, 1) := by decide +kernel
theorem dX0_set_30 : decode cX0_set 30 = .ok (.iload_n 2, 1) := by decide +kernel
theorem dX0_set_31 : decode cX0_set 31 = .ok (.iastore, 1) := by decide +kernel
theorem dX0_set_32 : decode cX0_set 32 = .ok (.iconst 1, 1) := by decide +kernel
theorem dX0_set_33 : decode cX0_set 33 = .ok (.ireturn, 1) := by decide +kernel
theorem dX0_apart_0 : decode cX0_apart 0 = .ok (.aload_n 0, 1) := by decide +kernel
theorem dX0_apart_1 : decode cX0_apart 1 = .ok (.iload_n 1, 1) := by decide +kernel
theorem dX0_apart_2 : decode cX0_apart 2 = .ok (.iload_n 2, 1) := by decide +kernel
theorem dX0_apart_3 : decode cX0_apart 3 = .ok (.invokevirtual 74, 3) := by decide +kernel
theorem dX0_apart_6 : decode cX0_apart 6 = .ok (.ifCond .eq 17, 3) := by decide +kernel
theorem dX0_apart_9 : decode cX0_apart 9 = .ok (.aload_n 0, 1) := by decide +kernel
theorem dX0_apart_10 : decode cX0_apart 10 = .ok (.getfield 27, 3) := by decide +kernel
theorem dX0_apart_13 : decode cX0_apart 13 = .ok (.iload_n 1, 1) := by decide +kernel
theorem dX0_apart_14 : decode cX0_apart 14 = .ok (.iaload, 1) := by decide +kernel
theorem dX0_apart_15 : decode cX0_apart 15 = .ok (.iload_n 2, 1) := by decide +kernel
theorem dX0_apart_16 : decode cX0_apart 16 = .ok (.invokestatic 67, 3) := by decide +kernel
theorem dX0_apart_19 : decode cX0_apart 19 = .ok (.iload_n 3, 1) := by decide +kernel
theorem dX0_apart_20 : decode cX0_apart 20 = .ok (.if_icmp .ne 5, 3) := by decide +kernel
theorem dX0_apart_23 : decode cX0_apart 23 = .ok (.iconst 0, 1) := by decide +kernel
theorem dX0_apart_24 : decode cX0_apart 24 = .ok (.ireturn, 1) := by decide +kernel
theorem dX0_apart_25 : decode cX0_apart 25 = .ok (.aload_n 0, 1) := by decide +kernel
theorem dX0_apart_26 : decode cX0_apart 26 = .ok (.getfield 27, 3) := by decide +kernel
theorem dX0_apart_29 : decode cX0_apart 29 = .ok (.iload_n 1, 1) := by decide +kernel
theorem dX0_apart_30 : decode cX0_apart 30 = .ok (.dup2, 1) := by decide +kernel
theorem dX0_apart_31 : decode cX0_apart 31 = .ok (.iaload, 1) := by decide +kernel
theorem dX0_apart_32 : decode cX0_apart 32 = .ok (.iconst 1, 1) := by decide +kernel
theorem dX0_apart_33 : decode cX0_apart 33 = .ok (.iload_n 2, 1) := by decide +kernel
theorem dX0_apart_34 : decode cX0_apart 34 = .ok (.ishl, 1) := by decide +kernel
theorem dX0_apart_35 : decode cX0_apart 35 = .ok (.ixor, 1) := by decide +kernel
theorem dX0_apart_36 : decode cX0_apart 36 = .ok (.iastore, 1) := by decide +kernel
theorem dX0_apart_37 : decode cX0_apart 37 = .ok (.aload_n 0, 1) := by decide +kernel
theorem dX0_apart_38 : decode cX0_apart 38 = .ok (.getfield 27, 3) := by decide +kernel
theorem dX0_apart_41 : decode cX0_apart 41 = .ok (.iload_n 2, 1) := by decide +kernel
theorem dX0_apart_42 : decode cX0_apart 42 = .ok (.dup2, 1) := by decide +kernel
theorem dX0_apart_43 : decode cX0_apart 43 = .ok (.iaload, 1) := by decide +kernel
theorem dX0_apart_44 : decode cX0_apart 44 = .ok (.iconst 1, 1) := by decide +kernel
theorem dX0_apart_45 : decode cX0_apart 45 = .ok (.iload_n 1, 1) := by decide +kernel
theorem dX0_apart_46 : decode cX0_apart 46 = .ok (.ishl, 1) := by decide +kernel
theorem dX0_apart_47 : decode cX0_apart 47 = .ok (.ixor, 1) := by decide +kernel
theorem dX0_apart_48 : decode cX0_apart 48 = .ok (.iastore, 1) := by decide +kernel
theorem dX0_apart_49 : decode cX0_apart 49 = .ok (.iconst 1, 1) := by decide +kernel
theorem dX0_apart_50 : decode cX0_apart 50 = .ok (.ireturn, 1) := by decide +kernel
theorem dX0_basket_0 : decode cX0_basket 0 = .ok (.iload_n 1, 1) := by decide +kernel
theorem dX0_basket_1 : decode cX0_basket 1 = .ok (.invokestatic 77, 3) := by decide +kernel
theorem dX0_basket_4 : decode cX0_basket 4 = .ok (.ifCond .eq 24, 3) := by decide +kernel
theorem dX0_basket_7 : decode cX0_basket 7 = .ok (.aload_n 0, 1) := by decide +kernel
theorem dX0_basket_8 : decode cX0_basket 8 = .ok (.iload_n 2, 1) := by decide +kernel
theorem dX0_basket_9 : decode cX0_basket 9 = .ok (.invokevirtual 80, 3) := by decide +kernel
theorem dX0_basket_12 : decode cX0_basket 12 = .ok (.ifCond .eq 16, 3) := by decide +kernel
theorem dX0_basket_15 : decode cX0_basket 15 = .ok (.iload_n 2, 1) := by decide +kernel
theorem dX0_basket_16 : decode cX0_basket 16 = .ok (.ifCond .eq 12, 3) := by decide +kernel
theorem dX0_basket_19 : decode cX0_basket 19 = .ok (.aload_n 0, 1) := by decide +kernel
theorem dX0_basket_20 : decode cX0_basket 20 = .ok (.getfield 83, 3) := by decide +kernel
theorem dX0_basket_23 : decode cX0_basket 23 = .ok (.bipush 60, 2) := by decide +kernel
theorem dX0_basket_25 : decode cX0_basket 25 = .ok (.if_icmp .lt 5, 3) := by decide +kernel
theorem dX0_basket_28 : decode cX0_basket 28 = .ok (.iconst (-1), 1) := by decide +kernel
theorem dX0_basket_29 : decode cX0_basket 29 = .ok (.ireturn, 1) := by decide +kernel
theorem dX0_basket_30 : decode cX0_basket 30 = .ok (.aload_n 0, 1) := by decide +kernel
theorem dX0_basket_31 : decode cX0_basket 31 = .ok (.getfield 83, 3) := by decide +kernel
theorem dX0_basket_34 : decode cX0_basket 34 = .ok (.istore_n 3, 1) := by decide +kernel
theorem dX0_basket_35 : decode cX0_basket 35 = .ok (.aload_n 0, 1) := by decide +kernel
theorem dX0_basket_36 : decode cX0_basket 36 = .ok (.dup, 1) := by decide +kernel
theorem dX0_basket_37 : decode cX0_basket 37 = .ok (.getfield 83, 3) := by decide +kernel
theorem dX0_basket_40 : decode cX0_basket 40 = .ok (.iconst 1, 1) := by decide +kernel
theorem dX0_basket_41 : decode cX0_basket 41 = .ok (.iadd, 1) := by decide +kernel
theorem dX0_basket_42 : decode cX0_basket 42 = .ok (.putfield 83, 3) := by decide +kernel
theorem dX0_basket_45 : decode cX0_basket 45 = .ok (.aload_n 0, 1) := by decide +kernel
theorem dX0_basket_46 : decode cX0_basket 46 = .ok (.getfield 30, 3) := by decide +kernel
theorem dX0_basket_49 : decode cX0_basket 49 = .ok (.iload_n 3, 1) := by decide +kernel
theorem dX0_basket_50 : decode cX0_basket 50 = .ok (.iload_n 1, 1) := by decide +kernel
theorem dX0_basket_51 : decode cX0_basket 51 = .ok (.iastore, 1) := by decide +kernel
theorem dX0_basket_52 : decode cX0_basket 52 = .ok (.aload_n 0, 1) := by decide +kernel
theorem dX0_basket_53 : decode cX0_basket 53 = .ok (.getfield 33, 3) := by decide +kernel
theorem dX0_basket_56 : decode cX0_basket 56 = .ok (.iload_n 3, 1) := by decide +kernel
theorem dX0_basket_57 : decode cX0_basket 57 = .ok (.aload_n 0, 1) := by decide +kernel
theorem dX0_basket_58 : decode cX0_basket 58 = .ok (.getfield 57, 3) := by decide +kernel
theorem dX0_basket_61 : decode cX0_basket 61 = .ok (.iastore, 1) := by decide +kernel
theorem dX0_basket_62 : decode cX0_basket 62 = .ok (.aload_n 0, 1) := by decide +kernel
theorem dX0_basket_63 : decode cX0_basket 63 = .ok (.getfield 36, 3) := by decide +kernel
theorem dX0_basket_66 : decode cX0_basket 66 = .ok (.iload_n 3, 1) := by decide +kernel
theorem dX0_basket_67 : decode cX0_basket 67 = .ok (.iload_n 2, 1) := by decide +kernel
theorem dX0_basket_68 : decode cX0_basket 68 = .ok (.iastore, 1) := by decide +kernel
theorem dX0_basket_69 : decode cX0_basket 69 = .ok (.aload_n 0, 1) := by decide +kernel
theorem dX0_basket_70 : decode cX0_basket 70 = .ok (.iload_n 1, 1) := by decide +kernel
theorem dX0_basket_71 : decode cX0_basket 71 = .ok (.iload_n 2, 1) := by decide +kernel
theorem dX0_basket_72 : decode cX0_basket 72 = .ok (.invokevirtual 86, 3) := by decide +kernel
theorem dX0_basket_75 : decode cX0_basket 75 = .ok (.iload_n 3, 1) := by decide +kernel
theorem dX0_basket_76 : decode cX0_basket 76 = .ok (.ireturn, 1) := by decide +kernel
theorem dX0_drop_0 : decode cX0_drop 0 = .ok (.aload_n 0, 1) := by decide +kernel
theorem dX0_drop_1 : decode cX0_drop 1 = .ok (.iload_n 1, 1) := by decide +kernel
theorem dX0_drop_2 : decode cX0_drop 2 = .ok (.invokevirtual 90, 3) := by decide +kernel
theorem dX0_drop_5 : decode cX0_drop 5 = .ok (.ifCond .ne 5, 3) := by decide +kernel
theorem dX0_drop_8 : decode cX0_drop 8 = .ok (.iconst 0, 1) := by decide +kernel
theorem dX0_drop_9 : decode cX0_drop 9 = .ok (.ireturn, 1) := by decide +kernel
theorem dX0_drop_10 : decode cX0_drop 10 = .ok (.aload_n 0, 1) := by decide +kernel
theorem dX0_drop_11 : decode cX0_drop 11 = .ok (.iload_n 1, 1) := by decide +kernel
theorem dX0_drop_12 : decode cX0_drop 12 = .ok (.invokevirtual 93, 3) := by decide +kernel
theorem dX0_drop_15 : decode cX0_drop 15 = .ok (.iconst 1, 1) := by decide +kernel
theorem dX0_drop_16 : decode cX0_drop 16 = .ok (.ireturn, 1) := by decide +kernel
theorem dX0_forget_0 : decode cX0_forget 0 = .ok (.iload_n 1, 1) := by decide +kernel
theorem dX0_forget_1 : decode cX0_forget 1 = .ok (.invokestatic 77, 3) := by decide +kernel
theorem dX0_forget_4 : decode cX0_forget 4 = .ok (.ifCond .ne 5, 3) := by decide +kernel
theorem dX0_forget_7 : decode cX0_forget 7 = .ok (.iconst (-1), 1) := by decide +kernel
theorem dX0_forget_8 : decode cX0_forget 8 = .ok (.ireturn, 1) := by decide +kernel
theorem dX0_forget_9 : decode cX0_forget 9 = .ok (.aload_n 0, 1) := by decide +kernel
theorem dX0_forget_10 : decode cX0_forget 10 = .ok (.getfield 83, 3) := by decide +kernel
theorem dX0_forget_13 : decode cX0_forget 13 = .ok (.istore_n 2, 1) := by decide +kernel
theorem dX0_forget_14 : decode cX0_forget 14 = .ok (.iload_n 2, 1) := by decide +kernel
theorem dX0_forget_15 : decode cX0_forget 15 = .ok (.iconst 1, 1) := by decide +kernel
theorem dX0_forget_16 : decode cX0_forget 16 = .ok (.isub, 1) := by decide +kernel
theorem dX0_forget_17 : decode cX0_forget 17 = .ok (.istore_n 3, 1) := by decide +kernel
theorem dX0_forget_18 : decode cX0_forget 18 = .ok (.iload_n 3, 1) := by decide +kernel
theorem dX0_forget_19 : decode cX0_forget 19 = .ok (.ifCond .lt 24, 3) := by decide +kernel
theorem dX0_forget_22 : decode cX0_forget 22 = .ok (.aload_n 0, 1) := by decide +kernel
theorem dX0_forget_23 : decode cX0_forget 23 = .ok (.getfield 30, 3) := by decide +kernel
theorem dX0_forget_26 : decode cX0_forget 26 = .ok (.iload_n 3, 1) := by decide +kernel
theorem dX0_forget_27 : decode cX0_forget 27 = .ok (.iaload, 1) := by decide +kernel
theorem dX0_forget_28 : decode cX0_forget 28 = .ok (.iload_n 1, 1) := by decide +kernel
theorem dX0_forget_29 : decode cX0_forget 29 = .ok (.if_icmp .ne 8, 3) := by decide +kernel
theorem dX0_forget_32 : decode cX0_forget 32 = .ok (.aload_n 0, 1) := by decide +kernel
theorem dX0_forget_33 : decode cX0_forget 33 = .ok (.iload_n 3, 1) := by decide +kernel
theorem dX0_forget_34 : decode cX0_forget 34 = .ok (.invokevirtual 93, 3) := by decide +kernel
theorem dX0_forget_37 : decode cX0_forget 37 = .ok (.iinc 3 (-1), 3) := by decide +kernel
theorem dX0_forget_40 : decode cX0_forget 40 = .ok (.goto (-22), 3) := by decide +kernel
theorem dX0_forget_43 : decode cX0_forget 43 = .ok (.aload_n 0, 1) := by decide +kernel
theorem dX0_forget_44 : decode cX0_forget 44 = .ok (.getfield 39, 3) := by decide +kernel
theorem dX0_forget_47 : decode cX0_forget 47 = .ok (.iload_n 1, 1) := by decide +kernel
theorem dX0_forget_48 : decode cX0_forget 48 = .ok (.iconst 0, 1) := by decide +kernel
theorem dX0_forget_49 : decode cX0_forget 49 = .ok (.iastore, 1) := by decide +kernel
theorem dX0_forget_50 : decode cX0_forget 50 = .ok (.aload_n 0, 1) := by decide +kernel
theorem dX0_forget_51 : decode cX0_forget 51 = .ok (.iload_n 1, 1) := by decide +kernel
theorem dX0_forget_52 : decode cX0_forget 52 = .ok (.aload_n 0, 1) := by decide +kernel
theorem dX0_forget_53 : decode cX0_forget 53 = .ok (.invokevirtual 97, 3) := by decide +kernel
theorem dX0_forget_56 : decode cX0_forget 56 = .ok (.invokevirtual 86, 3) := by decide +kernel
theorem dX0_forget_59 : decode cX0_forget 59 = .ok (.iload_n 2, 1) := by decide +kernel
theorem dX0_forget_60 : decode cX0_forget 60 = .ok (.aload_n 0, 1) := by decide +kernel
theorem dX0_forget_61 : decode cX0_forget 61 = .ok (.getfield 83, 3) := by decide +kernel
theorem dX0_forget_64 : decode cX0_forget 64 = .ok (.isub, 1) := by decide +kernel
theorem dX0_forget_65 : decode cX0_forget 65 = .ok (.ireturn, 1) := by decide +kernel
theorem dX0_day_0 : decode cX0_day 0 = .ok (.aload_n 0, 1) := by decide +kernel
theorem dX0_day_1 : decode cX0_day 1 = .ok (.getfield 57, 3) := by decide +kernel
theorem dX0_day_4 : decode cX0_day 4 = .ok (.sipush 9999, 3) := by decide +kernel
theorem dX0_day_7 : decode cX0_day 7 = .ok (.if_icmp .lt 5, 3) := by decide +kernel
theorem dX0_day_10 : decode cX0_day 10 = .ok (.iconst (-1), 1) := by decide +kernel
theorem dX0_day_11 : decode cX0_day 11 = .ok (.ireturn, 1) := by decide +kernel
theorem dX0_day_12 : decode cX0_day 12 = .ok (.aload_n 0, 1) := by decide +kernel
theorem dX0_day_13 : decode cX0_day 13 = .ok (.dup, 1) := by decide +kernel
theorem dX0_day_14 : decode cX0_day 14 = .ok (.getfield 57, 3) := by decide +kernel
theorem dX0_day_17 : decode cX0_day 17 = .ok (.iconst 1, 1) := by decide +kernel
theorem dX0_day_18 : decode cX0_day 18 = .ok (.iadd, 1) := by decide +kernel
theorem dX0_day_19 : decode cX0_day 19 = .ok (.putfield 57, 3) := by decide +kernel
theorem dX0_day_22 : decode cX0_day 22 = .ok (.aload_n 0, 1) := by decide +kernel
theorem dX0_day_23 : decode cX0_day 23 = .ok (.invokevirtual 101, 3) := by decide +kernel
theorem dX0_day_26 : decode cX0_day 26 = .ok (.aload_n 0, 1) := by decide +kernel
theorem dX0_day_27 : decode cX0_day 27 = .ok (.getfield 57, 3) := by decide +kernel
theorem dX0_day_30 : decode cX0_day 30 = .ok (.ireturn, 1) := by decide +kernel
theorem dX0_look_0 : decode cX0_look 0 = .ok (.iload_n 1, 1) := by decide +kernel
theorem dX0_look_1 : decode cX0_look 1 = .ok (.tableswitch 104 0 8 #[51, 56, 61, 66, 73, 80, 87, 94, 99], 51) := by decide +kernel
theorem dX0_look_52 : decode cX0_look 52 = .ok (.aload_n 0, 1) := by decide +kernel
theorem dX0_look_53 : decode cX0_look 53 = .ok (.getfield 57, 3) := by decide +kernel
theorem dX0_look_56 : decode cX0_look 56 = .ok (.ireturn, 1) := by decide +kernel
theorem dX0_look_57 : decode cX0_look 57 = .ok (.aload_n 0, 1) := by decide +kernel
theorem dX0_look_58 : decode cX0_look 58 = .ok (.getfield 53, 3) := by decide +kernel
theorem dX0_look_61 : decode cX0_look 61 = .ok (.ireturn, 1) := by decide +kernel
theorem dX0_look_62 : decode cX0_look 62 = .ok (.aload_n 0, 1) := by decide +kernel
theorem dX0_look_63 : decode cX0_look 63 = .ok (.getfield 83, 3) := by decide +kernel
theorem dX0_look_66 : decode cX0_look 66 = .ok (.ireturn, 1) := by decide +kernel
theorem dX0_look_67 : decode cX0_look 67 = .ok (.aload_n 0, 1) := by decide +kernel
theorem dX0_look_68 : decode cX0_look 68 = .ok (.getfield 18, 3) := by decide +kernel
theorem dX0_look_71 : decode cX0_look 71 = .ok (.iconst 0, 1) := by decide +kernel
theorem dX0_look_72 : decode cX0_look 72 = .ok (.iaload, 1) := by decide +kernel
theorem dX0_look_73 : decode cX0_look 73 = .ok (.ireturn, 1) := by decide +kernel
theorem dX0_look_74 : decode cX0_look 74 = .ok (.aload_n 0, 1) := by decide +kernel
theorem dX0_look_75 : decode cX0_look 75 = .ok (.getfield 18, 3) := by decide +kernel
theorem dX0_look_78 : decode cX0_look 78 = .ok (.iconst 1, 1) := by decide +kernel
theorem dX0_look_79 : decode cX0_look 79 = .ok (.iaload, 1) := by decide +kernel
theorem dX0_look_80 : decode cX0_look 80 = .ok (.ireturn, 1) := by decide +kernel
theorem dX0_look_81 : decode cX0_look 81 = .ok (.aload_n 0, 1) := by decide +kernel
theorem dX0_look_82 : decode cX0_look 82 = .ok (.getfield 18, 3) := by decide +kernel
theorem dX0_look_85 : decode cX0_look 85 = .ok (.iconst 2, 1) := by decide +kernel
theorem dX0_look_86 : decode cX0_look 86 = .ok (.iaload, 1) := by decide +kernel
theorem dX0_look_87 : decode cX0_look 87 = .ok (.ireturn, 1) := by decide +kernel
theorem dX0_look_88 : decode cX0_look 88 = .ok (.aload_n 0, 1) := by decide +kernel
theorem dX0_look_89 : decode cX0_look 89 = .ok (.getfield 18, 3) := by decide +kernel
theorem dX0_look_92 : decode cX0_look 92 = .ok (.iconst 3, 1) := by decide +kernel
theorem dX0_look_93 : decode cX0_look 93 = .ok (.iaload, 1) := by decide +kernel
theorem dX0_look_94 : decode cX0_look 94 = .ok (.ireturn, 1) := by decide +kernel
theorem dX0_look_95 : decode cX0_look 95 = .ok (.aload_n 0, 1) := by decide +kernel
theorem dX0_look_96 : decode cX0_look 96 = .ok (.getfield 60, 3) := by decide +kernel
theorem dX0_look_99 : decode cX0_look 99 = .ok (.ireturn, 1) := by decide +kernel
theorem dX0_look_100 : decode cX0_look 100 = .ok (.aload_n 0, 1) := by decide +kernel
theorem dX0_look_101 : decode cX0_look 101 = .ok (.invokevirtual 104, 3) := by decide +kernel
theorem dX0_look_104 : decode cX0_look 104 = .ok (.ireturn, 1) := by decide +kernel
theorem dX0_look_105 : decode cX0_look 105 = .ok (.iconst (-1), 1) := by decide +kernel
theorem dX0_look_106 : decode cX0_look 106 = .ok (.ireturn, 1) := by decide +kernel
theorem dX0_of_0 : decode cX0_of 0 = .ok (.aload_n 0, 1) := by decide +kernel
theorem dX0_of_1 : decode cX0_of 1 = .ok (.iload_n 1, 1) := by decide +kernel
theorem dX0_of_2 : decode cX0_of 2 = .ok (.invokevirtual 90, 3) := by decide +kernel
theorem dX0_of_5 : decode cX0_of 5 = .ok (.ifCond .ne 5, 3) := by decide +kernel
theorem dX0_of_8 : decode cX0_of 8 = .ok (.iconst (-1), 1) := by decide +kernel
theorem dX0_of_9 : decode cX0_of 9 = .ok (.ireturn, 1) := by decide +kernel
theorem dX0_of_10 : decode cX0_of 10 = .ok (.iload_n 2, 1) := by decide +kernel
theorem dX0_of_11 : decode cX0_of 11 = .ok (.tableswitch 46 0 2 #[25, 32, 39], 25) := by decide +kernel
theorem dX0_of_36 : decode cX0_of 36 = .ok (.aload_n 0, 1) := by decide +kernel
theorem dX0_of_37 : decode cX0_of 37 = .ok (.getfield 30, 3) := by decide +kernel
theorem dX0_of_40 : decode cX0_of 40 = .ok (.iload_n 1, 1) := by decide +kernel
theorem dX0_of_41 : decode cX0_of 41 = .ok (.iaload, 1) := by decide +kernel
theorem dX0_of_42 : decode cX0_of 42 = .ok (.ireturn, 1) := by decide +kernel
theorem dX0_of_43 : decode cX0_of 43 = .ok (.aload_n 0, 1) := by decide +kernel
theorem dX0_of_44 : decode cX0_of 44 = .ok (.getfield 33, 3) := by decide +kernel
theorem dX0_of_47 : decode cX0_of 47 = .ok (.iload_n 1, 1) := by decide +kernel
theorem dX0_of_48 : decode cX0_of 48 = .ok (.iaload, 1) := by decide +kernel
theorem dX0_of_49 : decode cX0_of 49 = .ok (.ireturn, 1) := by decide +kernel
theorem dX0_of_50 : decode cX0_of 50 = .ok (.aload_n 0, 1) := by decide +kernel
theorem dX0_of_51 : decode cX0_of 51 = .ok (.getfield 36, 3) := by decide +kernel
theorem dX0_of_54 : decode cX0_of 54 = .ok (.iload_n 1, 1) := by decide +kernel
theorem dX0_of_55 : decode cX0_of 55 = .ok (.iaload, 1) := by decide +kernel
theorem dX0_of_56 : decode cX0_of 56 = .ok (.ireturn, 1) := by decide +kernel
theorem dX0_of_57 : decode cX0_of 57 = .ok (.iconst (-1), 1) := by decide +kernel
theorem dX0_of_58 : decode cX0_of 58 = .ok (.ireturn, 1) := by decide +kernel
theorem dX0_count_0 : decode cX0_count 0 = .ok (.aload_n 0, 1) := by decide +kernel
theorem dX0_count_1 : decode cX0_count 1 = .ok (.iload_n 1, 1) := by decide +kernel
theorem dX0_count_2 : decode cX0_count 2 = .ok (.invokevirtual 63, 3) := by decide +kernel
theorem dX0_count_5 : decode cX0_count 5 = .ok (.ifCond .eq 11, 3) := by decide +kernel
theorem dX0_count_8 : decode cX0_count 8 = .ok (.aload_n 0, 1) := by decide +kernel
theorem dX0_count_9 : decode cX0_count 9 = .ok (.iload_n 2, 1) := by decide +kernel
theorem dX0_count_10 : decode cX0_count 10 = .ok (.invokevirtual 63, 3) := by decide +kernel
theorem dX0_count_13 : decode cX0_count 13 = .ok (.ifCond .ne 5, 3) := by decide +kernel
theorem dX0_count_16 : decode cX0_count 16 = .ok (.iconst (-1), 1) := by decide +kernel
theorem dX0_count_17 : decode cX0_count 17 = .ok (.ireturn, 1) := by decide +kernel
theorem dX0_count_18 : decode cX0_count 18 = .ok (.iload_n 3, 1) := by decide +kernel
theorem dX0_count_19 : decode cX0_count 19 = .ok (.lookupswitch 39 #[(0, 25), (1, 32)], 25) := by decide +kernel
theorem dX0_count_44 : decode cX0_count 44 = .ok (.aload_n 0, 1) := by decide +kernel
theorem dX0_count_45 : decode cX0_count 45 = .ok (.iload_n 1, 1) := by decide +kernel
theorem dX0_count_46 : decode cX0_count 46 = .ok (.iload_n 2, 1) := by decide +kernel
theorem dX0_count_47 : decode cX0_count 47 = .ok (.invokevirtual 107, 3) := by decide +kernel
theorem dX0_count_50 : decode cX0_count 50 = .ok (.ireturn, 1) := by decide +kernel
theorem dX0_count_51 : decode cX0_count 51 = .ok (.aload_n 0, 1) := by decide +kernel
theorem dX0_count_52 : decode cX0_count 52 = .ok (.iload_n 1, 1) := by decide +kernel
theorem dX0_count_53 : decode cX0_count 53 = .ok (.iload_n 2, 1) := by decide +kernel
theorem dX0_count_54 : decode cX0_count 54 = .ok (.invokevirtual 111, 3) := by decide +kernel
theorem dX0_count_57 : decode cX0_count 57 = .ok (.ireturn, 1) := by decide +kernel
theorem dX0_count_58 : decode cX0_count 58 = .ok (.iconst (-1), 1) := by decide +kernel
theorem dX0_count_59 : decode cX0_count 59 = .ok (.ireturn, 1) := by decide +kernel
theorem dX0_kin_0 : decode cX0_kin 0 = .ok (.aload_n 0, 1) := by decide +kernel
theorem dX0_kin_1 : decode cX0_kin 1 = .ok (.iload_n 1, 1) := by decide +kernel
theorem dX0_kin_2 : decode cX0_kin 2 = .ok (.iload_n 2, 1) := by decide +kernel
theorem dX0_kin_3 : decode cX0_kin 3 = .ok (.invokevirtual 74, 3) := by decide +kernel
theorem dX0_kin_6 : decode cX0_kin 6 = .ok (.ifCond .eq 12, 3) := by decide +kernel
theorem dX0_kin_9 : decode cX0_kin 9 = .ok (.aload_n 0, 1) := by decide +kernel
theorem dX0_kin_10 : decode cX0_kin 10 = .ok (.iload_n 1, 1) := by decide +kernel
theorem dX0_kin_11 : decode cX0_kin 11 = .ok (.iload_n 2, 1) := by decide +kernel
theorem dX0_kin_12 : decode cX0_kin 12 = .ok (.invokevirtual 114, 3) := by decide +kernel
theorem dX0_kin_15 : decode cX0_kin 15 = .ok (.goto 5, 3) := by decide +kernel
theorem dX0_kin_18 : decode cX0_kin 18 = .ok (.ldc 117, 2) := by decide +kernel
theorem dX0_kin_20 : decode cX0_kin 20 = .ok (.ireturn, 1) := by decide +kernel
theorem dX0_near_0 : decode cX0_near 0 = .ok (.aload_n 0, 1) := by decide +kernel
theorem dX0_near_1 : decode cX0_near 1 = .ok (.iload_n 1, 1) := by decide +kernel
theorem dX0_near_2 : decode cX0_near 2 = .ok (.invokevirtual 63, 3) := by decide +kernel
theorem dX0_near_5 : decode cX0_near 5 = .ok (.ifCond .eq 17, 3) := by decide +kernel
theorem dX0_near_8 : decode cX0_near 8 = .ok (.iload_n 2, 1) := by decide +kernel
theorem dX0_near_9 : decode cX0_near 9 = .ok (.ifCond .lt 13, 3) := by decide +kernel
theorem dX0_near_12 : decode cX0_near 12 = .ok (.iload_n 2, 1) := by decide +kernel
theorem dX0_near_13 : decode cX0_near 13 = .ok (.aload_n 0, 1) := by decide +kernel
theorem dX0_near_14 : decode cX0_near 14 = .ok (.getfield 53, 3) := by decide +kernel
theorem dX0_near_17 : decode cX0_near 17 = .ok (.iconst 1, 1) := by decide +kernel
theorem dX0_near_18 : decode cX0_near 18 = .ok (.isub, 1) := by decide +kernel
theorem dX0_near_19 : decode cX0_near 19 = .ok (.if_icmp .lt 5, 3) := by decide +kernel
theorem dX0_near_22 : decode cX0_near 22 = .ok (.iconst (-1), 1) := by decide +kernel
theorem dX0_near_23 : decode cX0_near 23 = .ok (.ireturn, 1) := by decide +kernel
theorem dX0_near_24 : decode cX0_near 24 = .ok (.aload_n 0, 1) := by decide +kernel
theorem dX0_near_25 : decode cX0_near 25 = .ok (.invokevirtual 97, 3) := by decide +kernel
theorem dX0_near_28 : decode cX0_near 28 = .ok (.iconst 1, 1) := by decide +kernel
theorem dX0_near_29 : decode cX0_near 29 = .ok (.iload_n 1, 1) := by decide +kernel
theorem dX0_near_30 : decode cX0_near 30 = .ok (.ishl, 1) := by decide +kernel
theorem dX0_near_31 : decode cX0_near 31 = .ok (.iconst (-1), 1) := by decide +kernel
theorem dX0_near_32 : decode cX0_near 32 = .ok (.ixor, 1) := by decide +kernel
theorem dX0_near_33 : decode cX0_near 33 = .ok (.iand, 1) := by decide +kernel
theorem dX0_near_34 : decode cX0_near 34 = .ok (.istore_n 3, 1) := by decide +kernel
theorem dX0_near_35 : decode cX0_near 35 = .ok (.aload_n 0, 1) := by decide +kernel
theorem dX0_near_36 : decode cX0_near 36 = .ok (.iload_n 1, 1) := by decide +kernel
theorem dX0_near_37 : decode cX0_near 37 = .ok (.iload_n 3, 1) := by decide +kernel
theorem dX0_near_38 : decode cX0_near 38 = .ok (.invokevirtual 118, 3) := by decide +kernel
theorem dX0_near_41 : decode cX0_near 41 = .ok (.iload_n 3, 1) := by decide +kernel
theorem dX0_near_42 : decode cX0_near 42 = .ok (.istore 4, 2) := by decide +kernel
theorem dX0_near_44 : decode cX0_near 44 = .ok (.aload_n 0, 1) := by decide +kernel
theorem dX0_near_45 : decode cX0_near 45 = .ok (.iload 4, 2) := by decide +kernel
theorem dX0_near_47 : decode cX0_near 47 = .ok (.invokevirtual 121, 3) := by decide +kernel
theorem dX0_near_50 : decode cX0_near 50 = .ok (.istore 5, 2) := by decide +kernel
theorem dX0_near_52 : decode cX0_near 52 = .ok (.iconst 0, 1) := by decide +kernel
theorem dX0_near_53 : decode cX0_near 53 = .ok (.istore 6, 2) := by decide +kernel
theorem dX0_near_55 : decode cX0_near 55 = .ok (.iload 6, 2) := by decide +kernel
theorem dX0_near_57 : decode cX0_near 57 = .ok (.iload_n 2, 1) := by decide +kernel
theorem dX0_near_58 : decode cX0_near 58 = .ok (.if_icmp .ge 28, 3) := by decide +kernel
theorem dX0_near_61 : decode cX0_near 61 = .ok (.iload 4, 2) := by decide +kernel
theorem dX0_near_63 : decode cX0_near 63 = .ok (.iconst 1, 1) := by decide +kernel
theorem dX0_near_64 : decode cX0_near 64 = .ok (.iload 5, 2) := by decide +kernel
theorem dX0_near_66 : decode cX0_near 66 = .ok (.ishl, 1) := by decide +kernel
theorem dX0_near_67 : decode cX0_near 67 = .ok (.iconst (-1), 1) := by decide +kernel
theorem dX0_near_68 : decode cX0_near 68 = .ok (.ixor, 1) := by decide +kernel
theorem dX0_near_69 : decode cX0_near 69 = .ok (.iand, 1) := by decide +kernel
theorem dX0_near_70 : decode cX0_near 70 = .ok (.istore 4, 2) := by decide +kernel
theorem dX0_near_72 : decode cX0_near 72 = .ok (.aload_n 0, 1) := by decide +kernel
theorem dX0_near_73 : decode cX0_near 73 = .ok (.iload 4, 2) := by decide +kernel
theorem dX0_near_75 : decode cX0_near 75 = .ok (.invokevirtual 121, 3) := by decide +kernel
theorem dX0_near_78 : decode cX0_near 78 = .ok (.istore 5, 2) := by decide +kernel
theorem dX0_near_80 : decode cX0_near 80 = .ok (.iinc 6 1, 3) := by decide +kernel
theorem dX0_near_83 : decode cX0_near 83 = .ok (.goto (-28), 3) := by decide +kernel
theorem dX0_near_86 : decode cX0_near 86 = .ok (.iload 5, 2) := by decide +kernel
theorem dX0_near_88 : decode cX0_near 88 = .ok (.ireturn, 1) := by decide +kernel
theorem dX0_taken_0 : decode cX0_taken 0 = .ok (.iload_n 1, 1) := by decide +kernel
theorem dX0_taken_1 : decode cX0_taken 1 = .ok (.invokestatic 77, 3) := by decide +kernel
theorem dX0_taken_4 : decode cX0_taken 4 = .ok (.ifCond .eq 11, 3) := by decide +kernel
theorem dX0_taken_7 : decode cX0_taken 7 = .ok (.aload_n 0, 1) := by decide +kernel
theorem dX0_taken_8 : decode cX0_taken 8 = .ok (.iload_n 1, 1) := by decide +kernel
theorem dX0_taken_9 : decode cX0_taken 9 = .ok (.invokevirtual 125, 3) := by decide +kernel
theorem dX0_taken_12 : decode cX0_taken 12 = .ok (.goto 4, 3) := by decide +kernel
theorem dX0_taken_15 : decode cX0_taken 15 = .ok (.iconst (-1), 1) := by decide +kernel
theorem dX0_taken_16 : decode cX0_taken 16 = .ok (.ireturn, 1) := by decide +kernel
theorem dX0_score_0 : decode cX0_score 0 = .ok (.iload_n 1, 1) := by decide +kernel
theorem dX0_score_1 : decode cX0_score 1 = .ok (.invokestatic 77, 3) := by decide +kernel
theorem dX0_score_4 : decode cX0_score 4 = .ok (.ifCond .eq 24, 3) := by decide +kernel
theorem dX0_score_7 : decode cX0_score 7 = .ok (.aload_n 0, 1) := by decide +kernel
theorem dX0_score_8 : decode cX0_score 8 = .ok (.iload_n 2, 1) := by decide +kernel
theorem dX0_score_9 : decode cX0_score 9 = .ok (.invokevirtual 63, 3) := by decide +kernel
theorem dX0_score_12 : decode cX0_score 12 = .ok (.ifCond .eq 16, 3) := by decide +kernel
theorem dX0_score_15 : decode cX0_score 15 = .ok (.aload_n 0, 1) := by decide +kernel
theorem dX0_score_16 : decode cX0_score 16 = .ok (.aload_n 0, 1) := by decide +kernel
theorem dX0_score_17 : decode cX0_score 17 = .ok (.iload_n 1, 1) := by decide +kernel
theorem dX0_score_18 : decode cX0_score 18 = .ok (.invokevirtual 125, 3) := by decide +kernel
theorem dX0_score_21 : decode cX0_score 21 = .ok (.iload_n 2, 1) := by decide +kernel
theorem dX0_score_22 : decode cX0_score 22 = .ok (.invokevirtual 128, 3) := by decide +kernel
theorem dX0_score_25 : decode cX0_score 25 = .ok (.goto 5, 3) := by decide +kernel
theorem dX0_score_28 : decode cX0_score 28 = .ok (.ldc 117, 2) := by decide +kernel
theorem dX0_score_30 : decode cX0_score 30 = .ok (.ireturn, 1) := by decide +kernel
theorem dX0_may_0 : decode cX0_may 0 = .ok (.iload_n 1, 1) := by decide +kernel
theorem dX0_may_1 : decode cX0_may 1 = .ok (.invokestatic 77, 3) := by decide +kernel
theorem dX0_may_4 : decode cX0_may 4 = .ok (.ifCond .eq 11, 3) := by decide +kernel
theorem dX0_may_7 : decode cX0_may 7 = .ok (.aload_n 0, 1) := by decide +kernel
theorem dX0_may_8 : decode cX0_may 8 = .ok (.iload_n 1, 1) := by decide +kernel
theorem dX0_may_9 : decode cX0_may 9 = .ok (.invokevirtual 131, 3) := by decide +kernel
theorem dX0_may_12 : decode cX0_may 12 = .ok (.goto 4, 3) := by decide +kernel
theorem dX0_may_15 : decode cX0_may 15 = .ok (.iconst (-1), 1) := by decide +kernel
theorem dX0_may_16 : decode cX0_may 16 = .ok (.ireturn, 1) := by decide +kernel
theorem dX0_list_0 : decode cX0_list 0 = .ok (.aload_n 0, 1) := by decide +kernel
theorem dX0_list_1 : decode cX0_list 1 = .ok (.iload_n 1, 1) := by decide +kernel
theorem dX0_list_2 : decode cX0_list 2 = .ok (.iload_n 2, 1) := by decide +kernel
theorem dX0_list_3 : decode cX0_list 3 = .ok (.invokevirtual 134, 3) := by decide +kernel
theorem dX0_list_6 : decode cX0_list 6 = .ok (.ifCond .eq 12, 3) := by decide +kernel
theorem dX0_list_9 : decode cX0_list 9 = .ok (.iload_n 3, 1) := by decide +kernel
theorem dX0_list_10 : decode cX0_list 10 = .ok (.ifCond .lt 8, 3) := by decide +kernel
theorem dX0_list_13 : decode cX0_list 13 = .ok (.iload_n 3, 1) := by decide +kernel
theorem dX0_list_14 : decode cX0_list 14 = .ok (.iconst 1, 1) := by decide +kernel
theorem dX0_list_15 : decode cX0_list 15 = .ok (.if_icmp .le 6, 3) := by decide +kernel
theorem dX0_list_18 : decode cX0_list 18 = .ok (.ldc 117, 2) := by decide +kernel
theorem dX0_list_20 : decode cX0_list 20 = .ok (.ireturn, 1) := by decide +kernel
theorem dX0_list_21 : decode cX0_list 21 = .ok (.aload_n 0, 1) := by decide +kernel
theorem dX0_list_22 : decode cX0_list 22 = .ok (.iload_n 1, 1) := by decide +kernel
theorem dX0_list_23 : decode cX0_list 23 = .ok (.iload_n 2, 1) := by decide +kernel
theorem dX0_list_24 : decode cX0_list 24 = .ok (.invokevirtual 137, 3) := by decide +kernel
theorem dX0_list_27 : decode cX0_list 27 = .ok (.istore 4, 2) := by decide +kernel
theorem dX0_list_29 : decode cX0_list 29 = .ok (.iload_n 3, 1) := by decide +kernel
theorem dX0_list_30 : decode cX0_list 30 = .ok (.ifCond .ne 8, 3) := by decide +kernel
theorem dX0_list_33 : decode cX0_list 33 = .ok (.iload 4, 2) := by decide +kernel
theorem dX0_list_35 : decode cX0_list 35 = .ok (.goto 9, 3) := by decide +kernel
theorem dX0_list_38 : decode cX0_list 38 = .ok (.aload_n 0, 1) := by decide +kernel
theorem dX0_list_39 : decode cX0_list 39 = .ok (.iload 4, 2) := by decide +kernel
theorem dX0_list_41 : decode cX0_list 41 = .ok (.invokevirtual 140, 3) := by decide +kernel
theorem dX0_list_44 : decode cX0_list 44 = .ok (.ireturn, 1) := by decide +kernel
theorem dX0_show_0 : decode cX0_show 0 = .ok (.aload_n 0, 1) := by decide +kernel
theorem dX0_show_1 : decode cX0_show 1 = .ok (.iload_n 1, 1) := by decide +kernel
theorem dX0_show_2 : decode cX0_show 2 = .ok (.iload_n 2, 1) := by decide +kernel
theorem dX0_show_3 : decode cX0_show 3 = .ok (.invokevirtual 134, 3) := by decide +kernel
theorem dX0_show_6 : decode cX0_show 6 = .ok (.ifCond .ne 5, 3) := by decide +kernel
theorem dX0_show_9 : decode cX0_show 9 = .ok (.iconst (-1), 1) := by decide +kernel
theorem dX0_show_10 : decode cX0_show 10 = .ok (.ireturn, 1) := by decide +kernel
theorem dX0_show_11 : decode cX0_show 11 = .ok (.aload_n 0, 1) := by decide +kernel
theorem dX0_show_12 : decode cX0_show 12 = .ok (.iload_n 1, 1) := by decide +kernel
theorem dX0_show_13 : decode cX0_show 13 = .ok (.iload_n 2, 1) := by decide +kernel
theorem dX0_show_14 : decode cX0_show 14 = .ok (.invokevirtual 137, 3) := by decide +kernel
theorem dX0_show_17 : decode cX0_show 17 = .ok (.istore_n 3, 1) := by decide +kernel
theorem dX0_show_18 : decode cX0_show 18 = .ok (.aload_n 0, 1) := by decide +kernel
theorem dX0_show_19 : decode cX0_show 19 = .ok (.getfield 39, 3) := by decide +kernel
theorem dX0_show_22 : decode cX0_show 22 = .ok (.iload_n 1, 1) := by decide +kernel
theorem dX0_show_23 : decode cX0_show 23 = .ok (.dup2, 1) := by decide +kernel
theorem dX0_show_24 : decode cX0_show 24 = .ok (.iaload, 1) := by decide +kernel
theorem dX0_show_25 : decode cX0_show 25 = .ok (.iconst 1, 1) := by decide +kernel
theorem dX0_show_26 : decode cX0_show 26 = .ok (.iadd, 1) := by decide +kernel
theorem dX0_show_27 : decode cX0_show 27 = .ok (.iastore, 1) := by decide +kernel
theorem dX0_show_28 : decode cX0_show 28 = .ok (.iconst 0, 1) := by decide +kernel
theorem dX0_show_29 : decode cX0_show 29 = .ok (.istore 4, 2) := by decide +kernel
theorem dX0_show_31 : decode cX0_show 31 = .ok (.iload 4, 2) := by decide +kernel
theorem dX0_show_33 : decode cX0_show 33 = .ok (.aload_n 0, 1) := by decide +kernel
theorem dX0_show_34 : decode cX0_show 34 = .ok (.getfield 53, 3) := by decide +kernel
theorem dX0_show_37 : decode cX0_show 37 = .ok (.if_icmp .ge 25, 3) := by decide +kernel
theorem dX0_show_40 : decode cX0_show 40 = .ok (.iload_n 3, 1) := by decide +kernel
theorem dX0_show_41 : decode cX0_show 41 = .ok (.iload 4, 2) := by decide +kernel
theorem dX0_show_43 : decode cX0_show 43 = .ok (.invokestatic 67, 3) := by decide +kernel
theorem dX0_show_46 : decode cX0_show 46 = .ok (.ifCond .eq 10, 3) := by decide +kernel
theorem dX0_show_49 : decode cX0_show 49 = .ok (.aload_n 0, 1) := by decide +kernel
theorem dX0_show_50 : decode cX0_show 50 = .ok (.iload_n 1, 1) := by decide +kernel
theorem dX0_show_51 : decode cX0_show 51 = .ok (.iload 4, 2) := by decide +kernel
theorem dX0_show_53 : decode cX0_show 53 = .ok (.invokevirtual 143, 3) := by decide +kernel
theorem dX0_show_56 : decode cX0_show 56 = .ok (.iinc 4 1, 3) := by decide +kernel
theorem dX0_show_59 : decode cX0_show 59 = .ok (.goto (-28), 3) := by decide +kernel
theorem dX0_show_62 : decode cX0_show 62 = .ok (.iload_n 3, 1) := by decide +kernel
theorem dX0_show_63 : decode cX0_show 63 = .ok (.ireturn, 1) := by decide +kernel
theorem dX0_shown_0 : decode cX0_shown 0 = .ok (.iload_n 1, 1) := by decide +kernel
theorem dX0_shown_1 : decode cX0_shown 1 = .ok (.invokestatic 77, 3) := by decide +kernel
theorem dX0_shown_4 : decode cX0_shown 4 = .ok (.ifCond .ne 5, 3) := by decide +kernel
theorem dX0_shown_7 : decode cX0_shown 7 = .ok (.iconst (-1), 1) := by decide +kernel
theorem dX0_shown_8 : decode cX0_shown 8 = .ok (.ireturn, 1) := by decide +kernel
theorem dX0_shown_9 : decode cX0_shown 9 = .ok (.iload_n 3, 1) := by decide +kernel
theorem dX0_shown_10 : decode cX0_shown 10 = .ok (.iconst 2, 1) := by decide +kernel
theorem dX0_shown_11 : decode cX0_shown 11 = .ok (.if_icmp .ne 19, 3) := by decide +kernel
theorem dX0_shown_14 : decode cX0_shown 14 = .ok (.iload_n 2, 1) := by decide +kernel
theorem dX0_shown_15 : decode cX0_shown 15 = .ok (.iconst (-1), 1) := by decide +kernel
theorem dX0_shown_16 : decode cX0_shown 16 = .ok (.if_icmp .ne 12, 3) := by decide +kernel
theorem dX0_shown_19 : decode cX0_shown 19 = .ok (.aload_n 0, 1) := by decide +kernel
theorem dX0_shown_20 : decode cX0_shown 20 = .ok (.getfield 39, 3) := by decide +kernel
theorem dX0_shown_23 : decode cX0_shown 23 = .ok (.iload_n 1, 1) := by decide +kernel
theorem dX0_shown_24 : decode cX0_shown 24 = .ok (.iaload, 1) := by decide +kernel
theorem dX0_shown_25 : decode cX0_shown 25 = .ok (.goto 4, 3) := by decide +kernel
theorem dX0_shown_28 : decode cX0_shown 28 = .ok (.iconst (-1), 1) := by decide +kernel
theorem dX0_shown_29 : decode cX0_shown 29 = .ok (.ireturn, 1) := by decide +kernel
theorem dX0_shown_30 : decode cX0_shown 30 = .ok (.aload_n 0, 1) := by decide +kernel
theorem dX0_shown_31 : decode cX0_shown 31 = .ok (.iload_n 2, 1) := by decide +kernel
theorem dX0_shown_32 : decode cX0_shown 32 = .ok (.invokevirtual 63, 3) := by decide +kernel
theorem dX0_shown_35 : decode cX0_shown 35 = .ok (.ifCond .ne 5, 3) := by decide +kernel
theorem dX0_shown_38 : decode cX0_shown 38 = .ok (.iconst (-1), 1) := by decide +kernel
theorem dX0_shown_39 : decode cX0_shown 39 = .ok (.ireturn, 1) := by decide +kernel
theorem dX0_shown_40 : decode cX0_shown 40 = .ok (.iload_n 3, 1) := by decide +kernel
theorem dX0_shown_41 : decode cX0_shown 41 = .ok (.lookupswitch 43 #[(0, 27), (1, 36)], 27) := by decide +kernel
theorem dX0_shown_68 : decode cX0_shown 68 = .ok (.aload_n 0, 1) := by decide +kernel
theorem dX0_shown_69 : decode cX0_shown 69 = .ok (.getfield 44, 3) := by decide +kernel
theorem dX0_shown_72 : decode cX0_shown 72 = .ok (.iload_n 1, 1) := by decide +kernel
theorem dX0_shown_73 : decode cX0_shown 73 = .ok (.aaload, 1) := by decide +kernel
theorem dX0_shown_74 : decode cX0_shown 74 = .ok (.iload_n 2, 1) := by decide +kernel
theorem dX0_shown_75 : decode cX0_shown 75 = .ok (.iaload, 1) := by decide +kernel
theorem dX0_shown_76 : decode cX0_shown 76 = .ok (.ireturn, 1) := by decide +kernel
theorem dX0_shown_77 : decode cX0_shown 77 = .ok (.aload_n 0, 1) := by decide +kernel
theorem dX0_shown_78 : decode cX0_shown 78 = .ok (.iload_n 1, 1) := by decide +kernel
theorem dX0_shown_79 : decode cX0_shown 79 = .ok (.iload_n 2, 1) := by decide +kernel
theorem dX0_shown_80 : decode cX0_shown 80 = .ok (.invokevirtual 146, 3) := by decide +kernel
theorem dX0_shown_83 : decode cX0_shown 83 = .ok (.ireturn, 1) := by decide +kernel
theorem dX0_shown_84 : decode cX0_shown 84 = .ok (.iconst (-1), 1) := by decide +kernel
theorem dX0_shown_85 : decode cX0_shown 85 = .ok (.ireturn, 1) := by decide +kernel
theorem dX0_why_0 : decode cX0_why 0 = .ok (.iload_n 1, 1) := by decide +kernel
theorem dX0_why_1 : decode cX0_why 1 = .ok (.invokestatic 77, 3) := by decide +kernel
theorem dX0_why_4 : decode cX0_why 4 = .ok (.ifCond .eq 11, 3) := by decide +kernel
theorem dX0_why_7 : decode cX0_why 7 = .ok (.aload_n 0, 1) := by decide +kernel
theorem dX0_why_8 : decode cX0_why 8 = .ok (.iload_n 2, 1) := by decide +kernel
theorem dX0_why_9 : decode cX0_why 9 = .ok (.invokevirtual 63, 3) := by decide +kernel
theorem dX0_why_12 : decode cX0_why 12 = .ok (.ifCond .ne 6, 3) := by decide +kernel
theorem dX0_why_15 : decode cX0_why 15 = .ok (.ldc 117, 2) := by decide +kernel
theorem dX0_why_17 : decode cX0_why 17 = .ok (.ireturn, 1) := by decide +kernel
theorem dX0_why_18 : decode cX0_why 18 = .ok (.aload_n 0, 1) := by decide +kernel
theorem dX0_why_19 : decode cX0_why 19 = .ok (.iload_n 1, 1) := by decide +kernel
theorem dX0_why_20 : decode cX0_why 20 = .ok (.invokevirtual 125, 3) := by decide +kernel
theorem dX0_why_23 : decode cX0_why 23 = .ok (.iconst 1, 1) := by decide +kernel
theorem dX0_why_24 : decode cX0_why 24 = .ok (.iload_n 2, 1) := by decide +kernel
theorem dX0_why_25 : decode cX0_why 25 = .ok (.ishl, 1) := by decide +kernel
theorem dX0_why_26 : decode cX0_why 26 = .ok (.iconst (-1), 1) := by decide +kernel
theorem dX0_why_27 : decode cX0_why 27 = .ok (.ixor, 1) := by decide +kernel
theorem dX0_why_28 : decode cX0_why 28 = .ok (.iand, 1) := by decide +kernel
theorem dX0_why_29 : decode cX0_why 29 = .ok (.istore 4, 2) := by decide +kernel
theorem dX0_why_31 : decode cX0_why 31 = .ok (.iload 4, 2) := by decide +kernel
theorem dX0_why_33 : decode cX0_why 33 = .ok (.ifCond .ne 6, 3) := by decide +kernel
theorem dX0_why_36 : decode cX0_why 36 = .ok (.ldc 117, 2) := by decide +kernel
theorem dX0_why_38 : decode cX0_why 38 = .ok (.ireturn, 1) := by decide +kernel
theorem dX0_why_39 : decode cX0_why 39 = .ok (.aload_n 0, 1) := by decide +kernel
theorem dX0_why_40 : decode cX0_why 40 = .ok (.iload_n 2, 1) := by decide +kernel
theorem dX0_why_41 : decode cX0_why 41 = .ok (.iload 4, 2) := by decide +kernel
theorem dX0_why_43 : decode cX0_why 43 = .ok (.invokevirtual 118, 3) := by decide +kernel
theorem dX0_why_46 : decode cX0_why 46 = .ok (.aload_n 0, 1) := by decide +kernel
theorem dX0_why_47 : decode cX0_why 47 = .ok (.iload 4, 2) := by decide +kernel
theorem dX0_why_49 : decode cX0_why 49 = .ok (.invokevirtual 121, 3) := by decide +kernel
theorem dX0_why_52 : decode cX0_why 52 = .ok (.istore 5, 2) := by decide +kernel
theorem dX0_why_54 : decode cX0_why 54 = .ok (.iload_n 3, 1) := by decide +kernel
theorem dX0_why_55 : decode cX0_why 55 = .ok (.tableswitch 44 0 2 #[25, 28, 36], 25) := by decide +kernel
theorem dX0_why_80 : decode cX0_why 80 = .ok (.iload 5, 2) := by decide +kernel
theorem dX0_why_82 : decode cX0_why 82 = .ok (.ireturn, 1) := by decide +kernel
theorem dX0_why_83 : decode cX0_why 83 = .ok (.aload_n 0, 1) := by decide +kernel
theorem dX0_why_84 : decode cX0_why 84 = .ok (.iload_n 2, 1) := by decide +kernel
theorem dX0_why_85 : decode cX0_why 85 = .ok (.iload 5, 2) := by decide +kernel
theorem dX0_why_87 : decode cX0_why 87 = .ok (.invokevirtual 114, 3) := by decide +kernel
theorem dX0_why_90 : decode cX0_why 90 = .ok (.ireturn, 1) := by decide +kernel
theorem dX0_why_91 : decode cX0_why 91 = .ok (.aload_n 0, 1) := by decide +kernel
theorem dX0_why_92 : decode cX0_why 92 = .ok (.iload_n 2, 1) := by decide +kernel
theorem dX0_why_93 : decode cX0_why 93 = .ok (.iload 5, 2) := by decide +kernel
theorem dX0_why_95 : decode cX0_why 95 = .ok (.invokevirtual 107, 3) := by decide +kernel
theorem dX0_why_98 : decode cX0_why 98 = .ok (.ireturn, 1) := by decide +kernel
theorem dX0_why_99 : decode cX0_why 99 = .ok (.ldc 117, 2) := by decide +kernel
theorem dX0_why_101 : decode cX0_why 101 = .ok (.ireturn, 1) := by decide +kernel
theorem dX0_isThing_0 : decode cX0_isThing 0 = .ok (.iload_n 1, 1) := by decide +kernel
theorem dX0_isThing_1 : decode cX0_isThing 1 = .ok (.ifCond .lt 15, 3) := by decide +kernel
theorem dX0_isThing_4 : decode cX0_isThing 4 = .ok (.iload_n 1, 1) := by decide +kernel
theorem dX0_isThing_5 : decode cX0_isThing 5 = .ok (.aload_n 0, 1) := by decide +kernel
theorem dX0_isThing_6 : decode cX0_isThing 6 = .ok (.getfield 53, 3) := by decide +kernel
theorem dX0_isThing_9 : decode cX0_isThing 9 = .ok (.if_icmp .ge 7, 3) := by decide +kernel
theorem dX0_isThing_12 : decode cX0_isThing 12 = .ok (.iconst 1, 1) := by decide +kernel
theorem dX0_isThing_13 : decode cX0_isThing 13 = .ok (.goto 4, 3) := by decide +kernel
theorem dX0_isThing_16 : decode cX0_isThing 16 = .ok (.iconst 0, 1) := by decide +kernel
theorem dX0_isThing_17 : decode cX0_isThing 17 = .ok (.ireturn, 1) := by decide +kernel
theorem dX0_areTwoThings_0 : decode cX0_areTwoThings 0 = .ok (.aload_n 0, 1) := by decide +kernel
theorem dX0_areTwoThings_1 : decode cX0_areTwoThings 1 = .ok (.iload_n 1, 1) := by decide +kernel
theorem dX0_areTwoThings_2 : decode cX0_areTwoThings 2 = .ok (.invokevirtual 63, 3) := by decide +kernel
theorem dX0_areTwoThings_5 : decode cX0_areTwoThings 5 = .ok (.ifCond .eq 20, 3) := by decide +kernel
theorem dX0_areTwoThings_8 : decode cX0_areTwoThings 8 = .ok (.aload_n 0, 1) := by decide +kernel
theorem dX0_areTwoThings_9 : decode cX0_areTwoThings 9 = .ok (.iload_n 2, 1) := by decide +kernel
theorem dX0_areTwoThings_10 : decode cX0_areTwoThings 10 = .ok (.invokevirtual 63, 3) := by decide +kernel
theorem dX0_areTwoThings_13 : decode cX0_areTwoThings 13 = .ok (.ifCond .eq 12, 3) := by decide +kernel
theorem dX0_areTwoThings_16 : decode cX0_areTwoThings 16 = .ok (.iload_n 1, 1) := by decide +kernel
theorem dX0_areTwoThings_17 : decode cX0_areTwoThings 17 = .ok (.iload_n 2, 1) := by decide +kernel
theorem dX0_areTwoThings_18 : decode cX0_areTwoThings 18 = .ok (.if_icmp .eq 7, 3) := by decide +kernel
theorem dX0_areTwoThings_21 : decode cX0_areTwoThings 21 = .ok (.iconst 1, 1) := by decide +kernel
theorem dX0_areTwoThings_22 : decode cX0_areTwoThings 22 = .ok (.goto 4, 3) := by decide +kernel
theorem dX0_areTwoThings_25 : decode cX0_areTwoThings 25 = .ok (.iconst 0, 1) := by decide +kernel
theorem dX0_areTwoThings_26 : decode cX0_areTwoThings 26 = .ok (.ireturn, 1) := by decide +kernel
theorem dX0_isSetOfThings_0 : decode cX0_isSetOfThings 0 = .ok (.iload_n 1, 1) := by decide +kernel
theorem dX0_isSetOfThings_1 : decode cX0_isSetOfThings 1 = .ok (.aload_n 0, 1) := by decide +kernel
theorem dX0_isSetOfThings_2 : decode cX0_isSetOfThings 2 = .ok (.invokevirtual 97, 3) := by decide +kernel
theorem dX0_isSetOfThings_5 : decode cX0_isSetOfThings 5 = .ok (.iconst (-1), 1) := by decide +kernel
theorem dX0_isSetOfThings_6 : decode cX0_isSetOfThings 6 = .ok (.ixor, 1) := by decide +kernel
theorem dX0_isSetOfThings_7 : decode cX0_isSetOfThings 7 = .ok (.iand, 1) := by decide +kernel
theorem dX0_isSetOfThings_8 : decode cX0_isSetOfThings 8 = .ok (.ifCond .ne 7, 3) := by decide +kernel
theorem dX0_isSetOfThings_11 : decode cX0_isSetOfThings 11 = .ok (.iconst 1, 1) := by decide +kernel
theorem dX0_isSetOfThings_12 : decode cX0_isSetOfThings 12 = .ok (.goto 4, 3) := by decide +kernel
theorem dX0_isSetOfThings_15 : decode cX0_isSetOfThings 15 = .ok (.iconst 0, 1) := by decide +kernel
theorem dX0_isSetOfThings_16 : decode cX0_isSetOfThings 16 = .ok (.ireturn, 1) := by decide +kernel
theorem dX0_isBasket_0 : decode cX0_isBasket 0 = .ok (.iload_n 1, 1) := by decide +kernel
theorem dX0_isBasket_1 : decode cX0_isBasket 1 = .ok (.ifCond .lt 15, 3) := by decide +kernel
theorem dX0_isBasket_4 : decode cX0_isBasket 4 = .ok (.iload_n 1, 1) := by decide +kernel
theorem dX0_isBasket_5 : decode cX0_isBasket 5 = .ok (.aload_n 0, 1) := by decide +kernel
theorem dX0_isBasket_6 : decode cX0_isBasket 6 = .ok (.getfield 83, 3) := by decide +kernel
theorem dX0_isBasket_9 : decode cX0_isBasket 9 = .ok (.if_icmp .ge 7, 3) := by decide +kernel
theorem dX0_isBasket_12 : decode cX0_isBasket 12 = .ok (.iconst 1, 1) := by decide +kernel
theorem dX0_isBasket_13 : decode cX0_isBasket 13 = .ok (.goto 4, 3) := by decide +kernel
theorem dX0_isBasket_16 : decode cX0_isBasket 16 = .ok (.iconst 0, 1) := by decide +kernel
theorem dX0_isBasket_17 : decode cX0_isBasket 17 = .ok (.ireturn, 1) := by decide +kernel
theorem dX0_canList_0 : decode cX0_canList 0 = .ok (.iload_n 1, 1) := by decide +kernel
theorem dX0_canList_1 : decode cX0_canList 1 = .ok (.invokestatic 77, 3) := by decide +kernel
theorem dX0_canList_4 : decode cX0_canList 4 = .ok (.ifCond .eq 17, 3) := by decide +kernel
theorem dX0_canList_7 : decode cX0_canList 7 = .ok (.iload_n 2, 1) := by decide +kernel
theorem dX0_canList_8 : decode cX0_canList 8 = .ok (.iconst 1, 1) := by decide +kernel
theorem dX0_canList_9 : decode cX0_canList 9 = .ok (.if_icmp .lt 12, 3) := by decide +kernel
theorem dX0_canList_12 : decode cX0_canList 12 = .ok (.iload_n 2, 1) := by decide +kernel
theorem dX0_canList_13 : decode cX0_canList 13 = .ok (.iconst 5, 1) := by decide +kernel
theorem dX0_canList_14 : decode cX0_canList 14 = .ok (.if_icmp .gt 7, 3) := by decide +kernel
theorem dX0_canList_17 : decode cX0_canList 17 = .ok (.iconst 1, 1) := by decide +kernel
theorem dX0_canList_18 : decode cX0_canList 18 = .ok (.goto 4, 3) := by decide +kernel
theorem dX0_canList_21 : decode cX0_canList 21 = .ok (.iconst 0, 1) := by decide +kernel
theorem dX0_canList_22 : decode cX0_canList 22 = .ok (.ireturn, 1) := by decide +kernel
theorem dX0_isPerson_0 : decode cX0_isPerson 0 = .ok (.iload_n 0, 1) := by decide +kernel
theorem dX0_isPerson_1 : decode cX0_isPerson 1 = .ok (.ifCond .lt 13, 3) := by decide +kernel
theorem dX0_isPerson_4 : decode cX0_isPerson 4 = .ok (.iload_n 0, 1) := by decide +kernel
theorem dX0_isPerson_5 : decode cX0_isPerson 5 = .ok (.bipush 8, 2) := by decide +kernel
theorem dX0_isPerson_7 : decode cX0_isPerson 7 = .ok (.if_icmp .ge 7, 3) := by decide +kernel
theorem dX0_isPerson_10 : decode cX0_isPerson 10 = .ok (.iconst 1, 1) := by decide +kernel
theorem dX0_isPerson_11 : decode cX0_isPerson 11 = .ok (.goto 4, 3) := by decide +kernel
theorem dX0_isPerson_14 : decode cX0_isPerson 14 = .ok (.iconst 0, 1) := by decide +kernel
theorem dX0_isPerson_15 : decode cX0_isPerson 15 = .ok (.ireturn, 1) := by decide +kernel
theorem dX0_has_0 : decode cX0_has 0 = .ok (.iload_n 0, 1) := by decide +kernel
theorem dX0_has_1 : decode cX0_has 1 = .ok (.iload_n 1, 1) := by decide +kernel
theorem dX0_has_2 : decode cX0_has 2 = .ok (.ishr, 1) := by decide +kernel
theorem dX0_has_3 : decode cX0_has 3 = .ok (.iconst 1, 1) := by decide +kernel
theorem dX0_has_4 : decode cX0_has 4 = .ok (.iand, 1) := by decide +kernel
theorem dX0_has_5 : decode cX0_has 5 = .ok (.iconst 1, 1) := by decide +kernel
theorem dX0_has_6 : decode cX0_has 6 = .ok (.if_icmp .ne 7, 3) := by decide +kernel
theorem dX0_has_9 : decode cX0_has 9 = .ok (.iconst 1, 1) := by decide +kernel
theorem dX0_has_10 : decode cX0_has 10 = .ok (.goto 4, 3) := by decide +kernel
theorem dX0_has_13 : decode cX0_has 13 = .ok (.iconst 0, 1) := by decide +kernel
theorem dX0_has_14 : decode cX0_has 14 = .ok (.ireturn, 1) := by decide +kernel
theorem dX0_allThings_0 : decode cX0_allThings 0 = .ok (.iconst 1, 1) := by decide +kernel
theorem dX0_allThings_1 : decode cX0_allThings 1 = .ok (.aload_n 0, 1) := by decide +kernel
theorem dX0_allThings_2 : decode cX0_allThings 2 = .ok (.getfield 53, 3) := by decide +kernel
theorem dX0_allThings_5 : decode cX0_allThings 5 = .ok (.ishl, 1) := by decide +kernel
theorem dX0_allThings_6 : decode cX0_allThings 6 = .ok (.iconst 1, 1) := by decide +kernel
theorem dX0_allThings_7 : decode cX0_allThings 7 = .ok (.isub, 1) := by decide +kernel
theorem dX0_allThings_8 : decode cX0_allThings 8 = .ok (.ireturn, 1) := by decide +kernel
theorem dX0_newThings_0 : decode cX0_newThings 0 = .ok (.iconst 0, 1) := by decide +kernel
theorem dX0_newThings_1 : decode cX0_newThings 1 = .ok (.istore_n 1, 1) := by decide +kernel
theorem dX0_newThings_2 : decode cX0_newThings 2 = .ok (.iconst 0, 1) := by decide +kernel
theorem dX0_newThings_3 : decode cX0_newThings 3 = .ok (.istore_n 2, 1) := by decide +kernel
theorem dX0_newThings_4 : decode cX0_newThings 4 = .ok (.iload_n 2, 1) := by decide +kernel
theorem dX0_newThings_5 : decode cX0_newThings 5 = .ok (.aload_n 0, 1) := by decide +kernel
theorem dX0_newThings_6 : decode cX0_newThings 6 = .ok (.getfield 53, 3) := by decide +kernel
theorem dX0_newThings_9 : decode cX0_newThings 9 = .ok (.if_icmp .ge 31, 3) := by decide +kernel
theorem dX0_newThings_12 : decode cX0_newThings 12 = .ok (.aload_n 0, 1) := by decide +kernel
theorem dX0_newThings_13 : decode cX0_newThings 13 = .ok (.getfield 57, 3) := by decide +kernel
theorem dX0_newThings_16 : decode cX0_newThings 16 = .ok (.aload_n 0, 1) := by decide +kernel
theorem dX0_newThings_17 : decode cX0_newThings 17 = .ok (.getfield 21, 3) := by decide +kernel
theorem dX0_newThings_20 : decode cX0_newThings 20 = .ok (.iload_n 2, 1) := by decide +kernel
theorem dX0_newThings_21 : decode cX0_newThings 21 = .ok (.iaload, 1) := by decide +kernel
theorem dX0_newThings_22 : decode cX0_newThings 22 = .ok (.isub, 1) := by decide +kernel
theorem dX0_newThings_23 : decode cX0_newThings 23 = .ok (.bipush 10, 2) := by decide +kernel
theorem dX0_newThings_25 : decode cX0_newThings 25 = .ok (.if_icmp .ge 9, 3) := by decide +kernel
theorem dX0_newThings_28 : decode cX0_newThings 28 = .ok (.iload_n 1, 1) := by decide +kernel
theorem dX0_newThings_29 : decode cX0_newThings 29 = .ok (.iconst 1, 1) := by decide +kernel
theorem dX0_newThings_30 : decode cX0_newThings 30 = .ok (.iload_n 2, 1) := by decide +kernel
theorem dX0_newThings_31 : decode cX0_newThings 31 = .ok (.ishl, 1) := by decide +kernel
theorem dX0_newThings_32 : decode cX0_newThings 32 = .ok (.ior, 1) := by decide +kernel
theorem dX0_newThings_33 : decode cX0_newThings 33 = .ok (.istore_n 1, 1) := by decide +kernel
theorem dX0_newThings_34 : decode cX0_newThings 34 = .ok (.iinc 2 1, 3) := by decide +kernel
theorem dX0_newThings_37 : decode cX0_newThings 37 = .ok (.goto (-33), 3) := by decide +kernel
theorem dX0_newThings_40 : decode cX0_newThings 40 = .ok (.iload_n 1, 1) := by decide +kernel
theorem dX0_newThings_41 : decode cX0_newThings 41 = .ok (.ireturn, 1) := by decide +kernel
theorem dX0_removeBasket_0 : decode cX0_removeBasket 0 = .ok (.aload_n 0, 1) := by decide +kernel
theorem dX0_removeBasket_1 : decode cX0_removeBasket 1 = .ok (.dup, 1) := by decide +kernel
theorem dX0_removeBasket_2 : decode cX0_removeBasket 2 = .ok (.getfield 83, 3) := by decide +kernel
theorem dX0_removeBasket_5 : decode cX0_removeBasket 5 = .ok (.iconst 1, 1) := by decide +kernel
theorem dX0_removeBasket_6 : decode cX0_removeBasket 6 = .ok (.isub, 1) := by decide +kernel
theorem dX0_removeBasket_7 : decode cX0_removeBasket 7 = .ok (.putfield 83, 3) := by decide +kernel
theorem dX0_removeBasket_10 : decode cX0_removeBasket 10 = .ok (.iload_n 1, 1) := by decide +kernel
theorem dX0_removeBasket_11 : decode cX0_removeBasket 11 = .ok (.istore_n 2, 1) := by decide +kernel
theorem dX0_removeBasket_12 : decode cX0_removeBasket 12 = .ok (.iload_n 2, 1) := by decide +kernel
theorem dX0_removeBasket_13 : decode cX0_removeBasket 13 = .ok (.aload_n 0, 1) := by decide +kernel
theorem dX0_removeBasket_14 : decode cX0_removeBasket 14 = .ok (.getfield 83, 3) := by decide +kernel
theorem dX0_removeBasket_17 : decode cX0_removeBasket 17 = .ok (.if_icmp .ge 51, 3) := by decide +kernel
theorem dX0_removeBasket_20 : decode cX0_removeBasket 20 = .ok (.aload_n 0, 1) := by decide +kernel
theorem dX0_removeBasket_21 : decode cX0_removeBasket 21 = .ok (.getfield 30, 3) := by decide +kernel
theorem dX0_removeBasket_24 : decode cX0_removeBasket 24 = .ok (.iload_n 2, 1) := by decide +kernel
theorem dX0_removeBasket_25 : decode cX0_removeBasket 25 = .ok (.aload_n 0, 1) := by decide +kernel
theorem dX0_removeBasket_26 : decode cX0_removeBasket 26 = .ok (.getfield 30, 3) := by decide +kernel
theorem dX0_removeBasket_29 : decode cX0_removeBasket 29 = .ok (.iload_n 2, 1) := by decide +kernel
theorem dX0_removeBasket_30 : decode cX0_removeBasket 30 = .ok (.iconst 1, 1) := by decide +kernel
theorem dX0_removeBasket_31 : decode cX0_removeBasket 31 = .ok (.iadd, 1) := by decide +kernel
theorem dX0_removeBasket_32 : decode cX0_removeBasket 32 = .ok (.iaload, 1) := by decide +kernel
theorem dX0_removeBasket_33 : decode cX0_removeBasket 33 = .ok (.iastore, 1) := by decide +kernel
theorem dX0_removeBasket_34 : decode cX0_removeBasket 34 = .ok (.aload_n 0, 1) := by decide +kernel
theorem dX0_removeBasket_35 : decode cX0_removeBasket 35 = .ok (.getfield 33, 3) := by decide +kernel
theorem dX0_removeBasket_38 : decode cX0_removeBasket 38 = .ok (.iload_n 2, 1) := by decide +kernel
theorem dX0_removeBasket_39 : decode cX0_removeBasket 39 = .ok (.aload_n 0, 1) := by decide +kernel
theorem dX0_removeBasket_40 : decode cX0_removeBasket 40 = .ok (.getfield 33, 3) := by decide +kernel
theorem dX0_removeBasket_43 : decode cX0_removeBasket 43 = .ok (.iload_n 2, 1) := by decide +kernel
theorem dX0_removeBasket_44 : decode cX0_removeBasket 44 = .ok (.iconst 1, 1) := by decide +kernel
theorem dX0_removeBasket_45 : decode cX0_removeBasket 45 = .ok (.iadd, 1) := by decide +kernel
theorem dX0_removeBasket_46 : decode cX0_removeBasket 46 = .ok (.iaload, 1) := by decide +kernel
theorem dX0_removeBasket_47 : decode cX0_removeBasket 47 = .ok (.iastore, 1) := by decide +kernel
theorem dX0_removeBasket_48 : decode cX0_removeBasket 48 = .ok (.aload_n 0, 1) := by decide +kernel
theorem dX0_removeBasket_49 : decode cX0_removeBasket 49 = .ok (.getfield 36, 3) := by decide +kernel
theorem dX0_removeBasket_52 : decode cX0_removeBasket 52 = .ok (.iload_n 2, 1) := by decide +kernel
theorem dX0_removeBasket_53 : decode cX0_removeBasket 53 = .ok (.aload_n 0, 1) := by decide +kernel
theorem dX0_removeBasket_54 : decode cX0_removeBasket 54 = .ok (.getfield 36, 3) := by decide +kernel
theorem dX0_removeBasket_57 : decode cX0_removeBasket 57 = .ok (.iload_n 2, 1) := by decide +kernel
theorem dX0_removeBasket_58 : decode cX0_removeBasket 58 = .ok (.iconst 1, 1) := by decide +kernel
theorem dX0_removeBasket_59 : decode cX0_removeBasket 59 = .ok (.iadd, 1) := by decide +kernel
theorem dX0_removeBasket_60 : decode cX0_removeBasket 60 = .ok (.iaload, 1) := by decide +kernel
theorem dX0_removeBasket_61 : decode cX0_removeBasket 61 = .ok (.iastore, 1) := by decide +kernel
theorem dX0_removeBasket_62 : decode cX0_removeBasket 62 = .ok (.iinc 2 1, 3) := by decide +kernel
theorem dX0_removeBasket_65 : decode cX0_removeBasket 65 = .ok (.goto (-53), 3) := by decide +kernel
theorem dX0_removeBasket_68 : decode cX0_removeBasket 68 = .ok (.return_, 1) := by decide +kernel
theorem dX0_removeOldBaskets_0 : decode cX0_removeOldBaskets 0 = .ok (.aload_n 0, 1) := by decide +kernel
theorem dX0_removeOldBaskets_1 : decode cX0_removeOldBaskets 1 = .ok (.getfield 83, 3) := by decide +kernel
theorem dX0_removeOldBaskets_4 : decode cX0_removeOldBaskets 4 = .ok (.iconst 1, 1) := by decide +kernel
theorem dX0_removeOldBaskets_5 : decode cX0_removeOldBaskets 5 = .ok (.isub, 1) := by decide +kernel
theorem dX0_removeOldBaskets_6 : decode cX0_removeOldBaskets 6 = .ok (.istore_n 1, 1) := by decide +kernel
theorem dX0_removeOldBaskets_7 : decode cX0_removeOldBaskets 7 = .ok (.iload_n 1, 1) := by decide +kernel
theorem dX0_removeOldBaskets_8 : decode cX0_removeOldBaskets 8 = .ok (.ifCond .lt 30, 3) := by decide +kernel
theorem dX0_removeOldBaskets_11 : decode cX0_removeOldBaskets 11 = .ok (.aload_n 0, 1) := by decide +kernel
theorem dX0_removeOldBaskets_12 : decode cX0_removeOldBaskets 12 = .ok (.getfield 57, 3) := by decide +kernel
theorem dX0_removeOldBaskets_15 : decode cX0_removeOldBaskets 15 = .ok (.aload_n 0, 1) := by decide +kernel
theorem dX0_removeOldBaskets_16 : decode cX0_removeOldBaskets 16 = .ok (.getfield 33, 3) := by decide +kernel
theorem dX0_removeOldBaskets_19 : decode cX0_removeOldBaskets 19 = .ok (.iload_n 1, 1) := by decide +kernel
theorem dX0_removeOldBaskets_20 : decode cX0_removeOldBaskets 20 = .ok (.iaload, 1) := by decide +kernel
theorem dX0_removeOldBaskets_21 : decode cX0_removeOldBaskets 21 = .ok (.isub, 1) := by decide +kernel
theorem dX0_removeOldBaskets_22 : decode cX0_removeOldBaskets 22 = .ok (.bipush 28, 2) := by decide +kernel
theorem dX0_removeOldBaskets_24 : decode cX0_removeOldBaskets 24 = .ok (.if_icmp .lt 8, 3) := by decide +kernel
theorem dX0_removeOldBaskets_27 : decode cX0_removeOldBaskets 27 = .ok (.aload_n 0, 1) := by decide +kernel
theorem dX0_removeOldBaskets_28 : decode cX0_removeOldBaskets 28 = .ok (.iload_n 1, 1) := by decide +kernel
theorem dX0_removeOldBaskets_29 : decode cX0_removeOldBaskets 29 = .ok (.invokevirtual 93, 3) := by decide +kernel
theorem dX0_removeOldBaskets_32 : decode cX0_removeOldBaskets 32 = .ok (.iinc 1 (-1), 3) := by decide +kernel
theorem dX0_removeOldBaskets_35 : decode cX0_removeOldBaskets 35 = .ok (.goto (-28), 3) := by decide +kernel
theorem dX0_removeOldBaskets_38 : decode cX0_removeOldBaskets 38 = .ok (.return_, 1) := by decide +kernel
theorem dX0_basketsWith_0 : decode cX0_basketsWith 0 = .ok (.iconst 1, 1) := by decide +kernel
theorem dX0_basketsWith_1 : decode cX0_basketsWith 1 = .ok (.iload_n 1, 1) := by decide +kernel
theorem dX0_basketsWith_2 : decode cX0_basketsWith 2 = .ok (.ishl, 1) := by decide +kernel
theorem dX0_basketsWith_3 : decode cX0_basketsWith 3 = .ok (.iconst 1, 1) := by decide +kernel
theorem dX0_basketsWith_4 : decode cX0_basketsWith 4 = .ok (.iload_n 2, 1) := by decide +kernel
theorem dX0_basketsWith_5 : decode cX0_basketsWith 5 = .ok (.ishl, 1) := by decide +kernel
theorem dX0_basketsWith_6 : decode cX0_basketsWith 6 = .ok (.ior, 1) := by decide +kernel
theorem dX0_basketsWith_7 : decode cX0_basketsWith 7 = .ok (.istore_n 3, 1) := by decide +kernel
theorem dX0_basketsWith_8 : decode cX0_basketsWith 8 = .ok (.iconst 0, 1) := by decide +kernel
theorem dX0_basketsWith_9 : decode cX0_basketsWith 9 = .ok (.istore 4, 2) := by decide +kernel
theorem dX0_basketsWith_11 : decode cX0_basketsWith 11 = .ok (.iconst 0, 1) := by decide +kernel
theorem dX0_basketsWith_12 : decode cX0_basketsWith 12 = .ok (.istore 5, 2) := by decide +kernel
theorem dX0_basketsWith_14 : decode cX0_basketsWith 14 = .ok (.iload 5, 2) := by decide +kernel
theorem dX0_basketsWith_16 : decode cX0_basketsWith 16 = .ok (.aload_n 0, 1) := by decide +kernel
theorem dX0_basketsWith_17 : decode cX0_basketsWith 17 = .ok (.getfield 83, 3) := by decide +kernel
theorem dX0_basketsWith_20 : decode cX0_basketsWith 20 = .ok (.if_icmp .ge 25, 3) := by decide +kernel
theorem dX0_basketsWith_23 : decode cX0_basketsWith 23 = .ok (.aload_n 0, 1) := by decide +kernel
theorem dX0_basketsWith_24 : decode cX0_basketsWith 24 = .ok (.getfield 36, 3) := by decide +kernel
theorem dX0_basketsWith_27 : decode cX0_basketsWith 27 = .ok (.iload 5, 2) := by decide +kernel
theorem dX0_basketsWith_29 : decode cX0_basketsWith 29 = .ok (.iaload, 1) := by decide +kernel
theorem dX0_basketsWith_30 : decode cX0_basketsWith 30 = .ok (.iload_n 3, 1) := by decide +kernel
theorem dX0_basketsWith_31 : decode cX0_basketsWith 31 = .ok (.iand, 1) := by decide +kernel
theorem dX0_basketsWith_32 : decode cX0_basketsWith 32 = .ok (.iload_n 3, 1) := by decide +kernel
theorem dX0_basketsWith_33 : decode cX0_basketsWith 33 = .ok (.if_icmp .ne 6, 3) := by decide +kernel
theorem dX0_basketsWith_36 : decode cX0_basketsWith 36 = .ok (.iinc 4 1, 3) := by decide +kernel
theorem dX0_basketsWith_39 : decode cX0_basketsWith 39 = .ok (.iinc 5 1, 3) := by decide +kernel
theorem dX0_basketsWith_42 : decode cX0_basketsWith 42 = .ok (.goto (-28), 3) := by decide +kernel
theorem dX0_basketsWith_45 : decode cX0_basketsWith 45 = .ok (.iload 4, 2) := by decide +kernel
theorem dX0_basketsWith_47 : decode cX0_basketsWith 47 = .ok (.ireturn, 1) := by decide +kernel
theorem dX0_peopleWith_0 : decode cX0_peopleWith 0 = .ok (.iconst 1, 1) := by decide +kernel
theorem dX0_peopleWith_1 : decode cX0_peopleWith 1 = .ok (.iload_n 1, 1) := by decide +kernel
theorem dX0_peopleWith_2 : decode cX0_peopleWith 2 = .ok (.ishl, 1) := by decide +kernel
theorem dX0_peopleWith_3 : decode cX0_peopleWith 3 = .ok (.iconst 1, 1) := by decide +kernel
theorem dX0_peopleWith_4 : decode cX0_peopleWith 4 = .ok (.iload_n 2, 1) := by decide +kernel
theorem dX0_peopleWith_5 : decode cX0_peopleWith 5 = .ok (.ishl, 1) := by decide +kernel
theorem dX0_peopleWith_6 : decode cX0_peopleWith 6 = .ok (.ior, 1) := by decide +kernel
theorem dX0_peopleWith_7 : decode cX0_peopleWith 7 = .ok (.istore_n 3, 1) := by decide +kernel
theorem dX0_peopleWith_8 : decode cX0_peopleWith 8 = .ok (.iconst 0, 1) := by decide +kernel
theorem dX0_peopleWith_9 : decode cX0_peopleWith 9 = .ok (.istore 4, 2) := by decide +kernel
theorem dX0_peopleWith_11 : decode cX0_peopleWith 11 = .ok (.iconst 0, 1) := by decide +kernel
theorem dX0_peopleWith_12 : decode cX0_peopleWith 12 = .ok (.istore 5, 2) := by decide +kernel
theorem dX0_peopleWith_14 : decode cX0_peopleWith 14 = .ok (.iload 5, 2) := by decide +kernel
theorem dX0_peopleWith_16 : decode cX0_peopleWith 16 = .ok (.aload_n 0, 1) := by decide +kernel
theorem dX0_peopleWith_17 : decode cX0_peopleWith 17 = .ok (.getfield 83, 3) := by decide +kernel
theorem dX0_peopleWith_20 : decode cX0_peopleWith 20 = .ok (.if_icmp .ge 36, 3) := by decide +kernel
theorem dX0_peopleWith_23 : decode cX0_peopleWith 23 = .ok (.aload_n 0, 1) := by decide +kernel
theorem dX0_peopleWith_24 : decode cX0_peopleWith 24 = .ok (.getfield 36, 3) := by decide +kernel
theorem dX0_peopleWith_27 : decode cX0_peopleWith 27 = .ok (.iload 5, 2) := by decide +kernel
theorem dX0_peopleWith_29 : decode cX0_peopleWith 29 = .ok (.iaload, 1) := by decide +kernel
theorem dX0_peopleWith_30 : decode cX0_peopleWith 30 = .ok (.iload_n 3, 1) := by decide +kernel
theorem dX0_peopleWith_31 : decode cX0_peopleWith 31 = .ok (.iand, 1) := by decide +kernel
theorem dX0_peopleWith_32 : decode cX0_peopleWith 32 = .ok (.iload_n 3, 1) := by decide +kernel
theorem dX0_peopleWith_33 : decode cX0_peopleWith 33 = .ok (.if_icmp .ne 17, 3) := by decide +kernel
theorem dX0_peopleWith_36 : decode cX0_peopleWith 36 = .ok (.iload 4, 2) := by decide +kernel
theorem dX0_peopleWith_38 : decode cX0_peopleWith 38 = .ok (.iconst 1, 1) := by decide +kernel
theorem dX0_peopleWith_39 : decode cX0_peopleWith 39 = .ok (.aload_n 0, 1) := by decide +kernel
theorem dX0_peopleWith_40 : decode cX0_peopleWith 40 = .ok (.getfield 30, 3) := by decide +kernel
theorem dX0_peopleWith_43 : decode cX0_peopleWith 43 = .ok (.iload 5, 2) := by decide +kernel
theorem dX0_peopleWith_45 : decode cX0_peopleWith 45 = .ok (.iaload, 1) := by decide +kernel
theorem dX0_peopleWith_46 : decode cX0_peopleWith 46 = .ok (.ishl, 1) := by decide +kernel
theorem dX0_peopleWith_47 : decode cX0_peopleWith 47 = .ok (.ior, 1) := by decide +kernel
theorem dX0_peopleWith_48 : decode cX0_peopleWith 48 = .ok (.istore 4, 2) := by decide +kernel
theorem dX0_peopleWith_50 : decode cX0_peopleWith 50 = .ok (.iinc 5 1, 3) := by decide +kernel
theorem dX0_peopleWith_53 : decode cX0_peopleWith 53 = .ok (.goto (-39), 3) := by decide +kernel
theorem dX0_peopleWith_56 : decode cX0_peopleWith 56 = .ok (.iload 4, 2) := by decide +kernel
theorem dX0_peopleWith_58 : decode cX0_peopleWith 58 = .ok (.invokestatic 149, 3) := by decide +kernel
theorem dX0_peopleWith_61 : decode cX0_peopleWith 61 = .ok (.ireturn, 1) := by decide +kernel
theorem dX0_kinOf_0 : decode cX0_kinOf 0 = .ok (.aload_n 0, 1) := by decide +kernel
theorem dX0_kinOf_1 : decode cX0_kinOf 1 = .ok (.iload_n 1, 1) := by decide +kernel
theorem dX0_kinOf_2 : decode cX0_kinOf 2 = .ok (.iload_n 2, 1) := by decide +kernel
theorem dX0_kinOf_3 : decode cX0_kinOf 3 = .ok (.invokevirtual 111, 3) := by decide +kernel
theorem dX0_kinOf_6 : decode cX0_kinOf 6 = .ok (.aload_n 0, 1) := by decide +kernel
theorem dX0_kinOf_7 : decode cX0_kinOf 7 = .ok (.getfield 18, 3) := by decide +kernel
theorem dX0_kinOf_10 : decode cX0_kinOf 10 = .ok (.iconst 0, 1) := by decide +kernel
theorem dX0_kinOf_11 : decode cX0_kinOf 11 = .ok (.iaload, 1) := by decide +kernel
theorem dX0_kinOf_12 : decode cX0_kinOf 12 = .ok (.if_icmp .ge 5, 3) := by decide +kernel
theorem dX0_kinOf_15 : decode cX0_kinOf 15 = .ok (.iconst 0, 1) := by decide +kernel
theorem dX0_kinOf_16 : decode cX0_kinOf 16 = .ok (.ireturn, 1) := by decide +kernel
theorem dX0_kinOf_17 : decode cX0_kinOf 17 = .ok (.aload_n 0, 1) := by decide +kernel
theorem dX0_kinOf_18 : decode cX0_kinOf 18 = .ok (.iload_n 1, 1) := by decide +kernel
theorem dX0_kinOf_19 : decode cX0_kinOf 19 = .ok (.iload_n 1, 1) := by decide +kernel
theorem dX0_kinOf_20 : decode cX0_kinOf 20 = .ok (.invokevirtual 107, 3) := by decide +kernel
theorem dX0_kinOf_23 : decode cX0_kinOf 23 = .ok (.aload_n 0, 1) := by decide +kernel
theorem dX0_kinOf_24 : decode cX0_kinOf 24 = .ok (.iload_n 2, 1) := by decide +kernel
theorem dX0_kinOf_25 : decode cX0_kinOf 25 = .ok (.iload_n 2, 1) := by decide +kernel
theorem dX0_kinOf_26 : decode cX0_kinOf 26 = .ok (.invokevirtual 107, 3) := by decide +kernel
theorem dX0_kinOf_29 : decode cX0_kinOf 29 = .ok (.imul, 1) := by decide +kernel
theorem dX0_kinOf_30 : decode cX0_kinOf 30 = .ok (.istore_n 3, 1) := by decide +kernel
theorem dX0_kinOf_31 : decode cX0_kinOf 31 = .ok (.iload_n 3, 1) := by decide +kernel
theorem dX0_kinOf_32 : decode cX0_kinOf 32 = .ok (.ifCond .ne 5, 3) := by decide +kernel
theorem dX0_kinOf_35 : decode cX0_kinOf 35 = .ok (.iconst 0, 1) := by decide +kernel
theorem dX0_kinOf_36 : decode cX0_kinOf 36 = .ok (.ireturn, 1) := by decide +kernel
theorem dX0_kinOf_37 : decode cX0_kinOf 37 = .ok (.sipush 1000, 3) := by decide +kernel
theorem dX0_kinOf_40 : decode cX0_kinOf 40 = .ok (.aload_n 0, 1) := by decide +kernel
theorem dX0_kinOf_41 : decode cX0_kinOf 41 = .ok (.iload_n 1, 1) := by decide +kernel
theorem dX0_kinOf_42 : decode cX0_kinOf 42 = .ok (.iload_n 2, 1) := by decide +kernel
theorem dX0_kinOf_43 : decode cX0_kinOf 43 = .ok (.invokevirtual 107, 3) := by decide +kernel
theorem dX0_kinOf_46 : decode cX0_kinOf 46 = .ok (.imul, 1) := by decide +kernel
theorem dX0_kinOf_47 : decode cX0_kinOf 47 = .ok (.aload_n 0, 1) := by decide +kernel
theorem dX0_kinOf_48 : decode cX0_kinOf 48 = .ok (.getfield 83, 3) := by decide +kernel
theorem dX0_kinOf_51 : decode cX0_kinOf 51 = .ok (.imul, 1) := by decide +kernel
theorem dX0_kinOf_52 : decode cX0_kinOf 52 = .ok (.iload_n 3, 1) := by decide +kernel
theorem dX0_kinOf_53 : decode cX0_kinOf 53 = .ok (.idiv, 1) := by decide +kernel
theorem dX0_kinOf_54 : decode cX0_kinOf 54 = .ok (.sipush 1000, 3) := by decide +kernel
theorem dX0_kinOf_57 : decode cX0_kinOf 57 = .ok (.isub, 1) := by decide +kernel
theorem dX0_kinOf_58 : decode cX0_kinOf 58 = .ok (.ireturn, 1) := by decide +kernel
theorem dX0_takenBy_0 : decode cX0_takenBy 0 = .ok (.iconst 0, 1) := by decide +kernel
theorem dX0_takenBy_1 : decode cX0_takenBy 1 = .ok (.istore_n 2, 1) := by decide +kernel
theorem dX0_takenBy_2 : decode cX0_takenBy 2 = .ok (.iconst 0, 1) := by decide +kernel
theorem dX0_takenBy_3 : decode cX0_takenBy 3 = .ok (.istore_n 3, 1) := by decide +kernel
theorem dX0_takenBy_4 : decode cX0_takenBy 4 = .ok (.iload_n 3, 1) := by decide +kernel
theorem dX0_takenBy_5 : decode cX0_takenBy 5 = .ok (.aload_n 0, 1) := by decide +kernel
theorem dX0_takenBy_6 : decode cX0_takenBy 6 = .ok (.getfield 83, 3) := by decide +kernel
theorem dX0_takenBy_9 : decode cX0_takenBy 9 = .ok (.if_icmp .ge 28, 3) := by decide +kernel
theorem dX0_takenBy_12 : decode cX0_takenBy 12 = .ok (.aload_n 0, 1) := by decide +kernel
theorem dX0_takenBy_13 : decode cX0_takenBy 13 = .ok (.getfield 30, 3) := by decide +kernel
theorem dX0_takenBy_16 : decode cX0_takenBy 16 = .ok (.iload_n 3, 1) := by decide +kernel
theorem dX0_takenBy_17 : decode cX0_takenBy 17 = .ok (.iaload, 1) := by decide +kernel
theorem dX0_takenBy_18 : decode cX0_takenBy 18 = .ok (.iload_n 1, 1) := by decide +kernel
theorem dX0_takenBy_19 : decode cX0_takenBy 19 = .ok (.if_icmp .ne 12, 3) := by decide +kernel
theorem dX0_takenBy_22 : decode cX0_takenBy 22 = .ok (.iload_n 2, 1) := by decide +kernel
theorem dX0_takenBy_23 : decode cX0_takenBy 23 = .ok (.aload_n 0, 1) := by decide +kernel
theorem dX0_takenBy_24 : decode cX0_takenBy 24 = .ok (.getfield 36, 3) := by decide +kernel
theorem dX0_takenBy_27 : decode cX0_takenBy 27 = .ok (.iload_n 3, 1) := by decide +kernel
theorem dX0_takenBy_28 : decode cX0_takenBy 28 = .ok (.iaload, 1) := by decide +kernel
theorem dX0_takenBy_29 : decode cX0_takenBy 29 = .ok (.ior, 1) := by decide +kernel
theorem dX0_takenBy_30 : decode cX0_takenBy 30 = .ok (.istore_n 2, 1) := by decide +kernel
theorem dX0_takenBy_31 : decode cX0_takenBy 31 = .ok (.iinc 3 1, 3) := by decide +kernel
theorem dX0_takenBy_34 : decode cX0_takenBy 34 = .ok (.goto (-30), 3) := by decide +kernel
theorem dX0_takenBy_37 : decode cX0_takenBy 37 = .ok (.iload_n 2, 1) := by decide +kernel
theorem dX0_takenBy_38 : decode cX0_takenBy 38 = .ok (.ireturn, 1) := by decide +kernel
theorem dX0_scoreOf_0 : decode cX0_scoreOf 0 = .ok (.iconst 0, 1) := by decide +kernel
theorem dX0_scoreOf_1 : decode cX0_scoreOf 1 = .ok (.istore_n 3, 1) := by decide +kernel
theorem dX0_scoreOf_2 : decode cX0_scoreOf 2 = .ok (.iconst 0, 1) := by decide +kernel
theorem dX0_scoreOf_3 : decode cX0_scoreOf 3 = .ok (.istore 4, 2) := by decide +kernel
theorem dX0_scoreOf_5 : decode cX0_scoreOf 5 = .ok (.iload 4, 2) := by decide +kernel
theorem dX0_scoreOf_7 : decode cX0_scoreOf 7 = .ok (.aload_n 0, 1) := by decide +kernel
theorem dX0_scoreOf_8 : decode cX0_scoreOf 8 = .ok (.getfield 53, 3) := by decide +kernel
theorem dX0_scoreOf_11 : decode cX0_scoreOf 11 = .ok (.if_icmp .ge 34, 3) := by decide +kernel
theorem dX0_scoreOf_14 : decode cX0_scoreOf 14 = .ok (.iload 4, 2) := by decide +kernel
theorem dX0_scoreOf_16 : decode cX0_scoreOf 16 = .ok (.iload_n 2, 1) := by decide +kernel
theorem dX0_scoreOf_17 : decode cX0_scoreOf 17 = .ok (.if_icmp .eq 22, 3) := by decide +kernel
theorem dX0_scoreOf_20 : decode cX0_scoreOf 20 = .ok (.iload_n 1, 1) := by decide +kernel
theorem dX0_scoreOf_21 : decode cX0_scoreOf 21 = .ok (.iload 4, 2) := by decide +kernel
theorem dX0_scoreOf_23 : decode cX0_scoreOf 23 = .ok (.invokestatic 67, 3) := by decide +kernel
theorem dX0_scoreOf_26 : decode cX0_scoreOf 26 = .ok (.ifCond .eq 13, 3) := by decide +kernel
theorem dX0_scoreOf_29 : decode cX0_scoreOf 29 = .ok (.iload_n 3, 1) := by decide +kernel
theorem dX0_scoreOf_30 : decode cX0_scoreOf 30 = .ok (.aload_n 0, 1) := by decide +kernel
theorem dX0_scoreOf_31 : decode cX0_scoreOf 31 = .ok (.iload_n 2, 1) := by decide +kernel
theorem dX0_scoreOf_32 : decode cX0_scoreOf 32 = .ok (.iload 4, 2) := by decide +kernel
theorem dX0_scoreOf_34 : decode cX0_scoreOf 34 = .ok (.invokevirtual 114, 3) := by decide +kernel
theorem dX0_scoreOf_37 : decode cX0_scoreOf 37 = .ok (.iadd, 1) := by decide +kernel
theorem dX0_scoreOf_38 : decode cX0_scoreOf 38 = .ok (.istore_n 3, 1) := by decide +kernel
theorem dX0_scoreOf_39 : decode cX0_scoreOf 39 = .ok (.iinc 4 1, 3) := by decide +kernel
theorem dX0_scoreOf_42 : decode cX0_scoreOf 42 = .ok (.goto (-37), 3) := by decide +kernel
theorem dX0_scoreOf_45 : decode cX0_scoreOf 45 = .ok (.iload_n 3, 1) := by decide +kernel
theorem dX0_scoreOf_46 : decode cX0_scoreOf 46 = .ok (.ireturn, 1) := by decide +kernel
theorem dX0_writeKin_0 : decode cX0_writeKin 0 = .ok (.iconst 0, 1) := by decide +kernel
theorem dX0_writeKin_1 : decode cX0_writeKin 1 = .ok (.istore_n 3, 1) := by decide +kernel
theorem dX0_writeKin_2 : decode cX0_writeKin 2 = .ok (.iload_n 3, 1) := by decide +kernel
theorem dX0_writeKin_3 : decode cX0_writeKin 3 = .ok (.aload_n 0, 1) := by decide +kernel
theorem dX0_writeKin_4 : decode cX0_writeKin 4 = .ok (.getfield 53, 3) := by decide +kernel
theorem dX0_writeKin_7 : decode cX0_writeKin 7 = .ok (.if_icmp .ge 29, 3) := by decide +kernel
theorem dX0_writeKin_10 : decode cX0_writeKin 10 = .ok (.iload_n 2, 1) := by decide +kernel
theorem dX0_writeKin_11 : decode cX0_writeKin 11 = .ok (.iload_n 3, 1) := by decide +kernel
theorem dX0_writeKin_12 : decode cX0_writeKin 12 = .ok (.invokestatic 67, 3) := by decide +kernel
theorem dX0_writeKin_15 : decode cX0_writeKin 15 = .ok (.ifCond .eq 15, 3) := by decide +kernel
theorem dX0_writeKin_18 : decode cX0_writeKin 18 = .ok (.aload_n 0, 1) := by decide +kernel
theorem dX0_writeKin_19 : decode cX0_writeKin 19 = .ok (.getfield 50, 3) := by decide +kernel
theorem dX0_writeKin_22 : decode cX0_writeKin 22 = .ok (.iload_n 3, 1) := by decide +kernel
theorem dX0_writeKin_23 : decode cX0_writeKin 23 = .ok (.aload_n 0, 1) := by decide +kernel
theorem dX0_writeKin_24 : decode cX0_writeKin 24 = .ok (.iload_n 1, 1) := by decide +kernel
theorem dX0_writeKin_25 : decode cX0_writeKin 25 = .ok (.iload_n 3, 1) := by decide +kernel
theorem dX0_writeKin_26 : decode cX0_writeKin 26 = .ok (.invokevirtual 114, 3) := by decide +kernel
theorem dX0_writeKin_29 : decode cX0_writeKin 29 = .ok (.iastore, 1) := by decide +kernel
theorem dX0_writeKin_30 : decode cX0_writeKin 30 = .ok (.iinc 3 1, 3) := by decide +kernel
theorem dX0_writeKin_33 : decode cX0_writeKin 33 = .ok (.goto (-31), 3) := by decide +kernel
theorem dX0_writeKin_36 : decode cX0_writeKin 36 = .ok (.return_, 1) := by decide +kernel
theorem dX0_writeScores_0 : decode cX0_writeScores 0 = .ok (.aload_n 0, 1) := by decide +kernel
theorem dX0_writeScores_1 : decode cX0_writeScores 1 = .ok (.iload_n 1, 1) := by decide +kernel
theorem dX0_writeScores_2 : decode cX0_writeScores 2 = .ok (.invokevirtual 125, 3) := by decide +kernel
theorem dX0_writeScores_5 : decode cX0_writeScores 5 = .ok (.istore_n 3, 1) := by decide +kernel
theorem dX0_writeScores_6 : decode cX0_writeScores 6 = .ok (.iconst 0, 1) := by decide +kernel
theorem dX0_writeScores_7 : decode cX0_writeScores 7 = .ok (.istore 4, 2) := by decide +kernel
theorem dX0_writeScores_9 : decode cX0_writeScores 9 = .ok (.iload 4, 2) := by decide +kernel
theorem dX0_writeScores_11 : decode cX0_writeScores 11 = .ok (.aload_n 0, 1) := by decide +kernel
theorem dX0_writeScores_12 : decode cX0_writeScores 12 = .ok (.getfield 53, 3) := by decide +kernel
theorem dX0_writeScores_15 : decode cX0_writeScores 15 = .ok (.if_icmp .ge 32, 3) := by decide +kernel
theorem dX0_writeScores_18 : decode cX0_writeScores 18 = .ok (.iload_n 2, 1) := by decide +kernel
theorem dX0_writeScores_19 : decode cX0_writeScores 19 = .ok (.iload 4, 2) := by decide +kernel
theorem dX0_writeScores_21 : decode cX0_writeScores 21 = .ok (.invokestatic 67, 3) := by decide +kernel
theorem dX0_writeScores_24 : decode cX0_writeScores 24 = .ok (.ifCond .eq 17, 3) := by decide +kernel
theorem dX0_writeScores_27 : decode cX0_writeScores 27 = .ok (.aload_n 0, 1) := by decide +kernel
theorem dX0_writeScores_28 : decode cX0_writeScores 28 = .ok (.getfield 50, 3) := by decide +kernel
theorem dX0_writeScores_31 : decode cX0_writeScores 31 = .ok (.iload 4, 2) := by decide +kernel
theorem dX0_writeScores_33 : decode cX0_writeScores 33 = .ok (.aload_n 0, 1) := by decide +kernel
theorem dX0_writeScores_34 : decode cX0_writeScores 34 = .ok (.iload_n 3, 1) := by decide +kernel
theorem dX0_writeScores_35 : decode cX0_writeScores 35 = .ok (.iload 4, 2) := by decide +kernel
theorem dX0_writeScores_37 : decode cX0_writeScores 37 = .ok (.invokevirtual 128, 3) := by decide +kernel
theorem dX0_writeScores_40 : decode cX0_writeScores 40 = .ok (.iastore, 1) := by decide +kernel
theorem dX0_writeScores_41 : decode cX0_writeScores 41 = .ok (.iinc 4 1, 3) := by decide +kernel
theorem dX0_writeScores_44 : decode cX0_writeScores 44 = .ok (.goto (-35), 3) := by decide +kernel
theorem dX0_writeScores_47 : decode cX0_writeScores 47 = .ok (.return_, 1) := by decide +kernel
theorem dX0_bestByPoints_0 : decode cX0_bestByPoints 0 = .ok (.iconst 0, 1) := by decide +kernel
theorem dX0_bestByPoints_1 : decode cX0_bestByPoints 1 = .ok (.istore_n 2, 1) := by decide +kernel
theorem dX0_bestByPoints_2 : decode cX0_bestByPoints 2 = .ok (.iconst 0, 1) := by decide +kernel
theorem dX0_bestByPoints_3 : decode cX0_bestByPoints 3 = .ok (.istore_n 3, 1) := by decide +kernel
theorem dX0_bestByPoints_4 : decode cX0_bestByPoints 4 = .ok (.iconst 0, 1) := by decide +kernel
theorem dX0_bestByPoints_5 : decode cX0_bestByPoints 5 = .ok (.istore 4, 2) := by decide +kernel
theorem dX0_bestByPoints_7 : decode cX0_bestByPoints 7 = .ok (.iload 4, 2) := by decide +kernel
theorem dX0_bestByPoints_9 : decode cX0_bestByPoints 9 = .ok (.aload_n 0, 1) := by decide +kernel
theorem dX0_bestByPoints_10 : decode cX0_bestByPoints 10 = .ok (.getfield 53, 3) := by decide +kernel
theorem dX0_bestByPoints_13 : decode cX0_bestByPoints 13 = .ok (.if_icmp .ge 43, 3) := by decide +kernel
theorem dX0_bestByPoints_16 : decode cX0_bestByPoints 16 = .ok (.iload_n 1, 1) := by decide +kernel
theorem dX0_bestByPoints_17 : decode cX0_bestByPoints 17 = .ok (.iload 4, 2) := by decide +kernel
theorem dX0_bestByPoints_19 : decode cX0_bestByPoints 19 = .ok (.invokestatic 67, 3) := by decide +kernel
theorem dX0_bestByPoints_22 : decode cX0_bestByPoints 22 = .ok (.ifCond .eq 28, 3) := by decide +kernel
theorem dX0_bestByPoints_25 : decode cX0_bestByPoints 25 = .ok (.iload_n 3, 1) := by decide +kernel
theorem dX0_bestByPoints_26 : decode cX0_bestByPoints 26 = .ok (.ifCond .eq 19, 3) := by decide +kernel
theorem dX0_bestByPoints_29 : decode cX0_bestByPoints 29 = .ok (.aload_n 0, 1) := by decide +kernel
theorem dX0_bestByPoints_30 : decode cX0_bestByPoints 30 = .ok (.getfield 50, 3) := by decide +kernel
theorem dX0_bestByPoints_33 : decode cX0_bestByPoints 33 = .ok (.iload 4, 2) := by decide +kernel
theorem dX0_bestByPoints_35 : decode cX0_bestByPoints 35 = .ok (.iaload, 1) := by decide +kernel
theorem dX0_bestByPoints_36 : decode cX0_bestByPoints 36 = .ok (.aload_n 0, 1) := by decide +kernel
theorem dX0_bestByPoints_37 : decode cX0_bestByPoints 37 = .ok (.getfield 50, 3) := by decide +kernel
theorem dX0_bestByPoints_40 : decode cX0_bestByPoints 40 = .ok (.iload_n 2, 1) := by decide +kernel
theorem dX0_bestByPoints_41 : decode cX0_bestByPoints 41 = .ok (.iaload, 1) := by decide +kernel
theorem dX0_bestByPoints_42 : decode cX0_bestByPoints 42 = .ok (.if_icmp .le 8, 3) := by decide +kernel
theorem dX0_bestByPoints_45 : decode cX0_bestByPoints 45 = .ok (.iload 4, 2) := by decide +kernel
theorem dX0_bestByPoints_47 : decode cX0_bestByPoints 47 = .ok (.istore_n 2, 1) := by decide +kernel
theorem dX0_bestByPoints_48 : decode cX0_bestByPoints 48 = .ok (.iconst 1, 1) := by decide +kernel
theorem dX0_bestByPoints_49 : decode cX0_bestByPoints 49 = .ok (.istore_n 3, 1) := by decide +kernel
theorem dX0_bestByPoints_50 : decode cX0_bestByPoints 50 = .ok (.iinc 4 1, 3) := by decide +kernel
theorem dX0_bestByPoints_53 : decode cX0_bestByPoints 53 = .ok (.goto (-46), 3) := by decide +kernel
theorem dX0_bestByPoints_56 : decode cX0_bestByPoints 56 = .ok (.iload_n 2, 1) := by decide +kernel
theorem dX0_bestByPoints_57 : decode cX0_bestByPoints 57 = .ok (.ireturn, 1) := by decide +kernel
theorem dX0_sumOfPoints_0 : decode cX0_sumOfPoints 0 = .ok (.iconst 0, 1) := by decide +kernel
theorem dX0_sumOfPoints_1 : decode cX0_sumOfPoints 1 = .ok (.istore_n 2, 1) := by decide +kernel
theorem dX0_sumOfPoints_2 : decode cX0_sumOfPoints 2 = .ok (.iconst 0, 1) := by decide +kernel
theorem dX0_sumOfPoints_3 : decode cX0_sumOfPoints 3 = .ok (.istore_n 3, 1) := by decide +kernel
theorem dX0_sumOfPoints_4 : decode cX0_sumOfPoints 4 = .ok (.iload_n 3, 1) := by decide +kernel
theorem dX0_sumOfPoints_5 : decode cX0_sumOfPoints 5 = .ok (.aload_n 0, 1) := by decide +kernel
theorem dX0_sumOfPoints_6 : decode cX0_sumOfPoints 6 = .ok (.getfield 53, 3) := by decide +kernel
theorem dX0_sumOfPoints_9 : decode cX0_sumOfPoints 9 = .ok (.if_icmp .ge 26, 3) := by decide +kernel
theorem dX0_sumOfPoints_12 : decode cX0_sumOfPoints 12 = .ok (.iload_n 1, 1) := by decide +kernel
theorem dX0_sumOfPoints_13 : decode cX0_sumOfPoints 13 = .ok (.iload_n 3, 1) := by decide +kernel
theorem dX0_sumOfPoints_14 : decode cX0_sumOfPoints 14 = .ok (.invokestatic 67, 3) := by decide +kernel
theorem dX0_sumOfPoints_17 : decode cX0_sumOfPoints 17 = .ok (.ifCond .eq 12, 3) := by decide +kernel
theorem dX0_sumOfPoints_20 : decode cX0_sumOfPoints 20 = .ok (.iload_n 2, 1) := by decide +kernel
theorem dX0_sumOfPoints_21 : decode cX0_sumOfPoints 21 = .ok (.aload_n 0, 1) := by decide +kernel
theorem dX0_sumOfPoints_22 : decode cX0_sumOfPoints 22 = .ok (.getfield 50, 3) := by decide +kernel
theorem dX0_sumOfPoints_25 : decode cX0_sumOfPoints 25 = .ok (.iload_n 3, 1) := by decide +kernel
theorem dX0_sumOfPoints_26 : decode cX0_sumOfPoints 26 = .ok (.iaload, 1) := by decide +kernel
theorem dX0_sumOfPoints_27 : decode cX0_sumOfPoints 27 = .ok (.iadd, 1) := by decide +kernel
theorem dX0_sumOfPoints_28 : decode cX0_sumOfPoints 28 = .ok (.istore_n 2, 1) := by decide +kernel
theorem dX0_sumOfPoints_29 : decode cX0_sumOfPoints 29 = .ok (.iinc 3 1, 3) := by decide +kernel
theorem dX0_sumOfPoints_32 : decode cX0_sumOfPoints 32 = .ok (.goto (-28), 3) := by decide +kernel
theorem dX0_sumOfPoints_35 : decode cX0_sumOfPoints 35 = .ok (.iload_n 2, 1) := by decide +kernel
theorem dX0_sumOfPoints_36 : decode cX0_sumOfPoints 36 = .ok (.ireturn, 1) := by decide +kernel
theorem dX0_mayPutUp_0 : decode cX0_mayPutUp 0 = .ok (.aload_n 0, 1) := by decide +kernel
theorem dX0_mayPutUp_1 : decode cX0_mayPutUp 1 = .ok (.getfield 60, 3) := by decide +kernel
theorem dX0_mayPutUp_4 : decode cX0_mayPutUp 4 = .ok (.aload_n 0, 1) := by decide +kernel
theorem dX0_mayPutUp_5 : decode cX0_mayPutUp 5 = .ok (.iload_n 1, 1) := by decide +kernel
theorem dX0_mayPutUp_6 : decode cX0_mayPutUp 6 = .ok (.invokevirtual 125, 3) := by decide +kernel
theorem dX0_mayPutUp_9 : decode cX0_mayPutUp 9 = .ok (.iconst (-1), 1) := by decide +kernel
theorem dX0_mayPutUp_10 : decode cX0_mayPutUp 10 = .ok (.ixor, 1) := by decide +kernel
theorem dX0_mayPutUp_11 : decode cX0_mayPutUp 11 = .ok (.iand, 1) := by decide +kernel
theorem dX0_mayPutUp_12 : decode cX0_mayPutUp 12 = .ok (.istore_n 2, 1) := by decide +kernel
theorem dX0_mayPutUp_13 : decode cX0_mayPutUp 13 = .ok (.iconst 0, 1) := by decide +kernel
theorem dX0_mayPutUp_14 : decode cX0_mayPutUp 14 = .ok (.istore_n 3, 1) := by decide +kernel
theorem dX0_mayPutUp_15 : decode cX0_mayPutUp 15 = .ok (.iload_n 3, 1) := by decide +kernel
theorem dX0_mayPutUp_16 : decode cX0_mayPutUp 16 = .ok (.aload_n 0, 1) := by decide +kernel
theorem dX0_mayPutUp_17 : decode cX0_mayPutUp 17 = .ok (.getfield 53, 3) := by decide +kernel
theorem dX0_mayPutUp_20 : decode cX0_mayPutUp 20 = .ok (.if_icmp .ge 26, 3) := by decide +kernel
theorem dX0_mayPutUp_23 : decode cX0_mayPutUp 23 = .ok (.aload_n 0, 1) := by decide +kernel
theorem dX0_mayPutUp_24 : decode cX0_mayPutUp 24 = .ok (.iload_n 1, 1) := by decide +kernel
theorem dX0_mayPutUp_25 : decode cX0_mayPutUp 25 = .ok (.iload_n 3, 1) := by decide +kernel
theorem dX0_mayPutUp_26 : decode cX0_mayPutUp 26 = .ok (.invokevirtual 146, 3) := by decide +kernel
theorem dX0_mayPutUp_29 : decode cX0_mayPutUp 29 = .ok (.ifCond .le 11, 3) := by decide +kernel
theorem dX0_mayPutUp_32 : decode cX0_mayPutUp 32 = .ok (.iload_n 2, 1) := by decide +kernel
theorem dX0_mayPutUp_33 : decode cX0_mayPutUp 33 = .ok (.iconst 1, 1) := by decide +kernel
theorem dX0_mayPutUp_34 : decode cX0_mayPutUp 34 = .ok (.iload_n 3, 1) := by decide +kernel
theorem dX0_mayPutUp_35 : decode cX0_mayPutUp 35 = .ok (.ishl, 1) := by decide +kernel
theorem dX0_mayPutUp_36 : decode cX0_mayPutUp 36 = .ok (.iconst (-1), 1) := by decide +kernel
theorem dX0_mayPutUp_37 : decode cX0_mayPutUp 37 = .ok (.ixor, 1) := by decide +kernel
theorem dX0_mayPutUp_38 : decode cX0_mayPutUp 38 = .ok (.iand, 1) := by decide +kernel
theorem dX0_mayPutUp_39 : decode cX0_mayPutUp 39 = .ok (.istore_n 2, 1) := by decide +kernel
theorem dX0_mayPutUp_40 : decode cX0_mayPutUp 40 = .ok (.iinc 3 1, 3) := by decide +kernel
theorem dX0_mayPutUp_43 : decode cX0_mayPutUp 43 = .ok (.goto (-28), 3) := by decide +kernel
theorem dX0_mayPutUp_46 : decode cX0_mayPutUp 46 = .ok (.iload_n 2, 1) := by decide +kernel
theorem dX0_mayPutUp_47 : decode cX0_mayPutUp 47 = .ok (.ireturn, 1) := by decide +kernel
theorem dX0_isTurnOfNew_0 : decode cX0_isTurnOfNew 0 = .ok (.aload_n 0, 1) := by decide +kernel
theorem dX0_isTurnOfNew_1 : decode cX0_isTurnOfNew 1 = .ok (.getfield 18, 3) := by decide +kernel
theorem dX0_isTurnOfNew_4 : decode cX0_isTurnOfNew 4 = .ok (.iconst 2, 1) := by decide +kernel
theorem dX0_isTurnOfNew_5 : decode cX0_isTurnOfNew 5 = .ok (.iaload, 1) := by decide +kernel
theorem dX0_isTurnOfNew_6 : decode cX0_isTurnOfNew 6 = .ok (.istore_n 2, 1) := by decide +kernel
theorem dX0_isTurnOfNew_7 : decode cX0_isTurnOfNew 7 = .ok (.iload_n 2, 1) := by decide +kernel
theorem dX0_isTurnOfNew_8 : decode cX0_isTurnOfNew 8 = .ok (.ifCond .le 20, 3) := by decide +kernel
theorem dX0_isTurnOfNew_11 : decode cX0_isTurnOfNew 11 = .ok (.aload_n 0, 1) := by decide +kernel
theorem dX0_isTurnOfNew_12 : decode cX0_isTurnOfNew 12 = .ok (.getfield 39, 3) := by decide +kernel
theorem dX0_isTurnOfNew_15 : decode cX0_isTurnOfNew 15 = .ok (.iload_n 1, 1) := by decide +kernel
theorem dX0_isTurnOfNew_16 : decode cX0_isTurnOfNew 16 = .ok (.iaload, 1) := by decide +kernel
theorem dX0_isTurnOfNew_17 : decode cX0_isTurnOfNew 17 = .ok (.iconst 1, 1) := by decide +kernel
theorem dX0_isTurnOfNew_18 : decode cX0_isTurnOfNew 18 = .ok (.iadd, 1) := by decide +kernel
theorem dX0_isTurnOfNew_19 : decode cX0_isTurnOfNew 19 = .ok (.iload_n 2, 1) := by decide +kernel
theorem dX0_isTurnOfNew_20 : decode cX0_isTurnOfNew 20 = .ok (.irem, 1) := by decide +kernel
theorem dX0_isTurnOfNew_21 : decode cX0_isTurnOfNew 21 = .ok (.ifCond .ne 7, 3) := by decide +kernel
theorem dX0_isTurnOfNew_24 : decode cX0_isTurnOfNew 24 = .ok (.iconst 1, 1) := by decide +kernel
theorem dX0_isTurnOfNew_25 : decode cX0_isTurnOfNew 25 = .ok (.goto 4, 3) := by decide +kernel
theorem dX0_isTurnOfNew_28 : decode cX0_isTurnOfNew 28 = .ok (.iconst 0, 1) := by decide +kernel
theorem dX0_isTurnOfNew_29 : decode cX0_isTurnOfNew 29 = .ok (.ireturn, 1) := by decide +kernel
theorem dX0_keepsRules_0 : decode cX0_keepsRules 0 = .ok (.iconst 0, 1) := by decide +kernel
theorem dX0_keepsRules_1 : decode cX0_keepsRules 1 = .ok (.istore_n 2, 1) := by decide +kernel
theorem dX0_keepsRules_2 : decode cX0_keepsRules 2 = .ok (.iload_n 2, 1) := by decide +kernel
theorem dX0_keepsRules_3 : decode cX0_keepsRules 3 = .ok (.iconst 4, 1) := by decide +kernel
theorem dX0_keepsRules_4 : decode cX0_keepsRules 4 = .ok (.if_icmp .ge 31, 3) := by decide +kernel
theorem dX0_keepsRules_7 : decode cX0_keepsRules 7 = .ok (.iload_n 1, 1) := by decide +kernel
theorem dX0_keepsRules_8 : decode cX0_keepsRules 8 = .ok (.aload_n 0, 1) := by decide +kernel
theorem dX0_keepsRules_9 : decode cX0_keepsRules 9 = .ok (.getfield 24, 3) := by decide +kernel
theorem dX0_keepsRules_12 : decode cX0_keepsRules 12 = .ok (.iload_n 2, 1) := by decide +kernel
theorem dX0_keepsRules_13 : decode cX0_keepsRules 13 = .ok (.iaload, 1) := by decide +kernel
theorem dX0_keepsRules_14 : decode cX0_keepsRules 14 = .ok (.iand, 1) := by decide +kernel
theorem dX0_keepsRules_15 : decode cX0_keepsRules 15 = .ok (.invokestatic 149, 3) := by decide +kernel
theorem dX0_keepsRules_18 : decode cX0_keepsRules 18 = .ok (.aload_n 0, 1) := by decide +kernel
theorem dX0_keepsRules_19 : decode cX0_keepsRules 19 = .ok (.getfield 18, 3) := by decide +kernel
theorem dX0_keepsRules_22 : decode cX0_keepsRules 22 = .ok (.iconst 1, 1) := by decide +kernel
theorem dX0_keepsRules_23 : decode cX0_keepsRules 23 = .ok (.iaload, 1) := by decide +kernel
theorem dX0_keepsRules_24 : decode cX0_keepsRules 24 = .ok (.if_icmp .le 5, 3) := by decide +kernel
theorem dX0_keepsRules_27 : decode cX0_keepsRules 27 = .ok (.iconst 0, 1) := by decide +kernel
theorem dX0_keepsRules_28 : decode cX0_keepsRules 28 = .ok (.ireturn, 1) := by decide +kernel
theorem dX0_keepsRules_29 : decode cX0_keepsRules 29 = .ok (.iinc 2 1, 3) := by decide +kernel
theorem dX0_keepsRules_32 : decode cX0_keepsRules 32 = .ok (.goto (-30), 3) := by decide +kernel
theorem dX0_keepsRules_35 : decode cX0_keepsRules 35 = .ok (.iconst 0, 1) := by decide +kernel
theorem dX0_keepsRules_36 : decode cX0_keepsRules 36 = .ok (.istore_n 2, 1) := by decide +kernel
theorem dX0_keepsRules_37 : decode cX0_keepsRules 37 = .ok (.iload_n 2, 1) := by decide +kernel
theorem dX0_keepsRules_38 : decode cX0_keepsRules 38 = .ok (.aload_n 0, 1) := by decide +kernel
theorem dX0_keepsRules_39 : decode cX0_keepsRules 39 = .ok (.getfield 53, 3) := by decide +kernel
theorem dX0_keepsRules_42 : decode cX0_keepsRules 42 = .ok (.if_icmp .ge 30, 3) := by decide +kernel
theorem dX0_keepsRules_45 : decode cX0_keepsRules 45 = .ok (.iload_n 1, 1) := by decide +kernel
theorem dX0_keepsRules_46 : decode cX0_keepsRules 46 = .ok (.iload_n 2, 1) := by decide +kernel
theorem dX0_keepsRules_47 : decode cX0_keepsRules 47 = .ok (.invokestatic 67, 3) := by decide +kernel
theorem dX0_keepsRules_50 : decode cX0_keepsRules 50 = .ok (.ifCond .eq 16, 3) := by decide +kernel
theorem dX0_keepsRules_53 : decode cX0_keepsRules 53 = .ok (.iload_n 1, 1) := by decide +kernel
theorem dX0_keepsRules_54 : decode cX0_keepsRules 54 = .ok (.aload_n 0, 1) := by decide +kernel
theorem dX0_keepsRules_55 : decode cX0_keepsRules 55 = .ok (.getfield 27, 3) := by decide +kernel
theorem dX0_keepsRules_58 : decode cX0_keepsRules 58 = .ok (.iload_n 2, 1) := by decide +kernel
theorem dX0_keepsRules_59 : decode cX0_keepsRules 59 = .ok (.iaload, 1) := by decide +kernel
theorem dX0_keepsRules_60 : decode cX0_keepsRules 60 = .ok (.iand, 1) := by decide +kernel
theorem dX0_keepsRules_61 : decode cX0_keepsRules 61 = .ok (.ifCond .eq 5, 3) := by decide +kernel
theorem dX0_keepsRules_64 : decode cX0_keepsRules 64 = .ok (.iconst 0, 1) := by decide +kernel
theorem dX0_keepsRules_65 : decode cX0_keepsRules 65 = .ok (.ireturn, 1) := by decide +kernel
theorem dX0_keepsRules_66 : decode cX0_keepsRules 66 = .ok (.iinc 2 1, 3) := by decide +kernel
theorem dX0_keepsRules_69 : decode cX0_keepsRules 69 = .ok (.goto (-32), 3) := by decide +kernel
theorem dX0_keepsRules_72 : decode cX0_keepsRules 72 = .ok (.iconst 1, 1) := by decide +kernel
theorem dX0_keepsRules_73 : decode cX0_keepsRules 73 = .ok (.ireturn, 1) := by decide +kernel
theorem dX0_bestList_0 : decode cX0_bestList 0 = .ok (.aload_n 0, 1) := by decide +kernel
theorem dX0_bestList_1 : decode cX0_bestList 1 = .ok (.iload_n 1, 1) := by decide +kernel
theorem dX0_bestList_2 : decode cX0_bestList 2 = .ok (.invokevirtual 131, 3) := by decide +kernel
theorem dX0_bestList_5 : decode cX0_bestList 5 = .ok (.istore_n 3, 1) := by decide +kernel
theorem dX0_bestList_6 : decode cX0_bestList 6 = .ok (.aload_n 0, 1) := by decide +kernel
theorem dX0_bestList_7 : decode cX0_bestList 7 = .ok (.iload_n 1, 1) := by decide +kernel
theorem dX0_bestList_8 : decode cX0_bestList 8 = .ok (.invokevirtual 154, 3) := by decide +kernel
theorem dX0_bestList_11 : decode cX0_bestList 11 = .ok (.ifCond .eq 12, 3) := by decide +kernel
theorem dX0_bestList_14 : decode cX0_bestList 14 = .ok (.iload_n 3, 1) := by decide +kernel
theorem dX0_bestList_15 : decode cX0_bestList 15 = .ok (.aload_n 0, 1) := by decide +kernel
theorem dX0_bestList_16 : decode cX0_bestList 16 = .ok (.invokevirtual 104, 3) := by decide +kernel
theorem dX0_bestList_19 : decode cX0_bestList 19 = .ok (.iand, 1) := by decide +kernel
theorem dX0_bestList_20 : decode cX0_bestList 20 = .ok (.goto 4, 3) := by decide +kernel
theorem dX0_bestList_23 : decode cX0_bestList 23 = .ok (.iconst 0, 1) := by decide +kernel
theorem dX0_bestList_24 : decode cX0_bestList 24 = .ok (.istore 4, 2) := by decide +kernel
theorem dX0_bestList_26 : decode cX0_bestList 26 = .ok (.aload_n 0, 1) := by decide +kernel
theorem dX0_bestList_27 : decode cX0_bestList 27 = .ok (.iload_n 1, 1) := by decide +kernel
theorem dX0_bestList_28 : decode cX0_bestList 28 = .ok (.iload_n 3, 1) := by decide +kernel
theorem dX0_bestList_29 : decode cX0_bestList 29 = .ok (.invokevirtual 157, 3) := by decide +kernel
theorem dX0_bestList_32 : decode cX0_bestList 32 = .ok (.iconst 0, 1) := by decide +kernel
theorem dX0_bestList_33 : decode cX0_bestList 33 = .ok (.istore 5, 2) := by decide +kernel
theorem dX0_bestList_35 : decode cX0_bestList 35 = .ok (.iconst 0, 1) := by decide +kernel
theorem dX0_bestList_36 : decode cX0_bestList 36 = .ok (.istore 6, 2) := by decide +kernel
theorem dX0_bestList_38 : decode cX0_bestList 38 = .ok (.iconst 0, 1) := by decide +kernel
theorem dX0_bestList_39 : decode cX0_bestList 39 = .ok (.istore 7, 2) := by decide +kernel
theorem dX0_bestList_41 : decode cX0_bestList 41 = .ok (.iconst 0, 1) := by decide +kernel
theorem dX0_bestList_42 : decode cX0_bestList 42 = .ok (.istore 8, 2) := by decide +kernel
theorem dX0_bestList_44 : decode cX0_bestList 44 = .ok (.iconst 1, 1) := by decide +kernel
theorem dX0_bestList_45 : decode cX0_bestList 45 = .ok (.iload_n 3, 1) := by decide +kernel
theorem dX0_bestList_46 : decode cX0_bestList 46 = .ok (.invokestatic 149, 3) := by decide +kernel
theorem dX0_bestList_49 : decode cX0_bestList 49 = .ok (.ishl, 1) := by decide +kernel
theorem dX0_bestList_50 : decode cX0_bestList 50 = .ok (.istore 9, 2) := by decide +kernel
theorem dX0_bestList_52 : decode cX0_bestList 52 = .ok (.iconst 1, 1) := by decide +kernel
theorem dX0_bestList_53 : decode cX0_bestList 53 = .ok (.istore 10, 2) := by decide +kernel
theorem dX0_bestList_55 : decode cX0_bestList 55 = .ok (.iload 10, 2) := by decide +kernel
theorem dX0_bestList_57 : decode cX0_bestList 57 = .ok (.iload 9, 2) := by decide +kernel
theorem dX0_bestList_59 : decode cX0_bestList 59 = .ok (.if_icmp .ge 105, 3) := by decide +kernel
theorem dX0_bestList_62 : decode cX0_bestList 62 = .ok (.iload 8, 2) := by decide +kernel
theorem dX0_bestList_64 : decode cX0_bestList 64 = .ok (.iload_n 3, 1) := by decide +kernel
theorem dX0_bestList_65 : decode cX0_bestList 65 = .ok (.isub, 1) := by decide +kernel
theorem dX0_bestList_66 : decode cX0_bestList 66 = .ok (.iload_n 3, 1) := by decide +kernel
theorem dX0_bestList_67 : decode cX0_bestList 67 = .ok (.iand, 1) := by decide +kernel
theorem dX0_bestList_68 : decode cX0_bestList 68 = .ok (.istore 8, 2) := by decide +kernel
theorem dX0_bestList_70 : decode cX0_bestList 70 = .ok (.iload 8, 2) := by decide +kernel
theorem dX0_bestList_72 : decode cX0_bestList 72 = .ok (.invokestatic 149, 3) := by decide +kernel
theorem dX0_bestList_75 : decode cX0_bestList 75 = .ok (.istore 11, 2) := by decide +kernel
theorem dX0_bestList_77 : decode cX0_bestList 77 = .ok (.iload 11, 2) := by decide +kernel
theorem dX0_bestList_79 : decode cX0_bestList 79 = .ok (.iload_n 2, 1) := by decide +kernel
theorem dX0_bestList_80 : decode cX0_bestList 80 = .ok (.if_icmp .gt 27, 3) := by decide +kernel
theorem dX0_bestList_83 : decode cX0_bestList 83 = .ok (.iload 11, 2) := by decide +kernel
theorem dX0_bestList_85 : decode cX0_bestList 85 = .ok (.iload 6, 2) := by decide +kernel
theorem dX0_bestList_87 : decode cX0_bestList 87 = .ok (.if_icmp .lt 20, 3) := by decide +kernel
theorem dX0_bestList_90 : decode cX0_bestList 90 = .ok (.iload 4, 2) := by decide +kernel
theorem dX0_bestList_92 : decode cX0_bestList 92 = .ok (.ifCond .eq 11, 3) := by decide +kernel
theorem dX0_bestList_95 : decode cX0_bestList 95 = .ok (.iload 8, 2) := by decide +kernel
theorem dX0_bestList_97 : decode cX0_bestList 97 = .ok (.iload 4, 2) := by decide +kernel
theorem dX0_bestList_99 : decode cX0_bestList 99 = .ok (.iand, 1) := by decide +kernel
theorem dX0_bestList_100 : decode cX0_bestList 100 = .ok (.ifCond .eq 7, 3) := by decide +kernel
theorem dX0_bestList_103 : decode cX0_bestList 103 = .ok (.iconst 1, 1) := by decide +kernel
theorem dX0_bestList_104 : decode cX0_bestList 104 = .ok (.goto 4, 3) := by decide +kernel
theorem dX0_bestList_107 : decode cX0_bestList 107 = .ok (.iconst 0, 1) := by decide +kernel
theorem dX0_bestList_108 : decode cX0_bestList 108 = .ok (.istore 12, 2) := by decide +kernel
theorem dX0_bestList_110 : decode cX0_bestList 110 = .ok (.iload 12, 2) := by decide +kernel
theorem dX0_bestList_112 : decode cX0_bestList 112 = .ok (.ifCond .eq 46, 3) := by decide +kernel
theorem dX0_bestList_115 : decode cX0_bestList 115 = .ok (.aload_n 0, 1) := by decide +kernel
theorem dX0_bestList_116 : decode cX0_bestList 116 = .ok (.iload 8, 2) := by decide +kernel
theorem dX0_bestList_118 : decode cX0_bestList 118 = .ok (.invokevirtual 160, 3) := by decide +kernel
theorem dX0_bestList_121 : decode cX0_bestList 121 = .ok (.ifCond .eq 37, 3) := by decide +kernel
theorem dX0_bestList_124 : decode cX0_bestList 124 = .ok (.aload_n 0, 1) := by decide +kernel
theorem dX0_bestList_125 : decode cX0_bestList 125 = .ok (.iload 8, 2) := by decide +kernel
theorem dX0_bestList_127 : decode cX0_bestList 127 = .ok (.invokevirtual 140, 3) := by decide +kernel
theorem dX0_bestList_130 : decode cX0_bestList 130 = .ok (.istore 13, 2) := by decide +kernel
theorem dX0_bestList_132 : decode cX0_bestList 132 = .ok (.iload 11, 2) := by decide +kernel
theorem dX0_bestList_134 : decode cX0_bestList 134 = .ok (.iload 6, 2) := by decide +kernel
theorem dX0_bestList_136 : decode cX0_bestList 136 = .ok (.if_icmp .gt 10, 3) := by decide +kernel
theorem dX0_bestList_139 : decode cX0_bestList 139 = .ok (.iload 13, 2) := by decide +kernel
theorem dX0_bestList_141 : decode cX0_bestList 141 = .ok (.iload 7, 2) := by decide +kernel
theorem dX0_bestList_143 : decode cX0_bestList 143 = .ok (.if_icmp .le 15, 3) := by decide +kernel
theorem dX0_bestList_146 : decode cX0_bestList 146 = .ok (.iload 8, 2) := by decide +kernel
theorem dX0_bestList_148 : decode cX0_bestList 148 = .ok (.istore 5, 2) := by decide +kernel
theorem dX0_bestList_150 : decode cX0_bestList 150 = .ok (.iload 11, 2) := by decide +kernel
theorem dX0_bestList_152 : decode cX0_bestList 152 = .ok (.istore 6, 2) := by decide +kernel
theorem dX0_bestList_154 : decode cX0_bestList 154 = .ok (.iload 13, 2) := by decide +kernel
theorem dX0_bestList_156 : decode cX0_bestList 156 = .ok (.istore 7, 2) := by decide +kernel
theorem dX0_bestList_158 : decode cX0_bestList 158 = .ok (.iinc 10 1, 3) := by decide +kernel
theorem dX0_bestList_161 : decode cX0_bestList 161 = .ok (.goto (-106), 3) := by decide +kernel
theorem dX0_bestList_164 : decode cX0_bestList 164 = .ok (.iload 5, 2) := by decide +kernel
theorem dX0_bestList_166 : decode cX0_bestList 166 = .ok (.ireturn, 1) := by decide +kernel
theorem dX0_daysTired_0 : decode cX0_daysTired 0 = .ok (.iconst 0, 1) := by decide +kernel
theorem dX0_daysTired_1 : decode cX0_daysTired 1 = .ok (.aload_n 0, 1) := by decide +kernel
theorem dX0_daysTired_2 : decode cX0_daysTired 2 = .ok (.getfield 47, 3) := by decide +kernel
theorem dX0_daysTired_5 : decode cX0_daysTired 5 = .ok (.iload_n 1, 1) := by decide +kernel
theorem dX0_daysTired_6 : decode cX0_daysTired 6 = .ok (.aaload, 1) := by decide +kernel
theorem dX0_daysTired_7 : decode cX0_daysTired 7 = .ok (.iload_n 2, 1) := by decide +kernel
theorem dX0_daysTired_8 : decode cX0_daysTired 8 = .ok (.iaload, 1) := by decide +kernel
theorem dX0_daysTired_9 : decode cX0_daysTired 9 = .ok (.aload_n 0, 1) := by decide +kernel
theorem dX0_daysTired_10 : decode cX0_daysTired 10 = .ok (.getfield 57, 3) := by decide +kernel
theorem dX0_daysTired_13 : decode cX0_daysTired 13 = .ok (.isub, 1) := by decide +kernel
theorem dX0_daysTired_14 : decode cX0_daysTired 14 = .ok (.invokestatic 163, 3) := by decide +kernel
theorem dX0_daysTired_17 : decode cX0_daysTired 17 = .ok (.ireturn, 1) := by decide +kernel
theorem dX0_showOnce_0 : decode cX0_showOnce 0 = .ok (.aload_n 0, 1) := by decide +kernel
theorem dX0_showOnce_1 : decode cX0_showOnce 1 = .ok (.getfield 44, 3) := by decide +kernel
theorem dX0_showOnce_4 : decode cX0_showOnce 4 = .ok (.iload_n 1, 1) := by decide +kernel
theorem dX0_showOnce_5 : decode cX0_showOnce 5 = .ok (.aaload, 1) := by decide +kernel
theorem dX0_showOnce_6 : decode cX0_showOnce 6 = .ok (.iload_n 2, 1) := by decide +kernel
theorem dX0_showOnce_7 : decode cX0_showOnce 7 = .ok (.dup2, 1) := by decide +kernel
theorem dX0_showOnce_8 : decode cX0_showOnce 8 = .ok (.iaload, 1) := by decide +kernel
theorem dX0_showOnce_9 : decode cX0_showOnce 9 = .ok (.iconst 1, 1) := by decide +kernel
theorem dX0_showOnce_10 : decode cX0_showOnce 10 = .ok (.iadd, 1) := by decide +kernel
theorem dX0_showOnce_11 : decode cX0_showOnce 11 = .ok (.iastore, 1) := by decide +kernel
theorem dX0_showOnce_12 : decode cX0_showOnce 12 = .ok (.aload_n 0, 1) := by decide +kernel
theorem dX0_showOnce_13 : decode cX0_showOnce 13 = .ok (.getfield 44, 3) := by decide +kernel
theorem dX0_showOnce_16 : decode cX0_showOnce 16 = .ok (.iload_n 1, 1) := by decide +kernel
theorem dX0_showOnce_17 : decode cX0_showOnce 17 = .ok (.aaload, 1) := by decide +kernel
theorem dX0_showOnce_18 : decode cX0_showOnce 18 = .ok (.iload_n 2, 1) := by decide +kernel
theorem dX0_showOnce_19 : decode cX0_showOnce 19 = .ok (.iaload, 1) := by decide +kernel
theorem dX0_showOnce_20 : decode cX0_showOnce 20 = .ok (.aload_n 0, 1) := by decide +kernel
theorem dX0_showOnce_21 : decode cX0_showOnce 21 = .ok (.getfield 18, 3) := by decide +kernel
theorem dX0_showOnce_24 : decode cX0_showOnce 24 = .ok (.iconst 3, 1) := by decide +kernel
theorem dX0_showOnce_25 : decode cX0_showOnce 25 = .ok (.iaload, 1) := by decide +kernel
theorem dX0_showOnce_26 : decode cX0_showOnce 26 = .ok (.if_icmp .lt 27, 3) := by decide +kernel
theorem dX0_showOnce_29 : decode cX0_showOnce 29 = .ok (.aload_n 0, 1) := by decide +kernel
theorem dX0_showOnce_30 : decode cX0_showOnce 30 = .ok (.getfield 44, 3) := by decide +kernel
theorem dX0_showOnce_33 : decode cX0_showOnce 33 = .ok (.iload_n 1, 1) := by decide +kernel
theorem dX0_showOnce_34 : decode cX0_showOnce 34 = .ok (.aaload, 1) := by decide +kernel
theorem dX0_showOnce_35 : decode cX0_showOnce 35 = .ok (.iload_n 2, 1) := by decide +kernel
theorem dX0_showOnce_36 : decode cX0_showOnce 36 = .ok (.iconst 0, 1) := by decide +kernel
theorem dX0_showOnce_37 : decode cX0_showOnce 37 = .ok (.iastore, 1) := by decide +kernel
theorem dX0_showOnce_38 : decode cX0_showOnce 38 = .ok (.aload_n 0, 1) := by decide +kernel
theorem dX0_showOnce_39 : decode cX0_showOnce 39 = .ok (.getfield 47, 3) := by decide +kernel
theorem dX0_showOnce_42 : decode cX0_showOnce 42 = .ok (.iload_n 1, 1) := by decide +kernel
theorem dX0_showOnce_43 : decode cX0_showOnce 43 = .ok (.aaload, 1) := by decide +kernel
theorem dX0_showOnce_44 : decode cX0_showOnce 44 = .ok (.iload_n 2, 1) := by decide +kernel
theorem dX0_showOnce_45 : decode cX0_showOnce 45 = .ok (.aload_n 0, 1) := by decide +kernel
theorem dX0_showOnce_46 : decode cX0_showOnce 46 = .ok (.getfield 57, 3) := by decide +kernel
theorem dX0_showOnce_49 : decode cX0_showOnce 49 = .ok (.bipush 7, 2) := by decide +kernel
theorem dX0_showOnce_51 : decode cX0_showOnce 51 = .ok (.iadd, 1) := by decide +kernel
theorem dX0_showOnce_52 : decode cX0_showOnce 52 = .ok (.iastore, 1) := by decide +kernel
theorem dX0_showOnce_53 : decode cX0_showOnce 53 = .ok (.return_, 1) := by decide +kernel
theorem dX0_clearShown_0 : decode cX0_clearShown 0 = .ok (.iconst 0, 1) := by decide +kernel
theorem dX0_clearShown_1 : decode cX0_clearShown 1 = .ok (.istore_n 3, 1) := by decide +kernel
theorem dX0_clearShown_2 : decode cX0_clearShown 2 = .ok (.iload_n 3, 1) := by decide +kernel
theorem dX0_clearShown_3 : decode cX0_clearShown 3 = .ok (.aload_n 0, 1) := by decide +kernel
theorem dX0_clearShown_4 : decode cX0_clearShown 4 = .ok (.getfield 53, 3) := by decide +kernel
theorem dX0_clearShown_7 : decode cX0_clearShown 7 = .ok (.if_icmp .ge 35, 3) := by decide +kernel
theorem dX0_clearShown_10 : decode cX0_clearShown 10 = .ok (.iload_n 2, 1) := by decide +kernel
theorem dX0_clearShown_11 : decode cX0_clearShown 11 = .ok (.iload_n 3, 1) := by decide +kernel
theorem dX0_clearShown_12 : decode cX0_clearShown 12 = .ok (.invokestatic 67, 3) := by decide +kernel
theorem dX0_clearShown_15 : decode cX0_clearShown 15 = .ok (.ifCond .eq 21, 3) := by decide +kernel
theorem dX0_clearShown_18 : decode cX0_clearShown 18 = .ok (.aload_n 0, 1) := by decide +kernel
theorem dX0_clearShown_19 : decode cX0_clearShown 19 = .ok (.getfield 44, 3) := by decide +kernel
theorem dX0_clearShown_22 : decode cX0_clearShown 22 = .ok (.iload_n 1, 1) := by decide +kernel
theorem dX0_clearShown_23 : decode cX0_clearShown 23 = .ok (.aaload, 1) := by decide +kernel
theorem dX0_clearShown_24 : decode cX0_clearShown 24 = .ok (.iload_n 3, 1) := by decide +kernel
theorem dX0_clearShown_25 : decode cX0_clearShown 25 = .ok (.iconst 0, 1) := by decide +kernel
theorem dX0_clearShown_26 : decode cX0_clearShown 26 = .ok (.iastore, 1) := by decide +kernel
theorem dX0_clearShown_27 : decode cX0_clearShown 27 = .ok (.aload_n 0, 1) := by decide +kernel
theorem dX0_clearShown_28 : decode cX0_clearShown 28 = .ok (.getfield 47, 3) := by decide +kernel
theorem dX0_clearShown_31 : decode cX0_clearShown 31 = .ok (.iload_n 1, 1) := by decide +kernel
theorem dX0_clearShown_32 : decode cX0_clearShown 32 = .ok (.aaload, 1) := by decide +kernel
theorem dX0_clearShown_33 : decode cX0_clearShown 33 = .ok (.iload_n 3, 1) := by decide +kernel
theorem dX0_clearShown_34 : decode cX0_clearShown 34 = .ok (.iconst 0, 1) := by decide +kernel
theorem dX0_clearShown_35 : decode cX0_clearShown 35 = .ok (.iastore, 1) := by decide +kernel
theorem dX0_clearShown_36 : decode cX0_clearShown 36 = .ok (.iinc 3 1, 3) := by decide +kernel
theorem dX0_clearShown_39 : decode cX0_clearShown 39 = .ok (.goto (-37), 3) := by decide +kernel
theorem dX0_clearShown_42 : decode cX0_clearShown 42 = .ok (.return_, 1) := by decide +kernel
theorem dJ6_bitCount_0f7a4_0 : decode cJ6_bitCount_0f7a4 0 = .ok (.iload_n 0, 1) := by decide +kernel
theorem dJ6_bitCount_0f7a4_1 : decode cJ6_bitCount_0f7a4 1 = .ok (.iload_n 0, 1) := by decide +kernel
theorem dJ6_bitCount_0f7a4_2 : decode cJ6_bitCount_0f7a4 2 = .ok (.iconst 1, 1) := by decide +kernel
theorem dJ6_bitCount_0f7a4_3 : decode cJ6_bitCount_0f7a4 3 = .ok (.iushr, 1) := by decide +kernel
theorem dJ6_bitCount_0f7a4_4 : decode cJ6_bitCount_0f7a4 4 = .ok (.ldc_w 265, 3) := by decide +kernel
theorem dJ6_bitCount_0f7a4_7 : decode cJ6_bitCount_0f7a4 7 = .ok (.iand, 1) := by decide +kernel
theorem dJ6_bitCount_0f7a4_8 : decode cJ6_bitCount_0f7a4 8 = .ok (.isub, 1) := by decide +kernel
theorem dJ6_bitCount_0f7a4_9 : decode cJ6_bitCount_0f7a4 9 = .ok (.istore_n 0, 1) := by decide +kernel
theorem dJ6_bitCount_0f7a4_10 : decode cJ6_bitCount_0f7a4 10 = .ok (.iload_n 0, 1) := by decide +kernel
theorem dJ6_bitCount_0f7a4_11 : decode cJ6_bitCount_0f7a4 11 = .ok (.ldc_w 266, 3) := by decide +kernel
theorem dJ6_bitCount_0f7a4_14 : decode cJ6_bitCount_0f7a4 14 = .ok (.iand, 1) := by decide +kernel
theorem dJ6_bitCount_0f7a4_15 : decode cJ6_bitCount_0f7a4 15 = .ok (.iload_n 0, 1) := by decide +kernel
theorem dJ6_bitCount_0f7a4_16 : decode cJ6_bitCount_0f7a4 16 = .ok (.iconst 2, 1) := by decide +kernel
theorem dJ6_bitCount_0f7a4_17 : decode cJ6_bitCount_0f7a4 17 = .ok (.iushr, 1) := by decide +kernel
theorem dJ6_bitCount_0f7a4_18 : decode cJ6_bitCount_0f7a4 18 = .ok (.ldc_w 266, 3) := by decide +kernel
theorem dJ6_bitCount_0f7a4_21 : decode cJ6_bitCount_0f7a4 21 = .ok (.iand, 1) := by decide +kernel
theorem dJ6_bitCount_0f7a4_22 : decode cJ6_bitCount_0f7a4 22 = .ok (.iadd, 1) := by decide +kernel
theorem dJ6_bitCount_0f7a4_23 : decode cJ6_bitCount_0f7a4 23 = .ok (.istore_n 0, 1) := by decide +kernel
theorem dJ6_bitCount_0f7a4_24 : decode cJ6_bitCount_0f7a4 24 = .ok (.iload_n 0, 1) := by decide +kernel
theorem dJ6_bitCount_0f7a4_25 : decode cJ6_bitCount_0f7a4 25 = .ok (.iload_n 0, 1) := by decide +kernel
theorem dJ6_bitCount_0f7a4_26 : decode cJ6_bitCount_0f7a4 26 = .ok (.iconst 4, 1) := by decide +kernel
theorem dJ6_bitCount_0f7a4_27 : decode cJ6_bitCount_0f7a4 27 = .ok (.iushr, 1) := by decide +kernel
theorem dJ6_bitCount_0f7a4_28 : decode cJ6_bitCount_0f7a4 28 = .ok (.iadd, 1) := by decide +kernel
theorem dJ6_bitCount_0f7a4_29 : decode cJ6_bitCount_0f7a4 29 = .ok (.ldc_w 267, 3) := by decide +kernel
theorem dJ6_bitCount_0f7a4_32 : decode cJ6_bitCount_0f7a4 32 = .ok (.iand, 1) := by decide +kernel
theorem dJ6_bitCount_0f7a4_33 : decode cJ6_bitCount_0f7a4 33 = .ok (.istore_n 0, 1) := by decide +kernel
theorem dJ6_bitCount_0f7a4_34 : decode cJ6_bitCount_0f7a4 34 = .ok (.iload_n 0, 1) := by decide +kernel
theorem dJ6_bitCount_0f7a4_35 : decode cJ6_bitCount_0f7a4 35 = .ok (.iload_n 0, 1) := by decide +kernel
theorem dJ6_bitCount_0f7a4_36 : decode cJ6_bitCount_0f7a4 36 = .ok (.bipush 8, 2) := by decide +kernel
theorem dJ6_bitCount_0f7a4_38 : decode cJ6_bitCount_0f7a4 38 = .ok (.iushr, 1) := by decide +kernel
theorem dJ6_bitCount_0f7a4_39 : decode cJ6_bitCount_0f7a4 39 = .ok (.iadd, 1) := by decide +kernel
theorem dJ6_bitCount_0f7a4_40 : decode cJ6_bitCount_0f7a4 40 = .ok (.istore_n 0, 1) := by decide +kernel
theorem dJ6_bitCount_0f7a4_41 : decode cJ6_bitCount_0f7a4 41 = .ok (.iload_n 0, 1) := by decide +kernel
theorem dJ6_bitCount_0f7a4_42 : decode cJ6_bitCount_0f7a4 42 = .ok (.iload_n 0, 1) := by decide +kernel
theorem dJ6_bitCount_0f7a4_43 : decode cJ6_bitCount_0f7a4 43 = .ok (.bipush 16, 2) := by decide +kernel
theorem dJ6_bitCount_0f7a4_45 : decode cJ6_bitCount_0f7a4 45 = .ok (.iushr, 1) := by decide +kernel
theorem dJ6_bitCount_0f7a4_46 : decode cJ6_bitCount_0f7a4 46 = .ok (.iadd, 1) := by decide +kernel
theorem dJ6_bitCount_0f7a4_47 : decode cJ6_bitCount_0f7a4 47 = .ok (.istore_n 0, 1) := by decide +kernel
theorem dJ6_bitCount_0f7a4_48 : decode cJ6_bitCount_0f7a4 48 = .ok (.iload_n 0, 1) := by decide +kernel
theorem dJ6_bitCount_0f7a4_49 : decode cJ6_bitCount_0f7a4 49 = .ok (.bipush 63, 2) := by decide +kernel
theorem dJ6_bitCount_0f7a4_51 : decode cJ6_bitCount_0f7a4 51 = .ok (.iand, 1) := by decide +kernel
theorem dJ6_bitCount_0f7a4_52 : decode cJ6_bitCount_0f7a4 52 = .ok (.ireturn, 1) := by decide +kernel
theorem dJ9_max_7cf53_0 : decode cJ9_max_7cf53 0 = .ok (.iload_n 0, 1) := by decide +kernel
theorem dJ9_max_7cf53_1 : decode cJ9_max_7cf53 1 = .ok (.iload_n 1, 1) := by decide +kernel
theorem dJ9_max_7cf53_2 : decode cJ9_max_7cf53 2 = .ok (.if_icmp .lt 7, 3) := by decide +kernel
theorem dJ9_max_7cf53_5 : decode cJ9_max_7cf53 5 = .ok (.iload_n 0, 1) := by decide +kernel
theorem dJ9_max_7cf53_6 : decode cJ9_max_7cf53 6 = .ok (.goto 4, 3) := by decide +kernel
theorem dJ9_max_7cf53_9 : decode cJ9_max_7cf53 9 = .ok (.iload_n 1, 1) := by decide +kernel
theorem dJ9_max_7cf53_10 : decode cJ9_max_7cf53 10 = .ok (.ireturn, 1) := by decide +kernel
end
section
theorem dX1_init_0 : decode cX1_init 0 = .ok (.aload_n 0, 1) := by decide +kernel
theorem dX1_init_1 : decode cX1_init 1 = .ok (.invokespecial 1, 3) := by decide +kernel
theorem dX1_init_4 : decode cX1_init 4 = .ok (.aload_n 0, 1) := by decide +kernel
theorem dX1_init_5 : decode cX1_init 5 = .ok (.iconst 2, 1) := by decide +kernel
theorem dX1_init_6 : decode cX1_init 6 = .ok (.putfield 7, 3) := by decide +kernel
theorem dX1_init_9 : decode cX1_init 9 = .ok (.aload_n 0, 1) := by decide +kernel
theorem dX1_init_10 : decode cX1_init 10 = .ok (.iconst 2, 1) := by decide +kernel
theorem dX1_init_11 : decode cX1_init 11 = .ok (.putfield 13, 3) := by decide +kernel
theorem dX1_init_14 : decode cX1_init 14 = .ok (.aload_n 0, 1) := by decide +kernel
theorem dX1_init_15 : decode cX1_init 15 = .ok (.iconst 3, 1) := by decide +kernel
theorem dX1_init_16 : decode cX1_init 16 = .ok (.putfield 16, 3) := by decide +kernel
theorem dX1_init_19 : decode cX1_init 19 = .ok (.aload_n 0, 1) := by decide +kernel
theorem dX1_init_20 : decode cX1_init 20 = .ok (.iconst 3, 1) := by decide +kernel
theorem dX1_init_21 : decode cX1_init 21 = .ok (.putfield 19, 3) := by decide +kernel
theorem dX1_init_24 : decode cX1_init 24 = .ok (.aload_n 0, 1) := by decide +kernel
theorem dX1_init_25 : decode cX1_init 25 = .ok (.bipush 12, 2) := by decide +kernel
theorem dX1_init_27 : decode cX1_init 27 = .ok (.newarray .int, 2) := by decide +kernel
theorem dX1_init_29 : decode cX1_init 29 = .ok (.putfield 22, 3) := by decide +kernel
theorem dX1_init_32 : decode cX1_init 32 = .ok (.aload_n 0, 1) := by decide +kernel
theorem dX1_init_33 : decode cX1_init 33 = .ok (.bipush 12, 2) := by decide +kernel
theorem dX1_init_35 : decode cX1_init 35 = .ok (.newarray .int, 2) := by decide +kernel
theorem dX1_init_37 : decode cX1_init 37 = .ok (.putfield 26, 3) := by decide +kernel
theorem dX1_init_40 : decode cX1_init 40 = .ok (.aload_n 0, 1) := by decide +kernel
theorem dX1_init_41 : decode cX1_init 41 = .ok (.bipush 12, 2) := by decide +kernel
theorem dX1_init_43 : decode cX1_init 43 = .ok (.newarray .int, 2) := by decide +kernel
theorem dX1_init_45 : decode cX1_init 45 = .ok (.putfield 29, 3) := by decide +kernel
theorem dX1_init_48 : decode cX1_init 48 = .ok (.aload_n 0, 1) := by decide +kernel
theorem dX1_init_49 : decode cX1_init 49 = .ok (.bipush 60, 2) := by decide +kernel
theorem dX1_init_51 : decode cX1_init 51 = .ok (.newarray .int, 2) := by decide +kernel
theorem dX1_init_53 : decode cX1_init 53 = .ok (.putfield 32, 3) := by decide +kernel
theorem dX1_init_56 : decode cX1_init 56 = .ok (.aload_n 0, 1) := by decide +kernel
theorem dX1_init_57 : decode cX1_init 57 = .ok (.bipush 60, 2) := by decide +kernel
theorem dX1_init_59 : decode cX1_init 59 = .ok (.newarray .int, 2) := by decide +kernel
theorem dX1_init_61 : decode cX1_init 61 = .ok (.putfield 35, 3) := by decide +kernel
theorem dX1_init_64 : decode cX1_init 64 = .ok (.aload_n 0, 1) := by decide +kernel
theorem dX1_init_65 : decode cX1_init 65 = .ok (.bipush 60, 2) := by decide +kernel
theorem dX1_init_67 : decode cX1_init 67 = .ok (.newarray .int, 2) := by decide +kernel
theorem dX1_init_69 : decode cX1_init 69 = .ok (.putfield 38, 3) := by decide +kernel
theorem dX1_init_72 : decode cX1_init 72 = .ok (.aload_n 0, 1) := by decide +kernel
theorem dX1_init_73 : decode cX1_init 73 = .ok (.bipush 8, 2) := by decide +kernel
theorem dX1_init_75 : decode cX1_init 75 = .ok (.newarray .int, 2) := by decide +kernel
theorem dX1_init_77 : decode cX1_init 77 = .ok (.putfield 41, 3) := by decide +kernel
theorem dX1_init_80 : decode cX1_init 80 = .ok (.aload_n 0, 1) := by decide +kernel
theorem dX1_init_81 : decode cX1_init 81 = .ok (.bipush 96, 2) := by decide +kernel
theorem dX1_init_83 : decode cX1_init 83 = .ok (.newarray .int, 2) := by decide +kernel
theorem dX1_init_85 : decode cX1_init 85 = .ok (.putfield 44, 3) := by decide +kernel
theorem dX1_init_88 : decode cX1_init 88 = .ok (.aload_n 0, 1) := by decide +kernel
theorem dX1_init_89 : decode cX1_init 89 = .ok (.bipush 96, 2) := by decide +kernel
theorem dX1_init_91 : decode cX1_init 91 = .ok (.newarray .int, 2) := by decide +kernel
theorem dX1_init_93 : decode cX1_init 93 = .ok (.putfield 47, 3) := by decide +kernel
theorem dX1_init_96 : decode cX1_init 96 = .ok (.aload_n 0, 1) := by decide +kernel
theorem dX1_init_97 : decode cX1_init 97 = .ok (.bipush 12, 2) := by decide +kernel
theorem dX1_init_99 : decode cX1_init 99 = .ok (.newarray .int, 2) := by decide +kernel
theorem dX1_init_101 : decode cX1_init 101 = .ok (.putfield 50, 3) := by decide +kernel
theorem dX1_init_104 : decode cX1_init 104 = .ok (.return_, 1) := by decide +kernel
theorem dX1_isIn_0 : decode cX1_isIn 0 = .ok (.iload_n 0, 1) := by decide +kernel
theorem dX1_isIn_1 : decode cX1_isIn 1 = .ok (.iload_n 1, 1) := by decide +kernel
theorem dX1_isIn_2 : decode cX1_isIn 2 = .ok (.if_icmp .lt 12, 3) := by decide +kernel
theorem dX1_isIn_5 : decode cX1_isIn 5 = .ok (.iload_n 0, 1) := by decide +kernel
theorem dX1_isIn_6 : decode cX1_isIn 6 = .ok (.iload_n 2, 1) := by decide +kernel
theorem dX1_isIn_7 : decode cX1_isIn 7 = .ok (.if_icmp .gt 7, 3) := by decide +kernel
theorem dX1_isIn_10 : decode cX1_isIn 10 = .ok (.iconst 1, 1) := by decide +kernel
theorem dX1_isIn_11 : decode cX1_isIn 11 = .ok (.goto 4, 3) := by decide +kernel
theorem dX1_isIn_14 : decode cX1_isIn 14 = .ok (.iconst 0, 1) := by decide +kernel
theorem dX1_isIn_15 : decode cX1_isIn 15 = .ok (.ireturn, 1) := by decide +kernel
theorem dX1_isThing_0 : decode cX1_isThing 0 = .ok (.iload_n 1, 1) := by decide +kernel
theorem dX1_isThing_1 : decode cX1_isThing 1 = .ok (.iconst 0, 1) := by decide +kernel
theorem dX1_isThing_2 : decode cX1_isThing 2 = .ok (.aload_n 0, 1) := by decide +kernel
theorem dX1_isThing_3 : decode cX1_isThing 3 = .ok (.getfield 53, 3) := by decide +kernel
theorem dX1_isThing_6 : decode cX1_isThing 6 = .ok (.iconst 1, 1) := by decide +kernel
theorem dX1_isThing_7 : decode cX1_isThing 7 = .ok (.isub, 1) := by decide +kernel
theorem dX1_isThing_8 : decode cX1_isThing 8 = .ok (.invokestatic 56, 3) := by decide +kernel
theorem dX1_isThing_11 : decode cX1_isThing 11 = .ok (.ireturn, 1) := by decide +kernel
theorem dX1_isPerson_0 : decode cX1_isPerson 0 = .ok (.iload_n 0, 1) := by decide +kernel
theorem dX1_isPerson_1 : decode cX1_isPerson 1 = .ok (.iconst 0, 1) := by decide +kernel
theorem dX1_isPerson_2 : decode cX1_isPerson 2 = .ok (.bipush 7, 2) := by decide +kernel
theorem dX1_isPerson_4 : decode cX1_isPerson 4 = .ok (.invokestatic 56, 3) := by decide +kernel
theorem dX1_isPerson_7 : decode cX1_isPerson 7 = .ok (.ireturn, 1) := by decide +kernel
theorem dX1_thing_0 : decode cX1_thing 0 = .ok (.iload_n 1, 1) := by decide +kernel
theorem dX1_thing_1 : decode cX1_thing 1 = .ok (.iconst 0, 1) := by decide +kernel
theorem dX1_thing_2 : decode cX1_thing 2 = .ok (.iconst 3, 1) := by decide +kernel
theorem dX1_thing_3 : decode cX1_thing 3 = .ok (.invokestatic 56, 3) := by decide +kernel
theorem dX1_thing_6 : decode cX1_thing 6 = .ok (.ifCond .eq 12, 3) := by decide +kernel
theorem dX1_thing_9 : decode cX1_thing 9 = .ok (.aload_n 0, 1) := by decide +kernel
theorem dX1_thing_10 : decode cX1_thing 10 = .ok (.getfield 53, 3) := by decide +kernel
theorem dX1_thing_13 : decode cX1_thing 13 = .ok (.bipush 12, 2) := by decide +kernel
theorem dX1_thing_15 : decode cX1_thing 15 = .ok (.if_icmp .ne 5, 3) := by decide +kernel
theorem dX1_thing_18 : decode cX1_thing 18 = .ok (.iconst (-1), 1) := by decide +kernel
theorem dX1_thing_19 : decode cX1_thing 19 = .ok (.ireturn, 1) := by decide +kernel
theorem dX1_thing_20 : decode cX1_thing 20 = .ok (.aload_n 0, 1) := by decide +kernel
theorem dX1_thing_21 : decode cX1_thing 21 = .ok (.getfield 22, 3) := by decide +kernel
theorem dX1_thing_24 : decode cX1_thing 24 = .ok (.aload_n 0, 1) := by decide +kernel
theorem dX1_thing_25 : decode cX1_thing 25 = .ok (.getfield 53, 3) := by decide +kernel
theorem dX1_thing_28 : decode cX1_thing 28 = .ok (.iload_n 1, 1) := by decide +kernel
theorem dX1_thing_29 : decode cX1_thing 29 = .ok (.iastore, 1) := by decide +kernel
theorem dX1_thing_30 : decode cX1_thing 30 = .ok (.aload_n 0, 1) := by decide +kernel
theorem dX1_thing_31 : decode cX1_thing 31 = .ok (.getfield 26, 3) := by decide +kernel
theorem dX1_thing_34 : decode cX1_thing 34 = .ok (.aload_n 0, 1) := by decide +kernel
theorem dX1_thing_35 : decode cX1_thing 35 = .ok (.getfield 53, 3) := by decide +kernel
theorem dX1_thing_38 : decode cX1_thing 38 = .ok (.aload_n 0, 1) := by decide +kernel
theorem dX1_thing_39 : decode cX1_thing 39 = .ok (.getfield 60, 3) := by decide +kernel
theorem dX1_thing_42 : decode cX1_thing 42 = .ok (.iastore, 1) := by decide +kernel
theorem dX1_thing_43 : decode cX1_thing 43 = .ok (.aload_n 0, 1) := by decide +kernel
theorem dX1_thing_44 : decode cX1_thing 44 = .ok (.dup, 1) := by decide +kernel
theorem dX1_thing_45 : decode cX1_thing 45 = .ok (.getfield 63, 3) := by decide +kernel
theorem dX1_thing_48 : decode cX1_thing 48 = .ok (.iconst 1, 1) := by decide +kernel
theorem dX1_thing_49 : decode cX1_thing 49 = .ok (.aload_n 0, 1) := by decide +kernel
theorem dX1_thing_50 : decode cX1_thing 50 = .ok (.getfield 53, 3) := by decide +kernel
theorem dX1_thing_53 : decode cX1_thing 53 = .ok (.ishl, 1) := by decide +kernel
theorem dX1_thing_54 : decode cX1_thing 54 = .ok (.ior, 1) := by decide +kernel
theorem dX1_thing_55 : decode cX1_thing 55 = .ok (.putfield 63, 3) := by decide +kernel
theorem dX1_thing_58 : decode cX1_thing 58 = .ok (.aload_n 0, 1) := by decide +kernel
theorem dX1_thing_59 : decode cX1_thing 59 = .ok (.dup, 1) := by decide +kernel
theorem dX1_thing_60 : decode cX1_thing 60 = .ok (.getfield 53, 3) := by decide +kernel
theorem dX1_thing_63 : decode cX1_thing 63 = .ok (.iconst 1, 1) := by decide +kernel
theorem dX1_thing_64 : decode cX1_thing 64 = .ok (.iadd, 1) := by decide +kernel
theorem dX1_thing_65 : decode cX1_thing 65 = .ok (.putfield 53, 3) := by decide +kernel
theorem dX1_thing_68 : decode cX1_thing 68 = .ok (.aload_n 0, 1) := by decide +kernel
theorem dX1_thing_69 : decode cX1_thing 69 = .ok (.getfield 53, 3) := by decide +kernel
theorem dX1_thing_72 : decode cX1_thing 72 = .ok (.iconst 1, 1) := by decide +kernel
theorem dX1_thing_73 : decode cX1_thing 73 = .ok (.isub, 1) := by decide +kernel
theorem dX1_thing_74 : decode cX1_thing 74 = .ok (.ireturn, 1) := by decide +kernel
theorem dX1_stock_0 : decode cX1_stock 0 = .ok (.aload_n 0, 1) := by decide +kernel
theorem dX1_stock_1 : decode cX1_stock 1 = .ok (.iload_n 1, 1) := by decide +kernel
theorem dX1_stock_2 : decode cX1_stock 2 = .ok (.invokevirtual 66, 3) := by decide +kernel
theorem dX1_stock_5 : decode cX1_stock 5 = .ok (.ifCond .eq 24, 3) := by decide +kernel
theorem dX1_stock_8 : decode cX1_stock 8 = .ok (.aload_n 0, 1) := by decide +kernel
theorem dX1_stock_9 : decode cX1_stock 9 = .ok (.getfield 63, 3) := by decide +kernel
theorem dX1_stock_12 : decode cX1_stock 12 = .ok (.iload_n 1, 1) := by decide +kernel
theorem dX1_stock_13 : decode cX1_stock 13 = .ok (.ishr, 1) := by decide +kernel
theorem dX1_stock_14 : decode cX1_stock 14 = .ok (.iconst 1, 1) := by decide +kernel
theorem dX1_stock_15 : decode cX1_stock 15 = .ok (.iand, 1) := by decide +kernel
theorem dX1_stock_16 : decode cX1_stock 16 = .ok (.iconst 1, 1) := by decide +kernel
theorem dX1_stock_17 : decode cX1_stock 17 = .ok (.if_icmp .ne 7, 3) := by decide +kernel
theorem dX1_stock_20 : decode cX1_stock 20 = .ok (.iconst 1, 1) := by decide +kernel
theorem dX1_stock_21 : decode cX1_stock 21 = .ok (.goto 4, 3) := by decide +kernel
theorem dX1_stock_24 : decode cX1_stock 24 = .ok (.iconst 0, 1) := by decide +kernel
theorem dX1_stock_25 : decode cX1_stock 25 = .ok (.iload_n 2, 1) := by decide +kernel
theorem dX1_stock_26 : decode cX1_stock 26 = .ok (.if_icmp .ne 5, 3) := by decide +kernel
theorem dX1_stock_29 : decode cX1_stock 29 = .ok (.iconst 0, 1) := by decide +kernel
theorem dX1_stock_30 : decode cX1_stock 30 = .ok (.ireturn, 1) := by decide +kernel
theorem dX1_stock_31 : decode cX1_stock 31 = .ok (.aload_n 0, 1) := by decide +kernel
theorem dX1_stock_32 : decode cX1_stock 32 = .ok (.dup, 1) := by decide +kernel
theorem dX1_stock_33 : decode cX1_stock 33 = .ok (.getfield 63, 3) := by decide +kernel
theorem dX1_stock_36 : decode cX1_stock 36 = .ok (.iconst 1, 1) := by decide +kernel
theorem dX1_stock_37 : decode cX1_stock 37 = .ok (.iload_n 1, 1) := by decide +kernel
theorem dX1_stock_38 : decode cX1_stock 38 = .ok (.ishl, 1) := by decide +kernel
theorem dX1_stock_39 : decode cX1_stock 39 = .ok (.ixor, 1) := by decide +kernel
theorem dX1_stock_40 : decode cX1_stock 40 = .ok (.putfield 63, 3) := by decide +kernel
theorem dX1_stock_43 : decode cX1_stock 43 = .ok (.iconst 1, 1) := by decide +kernel
theorem dX1_stock_44 : decode cX1_stock 44 = .ok (.ireturn, 1) := by decide +kernel
theorem dX1_set_0 : decode cX1_set 0 = .ok (.iload_n 1, 1) := by decide +kernel
theorem dX1_set_1 : decode cX1_set 1 = .ok (.iconst 0, 1) := by decide +kernel
theorem dX1_set_2 : decode cX1_set 2 = .ok (.iconst 3, 1) := by decide +kernel
theorem dX1_set_3 : decode cX1_set 3 = .ok (.invokestatic 56, 3) := by decide +kernel
theorem dX1_set_6 : decode cX1_set 6 = .ok (.ifCond .eq 30, 3) := by decide +kernel
theorem dX1_set_9 : decode cX1_set 9 = .ok (.iload_n 2, 1) := by decide +kernel
theorem dX1_set_10 : decode cX1_set 10 = .ok (.iconst 1, 1) := by decide +kernel
theorem dX1_set_11 : decode cX1_set 11 = .ok (.iload_n 1, 1) := by decide +kernel
theorem dX1_set_12 : decode cX1_set 12 = .ok (.ifCond .ne 7, 3) := by decide +kernel
theorem dX1_set_15 : decode cX1_set 15 = .ok (.iconst 4, 1) := by decide +kernel
theorem dX1_set_16 : decode cX1_set 16 = .ok (.goto 14, 3) := by decide +kernel
theorem dX1_set_19 : decode cX1_set 19 = .ok (.iload_n 1, 1) := by decide +kernel
theorem dX1_set_20 : decode cX1_set 20 = .ok (.iconst 1, 1) := by decide +kernel
theorem dX1_set_21 : decode cX1_set 21 = .ok (.if_icmp .ne 7, 3) := by decide +kernel
theorem dX1_set_24 : decode cX1_set 24 = .ok (.iconst 5, 1) := by decide +kernel
theorem dX1_set_25 : decode cX1_set 25 = .ok (.goto 5, 3) := by decide +kernel
theorem dX1_set_28 : decode cX1_set 28 = .ok (.bipush 9, 2) := by decide +kernel
theorem dX1_set_30 : decode cX1_set 30 = .ok (.invokestatic 56, 3) := by decide +kernel
theorem dX1_set_33 : decode cX1_set 33 = .ok (.ifCond .ne 5, 3) := by decide +kernel
theorem dX1_set_36 : decode cX1_set 36 = .ok (.iconst 0, 1) := by decide +kernel
theorem dX1_set_37 : decode cX1_set 37 = .ok (.ireturn, 1) := by decide +kernel
theorem dX1_set_38 : decode cX1_set 38 = .ok (.iload_n 1, 1) := by decide +kernel
theorem dX1_set_39 : decode cX1_set 39 = .ok (.ifCond .ne 11, 3) := by decide +kernel
theorem dX1_set_42 : decode cX1_set 42 = .ok (.aload_n 0, 1) := by decide +kernel
theorem dX1_set_43 : decode cX1_set 43 = .ok (.iload_n 2, 1) := by decide +kernel
theorem dX1_set_44 : decode cX1_set 44 = .ok (.putfield 7, 3) := by decide +kernel
theorem dX1_set_47 : decode cX1_set 47 = .ok (.goto 34, 3) := by decide +kernel
theorem dX1_set_50 : decode cX1_set 50 = .ok (.iload_n 1, 1) := by decide +kernel
theorem dX1_set_51 : decode cX1_set 51 = .ok (.iconst 1, 1) := by decide +kernel
theorem dX1_set_52 : decode cX1_set 52 = .ok (.if_icmp .ne 11, 3) := by decide +kernel
theorem dX1_set_55 : decode cX1_set 55 = .ok (.aload_n 0, 1) := by decide +kernel
theorem dX1_set_56 : decode cX1_set 56 = .ok (.iload_n 2, 1) := by decide +kernel
theorem dX1_set_57 : decode cX1_set 57 = .ok (.putfield 13, 3) := by decide +kernel
theorem dX1_set_60 : decode cX1_set 60 = .ok (.goto 21, 3) := by decide +kernel
theorem dX1_set_63 : decode cX1_set 63 = .ok (.iload_n 1, 1) := by decide +kernel
theorem dX1_set_64 : decode cX1_set 64 = .ok (.iconst 2, 1) := by decide +kernel
theorem dX1_set_65 : decode cX1_set 65 = .ok (.if_icmp .ne 11, 3) := by decide +kernel
theorem dX1_set_68 : decode cX1_set 68 = .ok (.aload_n 0, 1) := by decide +kernel
theorem dX1_set_69 : decode cX1_set 69 = .ok (.iload_n 2, 1) := by decide +kernel
theorem dX1_set_70 : decode cX1_set 70 = .ok (.putfield 16, 3) := by decide +kernel
theorem dX1_set_73 : decode cX1_set 73 = .ok (.goto 8, 3) := by decide +kernel
theorem dX1_set_76 : decode cX1_set 76 = .ok (.aload_n 0, 1) := by decide +kernel
theorem dX1_set_77 : decode cX1_set 77 = .ok (.iload_n 2, 1) := by decide +kernel
theorem dX1_set_78 : decode cX1_set 78 = .ok (.putfield 19, 3) := by decide +kernel
theorem dX1_set_81 : decode cX1_set 81 = .ok (.iconst 1, 1) := by decide +kernel
theorem dX1_set_82 : decode cX1_set 82 = .ok (.ireturn, 1) := by decide +kernel
theorem dX1_apart_0 : decode cX1_apart 0 = .ok (.aload_n 0, 1) := by decide +kernel
theorem dX1_apart_1 : decode cX1_apart 1 = .ok (.iload_n 1, 1) := by decide +kernel
theorem dX1_apart_2 : decode cX1_apart 2 = .ok (.invokevirtual 66, 3) := by decide +kernel
theorem dX1_apart_5 : decode cX1_apart 5 = .ok (.ifCond .eq 39, 3) := by decide +kernel
theorem dX1_apart_8 : decode cX1_apart 8 = .ok (.aload_n 0, 1) := by decide +kernel
theorem dX1_apart_9 : decode cX1_apart 9 = .ok (.iload_n 2, 1) := by decide +kernel
theorem dX1_apart_10 : decode cX1_apart 10 = .ok (.invokevirtual 66, 3) := by decide +kernel
theorem dX1_apart_13 : decode cX1_apart 13 = .ok (.ifCond .eq 31, 3) := by decide +kernel
theorem dX1_apart_16 : decode cX1_apart 16 = .ok (.iload_n 1, 1) := by decide +kernel
theorem dX1_apart_17 : decode cX1_apart 17 = .ok (.iload_n 2, 1) := by decide +kernel
theorem dX1_apart_18 : decode cX1_apart 18 = .ok (.if_icmp .eq 26, 3) := by decide +kernel
theorem dX1_apart_21 : decode cX1_apart 21 = .ok (.aload_n 0, 1) := by decide +kernel
theorem dX1_apart_22 : decode cX1_apart 22 = .ok (.getfield 29, 3) := by decide +kernel
theorem dX1_apart_25 : decode cX1_apart 25 = .ok (.iload_n 1, 1) := by decide +kernel
theorem dX1_apart_26 : decode cX1_apart 26 = .ok (.iaload, 1) := by decide +kernel
theorem dX1_apart_27 : decode cX1_apart 27 = .ok (.iload_n 2, 1) := by decide +kernel
theorem dX1_apart_28 : decode cX1_apart 28 = .ok (.ishr, 1) := by decide +kernel
theorem dX1_apart_29 : decode cX1_apart 29 = .ok (.iconst 1, 1) := by decide +kernel
theorem dX1_apart_30 : decode cX1_apart 30 = .ok (.iand, 1) := by decide +kernel
theorem dX1_apart_31 : decode cX1_apart 31 = .ok (.iconst 1, 1) := by decide +kernel
theorem dX1_apart_32 : decode cX1_apart 32 = .ok (.if_icmp .ne 7, 3) := by decide +kernel
theorem dX1_apart_35 : decode cX1_apart 35 = .ok (.iconst 1, 1) := by decide +kernel
theorem dX1_apart_36 : decode cX1_apart 36 = .ok (.goto 4, 3) := by decide +kernel
theorem dX1_apart_39 : decode cX1_apart 39 = .ok (.iconst 0, 1) := by decide +kernel
theorem dX1_apart_40 : decode cX1_apart 40 = .ok (.iload_n 3, 1) := by decide +kernel
theorem dX1_apart_41 : decode cX1_apart 41 = .ok (.if_icmp .ne 5, 3) := by decide +kernel
theorem dX1_apart_44 : decode cX1_apart 44 = .ok (.iconst 0, 1) := by decide +kernel
theorem dX1_apart_45 : decode cX1_apart 45 = .ok (.ireturn, 1) := by decide +kernel
theorem dX1_apart_46 : decode cX1_apart 46 = .ok (.aload_n 0, 1) := by decide +kernel
theorem dX1_apart_47 : decode cX1_apart 47 = .ok (.getfield 29, 3) := by decide +kernel
theorem dX1_apart_50 : decode cX1_apart 50 = .ok (.iload_n 1, 1) := by decide +kernel
theorem dX1_apart_51 : decode cX1_apart 51 = .ok (.dup2, 1) := by decide +kernel
theorem dX1_apart_52 : decode cX1_apart 52 = .ok (.iaload, 1) := by decide +kernel
theorem dX1_apart_53 : decode cX1_apart 53 = .ok (.iconst 1, 1) := by decide +kernel
theorem dX1_apart_54 : decode cX1_apart 54 = .ok (.iload_n 2, 1) := by decide +kernel
theorem dX1_apart_55 : decode cX1_apart 55 = .ok (.ishl, 1) := by decide +kernel
theorem dX1_apart_56 : decode cX1_apart 56 = .ok (.ixor, 1) := by decide +kernel
theorem dX1_apart_57 : decode cX1_apart 57 = .ok (.iastore, 1) := by decide +kernel
theorem dX1_apart_58 : decode cX1_apart 58 = .ok (.aload_n 0, 1) := by decide +kernel
theorem dX1_apart_59 : decode cX1_apart 59 = .ok (.getfield 29, 3) := by decide +kernel
theorem dX1_apart_62 : decode cX1_apart 62 = .ok (.iload_n 2, 1) := by decide +kernel
theorem dX1_apart_63 : decode cX1_apart 63 = .ok (.dup2, 1) := by decide +kernel
theorem dX1_apart_64 : decode cX1_apart 64 = .ok (.iaload, 1) := by decide +kernel
theorem dX1_apart_65 : decode cX1_apart 65 = .ok (.iconst 1, 1) := by decide +kernel
theorem dX1_apart_66 : decode cX1_apart 66 = .ok (.iload_n 1, 1) := by decide +kernel
theorem dX1_apart_67 : decode cX1_apart 67 = .ok (.ishl, 1) := by decide +kernel
theorem dX1_apart_68 : decode cX1_apart 68 = .ok (.ixor, 1) := by decide +kernel
theorem dX1_apart_69 : decode cX1_apart 69 = .ok (.iastore, 1) := by decide +kernel
theorem dX1_apart_70 : decode cX1_apart 70 = .ok (.iconst 1, 1) := by decide +kernel
theorem dX1_apart_71 : decode cX1_apart 71 = .ok (.ireturn, 1) := by decide +kernel
theorem dX1_basket_0 : decode cX1_basket 0 = .ok (.iload_n 1, 1) := by decide +kernel
theorem dX1_basket_1 : decode cX1_basket 1 = .ok (.invokestatic 70, 3) := by decide +kernel
theorem dX1_basket_4 : decode cX1_basket 4 = .ok (.ifCond .eq 28, 3) := by decide +kernel
theorem dX1_basket_7 : decode cX1_basket 7 = .ok (.iload_n 2, 1) := by decide +kernel
theorem dX1_basket_8 : decode cX1_basket 8 = .ok (.iconst 1, 1) := by decide +kernel
theorem dX1_basket_9 : decode cX1_basket 9 = .ok (.iconst 1, 1) := by decide +kernel
theorem dX1_basket_10 : decode cX1_basket 10 = .ok (.aload_n 0, 1) := by decide +kernel
theorem dX1_basket_11 : decode cX1_basket 11 = .ok (.getfield 53, 3) := by decide +kernel
theorem dX1_basket_14 : decode cX1_basket 14 = .ok (.ishl, 1) := by decide +kernel
theorem dX1_basket_15 : decode cX1_basket 15 = .ok (.iconst 1, 1) := by decide +kernel
theorem dX1_basket_16 : decode cX1_basket 16 = .ok (.isub, 1) := by decide +kernel
theorem dX1_basket_17 : decode cX1_basket 17 = .ok (.invokestatic 56, 3) := by decide +kernel
theorem dX1_basket_20 : decode cX1_basket 20 = .ok (.ifCond .eq 12, 3) := by decide +kernel
theorem dX1_basket_23 : decode cX1_basket 23 = .ok (.aload_n 0, 1) := by decide +kernel
theorem dX1_basket_24 : decode cX1_basket 24 = .ok (.getfield 73, 3) := by decide +kernel
theorem dX1_basket_27 : decode cX1_basket 27 = .ok (.bipush 60, 2) := by decide +kernel
theorem dX1_basket_29 : decode cX1_basket 29 = .ok (.if_icmp .ne 5, 3) := by decide +kernel
theorem dX1_basket_32 : decode cX1_basket 32 = .ok (.iconst (-1), 1) := by decide +kernel
theorem dX1_basket_33 : decode cX1_basket 33 = .ok (.ireturn, 1) := by decide +kernel
theorem dX1_basket_34 : decode cX1_basket 34 = .ok (.aload_n 0, 1) := by decide +kernel
theorem dX1_basket_35 : decode cX1_basket 35 = .ok (.getfield 32, 3) := by decide +kernel
theorem dX1_basket_38 : decode cX1_basket 38 = .ok (.aload_n 0, 1) := by decide +kernel
theorem dX1_basket_39 : decode cX1_basket 39 = .ok (.getfield 73, 3) := by decide +kernel
theorem dX1_basket_42 : decode cX1_basket 42 = .ok (.iload_n 1, 1) := by decide +kernel
theorem dX1_basket_43 : decode cX1_basket 43 = .ok (.iastore, 1) := by decide +kernel
theorem dX1_basket_44 : decode cX1_basket 44 = .ok (.aload_n 0, 1) := by decide +kernel
theorem dX1_basket_45 : decode cX1_basket 45 = .ok (.getfield 35, 3) := by decide +kernel
theorem dX1_basket_48 : decode cX1_basket 48 = .ok (.aload_n 0, 1) := by decide +kernel
theorem dX1_basket_49 : decode cX1_basket 49 = .ok (.getfield 73, 3) := by decide +kernel
theorem dX1_basket_52 : decode cX1_basket 52 = .ok (.aload_n 0, 1) := by decide +kernel
theorem dX1_basket_53 : decode cX1_basket 53 = .ok (.getfield 60, 3) := by decide +kernel
theorem dX1_basket_56 : decode cX1_basket 56 = .ok (.iastore, 1) := by decide +kernel
theorem dX1_basket_57 : decode cX1_basket 57 = .ok (.aload_n 0, 1) := by decide +kernel
theorem dX1_basket_58 : decode cX1_basket 58 = .ok (.getfield 38, 3) := by decide +kernel
theorem dX1_basket_61 : decode cX1_basket 61 = .ok (.aload_n 0, 1) := by decide +kernel
theorem dX1_basket_62 : decode cX1_basket 62 = .ok (.getfield 73, 3) := by decide +kernel
theorem dX1_basket_65 : decode cX1_basket 65 = .ok (.iload_n 2, 1) := by decide +kernel
theorem dX1_basket_66 : decode cX1_basket 66 = .ok (.iastore, 1) := by decide +kernel
theorem dX1_basket_67 : decode cX1_basket 67 = .ok (.aload_n 0, 1) := by decide +kernel
theorem dX1_basket_68 : decode cX1_basket 68 = .ok (.dup, 1) := by decide +kernel
theorem dX1_basket_69 : decode cX1_basket 69 = .ok (.getfield 73, 3) := by decide +kernel
theorem dX1_basket_72 : decode cX1_basket 72 = .ok (.iconst 1, 1) := by decide +kernel
theorem dX1_basket_73 : decode cX1_basket 73 = .ok (.iadd, 1) := by decide +kernel
theorem dX1_basket_74 : decode cX1_basket 74 = .ok (.putfield 73, 3) := by decide +kernel
theorem dX1_basket_77 : decode cX1_basket 77 = .ok (.iconst 0, 1) := by decide +kernel
theorem dX1_basket_78 : decode cX1_basket 78 = .ok (.istore_n 3, 1) := by decide +kernel
theorem dX1_basket_79 : decode cX1_basket 79 = .ok (.iload_n 3, 1) := by decide +kernel
theorem dX1_basket_80 : decode cX1_basket 80 = .ok (.aload_n 0, 1) := by decide +kernel
theorem dX1_basket_81 : decode cX1_basket 81 = .ok (.getfield 53, 3) := by decide +kernel
theorem dX1_basket_84 : decode cX1_basket 84 = .ok (.if_icmp .ge 44, 3) := by decide +kernel
theorem dX1_basket_87 : decode cX1_basket 87 = .ok (.iload_n 2, 1) := by decide +kernel
theorem dX1_basket_88 : decode cX1_basket 88 = .ok (.iload_n 3, 1) := by decide +kernel
theorem dX1_basket_89 : decode cX1_basket 89 = .ok (.ishr, 1) := by decide +kernel
theorem dX1_basket_90 : decode cX1_basket 90 = .ok (.iconst 1, 1) := by decide +kernel
theorem dX1_basket_91 : decode cX1_basket 91 = .ok (.iand, 1) := by decide +kernel
theorem dX1_basket_92 : decode cX1_basket 92 = .ok (.ifCond .ne 6, 3) := by decide +kernel
theorem dX1_basket_95 : decode cX1_basket 95 = .ok (.goto 27, 3) := by decide +kernel
theorem dX1_basket_98 : decode cX1_basket 98 = .ok (.aload_n 0, 1) := by decide +kernel
theorem dX1_basket_99 : decode cX1_basket 99 = .ok (.getfield 44, 3) := by decide +kernel
theorem dX1_basket_102 : decode cX1_basket 102 = .ok (.bipush 12, 2) := by decide +kernel
theorem dX1_basket_104 : decode cX1_basket 104 = .ok (.iload_n 1, 1) := by decide +kernel
theorem dX1_basket_105 : decode cX1_basket 105 = .ok (.imul, 1) := by decide +kernel
theorem dX1_basket_106 : decode cX1_basket 106 = .ok (.iload_n 3, 1) := by decide +kernel
theorem dX1_basket_107 : decode cX1_basket 107 = .ok (.iadd, 1) := by decide +kernel
theorem dX1_basket_108 : decode cX1_basket 108 = .ok (.iconst 0, 1) := by decide +kernel
theorem dX1_basket_109 : decode cX1_basket 109 = .ok (.iastore, 1) := by decide +kernel
theorem dX1_basket_110 : decode cX1_basket 110 = .ok (.aload_n 0, 1) := by decide +kernel
theorem dX1_basket_111 : decode cX1_basket 111 = .ok (.getfield 47, 3) := by decide +kernel
theorem dX1_basket_114 : decode cX1_basket 114 = .ok (.bipush 12, 2) := by decide +kernel
theorem dX1_basket_116 : decode cX1_basket 116 = .ok (.iload_n 1, 1) := by decide +kernel
theorem dX1_basket_117 : decode cX1_basket 117 = .ok (.imul, 1) := by decide +kernel
theorem dX1_basket_118 : decode cX1_basket 118 = .ok (.iload_n 3, 1) := by decide +kernel
theorem dX1_basket_119 : decode cX1_basket 119 = .ok (.iadd, 1) := by decide +kernel
theorem dX1_basket_120 : decode cX1_basket 120 = .ok (.iconst 0, 1) := by decide +kernel
theorem dX1_basket_121 : decode cX1_basket 121 = .ok (.iastore, 1) := by decide +kernel
theorem dX1_basket_122 : decode cX1_basket 122 = .ok (.iinc 3 1, 3) := by decide +kernel
theorem dX1_basket_125 : decode cX1_basket 125 = .ok (.goto (-46), 3) := by decide +kernel
theorem dX1_basket_128 : decode cX1_basket 128 = .ok (.aload_n 0, 1) := by decide +kernel
theorem dX1_basket_129 : decode cX1_basket 129 = .ok (.getfield 73, 3) := by decide +kernel
theorem dX1_basket_132 : decode cX1_basket 132 = .ok (.iconst 1, 1) := by decide +kernel
theorem dX1_basket_133 : decode cX1_basket 133 = .ok (.isub, 1) := by decide +kernel
theorem dX1_basket_134 : decode cX1_basket 134 = .ok (.ireturn, 1) := by decide +kernel
theorem dX1_goes_0 : decode cX1_goes 0 = .ok (.aload_n 0, 1) := by decide +kernel
theorem dX1_goes_1 : decode cX1_goes 1 = .ok (.dup, 1) := by decide +kernel
theorem dX1_goes_2 : decode cX1_goes 2 = .ok (.getfield 73, 3) := by decide +kernel
theorem dX1_goes_5 : decode cX1_goes 5 = .ok (.iconst 1, 1) := by decide +kernel
theorem dX1_goes_6 : decode cX1_goes 6 = .ok (.isub, 1) := by decide +kernel
theorem dX1_goes_7 : decode cX1_goes 7 = .ok (.putfield 73, 3) := by decide +kernel
theorem dX1_goes_10 : decode cX1_goes 10 = .ok (.iload_n 1, 1) := by decide +kernel
theorem dX1_goes_11 : decode cX1_goes 11 = .ok (.istore_n 2, 1) := by decide +kernel
theorem dX1_goes_12 : decode cX1_goes 12 = .ok (.iload_n 2, 1) := by decide +kernel
theorem dX1_goes_13 : decode cX1_goes 13 = .ok (.aload_n 0, 1) := by decide +kernel
theorem dX1_goes_14 : decode cX1_goes 14 = .ok (.getfield 73, 3) := by decide +kernel
theorem dX1_goes_17 : decode cX1_goes 17 = .ok (.if_icmp .ge 51, 3) := by decide +kernel
theorem dX1_goes_20 : decode cX1_goes 20 = .ok (.aload_n 0, 1) := by decide +kernel
theorem dX1_goes_21 : decode cX1_goes 21 = .ok (.getfield 32, 3) := by decide +kernel
theorem dX1_goes_24 : decode cX1_goes 24 = .ok (.iload_n 2, 1) := by decide +kernel
theorem dX1_goes_25 : decode cX1_goes 25 = .ok (.aload_n 0, 1) := by decide +kernel
theorem dX1_goes_26 : decode cX1_goes 26 = .ok (.getfield 32, 3) := by decide +kernel
theorem dX1_goes_29 : decode cX1_goes 29 = .ok (.iload_n 2, 1) := by decide +kernel
theorem dX1_goes_30 : decode cX1_goes 30 = .ok (.iconst 1, 1) := by decide +kernel
theorem dX1_goes_31 : decode cX1_goes 31 = .ok (.iadd, 1) := by decide +kernel
theorem dX1_goes_32 : decode cX1_goes 32 = .ok (.iaload, 1) := by decide +kernel
theorem dX1_goes_33 : decode cX1_goes 33 = .ok (.iastore, 1) := by decide +kernel
theorem dX1_goes_34 : decode cX1_goes 34 = .ok (.aload_n 0, 1) := by decide +kernel
theorem dX1_goes_35 : decode cX1_goes 35 = .ok (.getfield 35, 3) := by decide +kernel
theorem dX1_goes_38 : decode cX1_goes 38 = .ok (.iload_n 2, 1) := by decide +kernel
theorem dX1_goes_39 : decode cX1_goes 39 = .ok (.aload_n 0, 1) := by decide +kernel
theorem dX1_goes_40 : decode cX1_goes 40 = .ok (.getfield 35, 3) := by decide +kernel
theorem dX1_goes_43 : decode cX1_goes 43 = .ok (.iload_n 2, 1) := by decide +kernel
theorem dX1_goes_44 : decode cX1_goes 44 = .ok (.iconst 1, 1) := by decide +kernel
theorem dX1_goes_45 : decode cX1_goes 45 = .ok (.iadd, 1) := by decide +kernel
theorem dX1_goes_46 : decode cX1_goes 46 = .ok (.iaload, 1) := by decide +kernel
theorem dX1_goes_47 : decode cX1_goes 47 = .ok (.iastore, 1) := by decide +kernel
theorem dX1_goes_48 : decode cX1_goes 48 = .ok (.aload_n 0, 1) := by decide +kernel
theorem dX1_goes_49 : decode cX1_goes 49 = .ok (.getfield 38, 3) := by decide +kernel
theorem dX1_goes_52 : decode cX1_goes 52 = .ok (.iload_n 2, 1) := by decide +kernel
theorem dX1_goes_53 : decode cX1_goes 53 = .ok (.aload_n 0, 1) := by decide +kernel
theorem dX1_goes_54 : decode cX1_goes 54 = .ok (.getfield 38, 3) := by decide +kernel
theorem dX1_goes_57 : decode cX1_goes 57 = .ok (.iload_n 2, 1) := by decide +kernel
theorem dX1_goes_58 : decode cX1_goes 58 = .ok (.iconst 1, 1) := by decide +kernel
theorem dX1_goes_59 : decode cX1_goes 59 = .ok (.iadd, 1) := by decide +kernel
theorem dX1_goes_60 : decode cX1_goes 60 = .ok (.iaload, 1) := by decide +kernel
theorem dX1_goes_61 : decode cX1_goes 61 = .ok (.iastore, 1) := by decide +kernel
theorem dX1_goes_62 : decode cX1_goes 62 = .ok (.iinc 2 1, 3) := by decide +kernel
theorem dX1_goes_65 : decode cX1_goes 65 = .ok (.goto (-53), 3) := by decide +kernel
theorem dX1_goes_68 : decode cX1_goes 68 = .ok (.return_, 1) := by decide +kernel
theorem dX1_drop_0 : decode cX1_drop 0 = .ok (.iload_n 1, 1) := by decide +kernel
theorem dX1_drop_1 : decode cX1_drop 1 = .ok (.iconst 0, 1) := by decide +kernel
theorem dX1_drop_2 : decode cX1_drop 2 = .ok (.aload_n 0, 1) := by decide +kernel
theorem dX1_drop_3 : decode cX1_drop 3 = .ok (.getfield 73, 3) := by decide +kernel
theorem dX1_drop_6 : decode cX1_drop 6 = .ok (.iconst 1, 1) := by decide +kernel
theorem dX1_drop_7 : decode cX1_drop 7 = .ok (.isub, 1) := by decide +kernel
theorem dX1_drop_8 : decode cX1_drop 8 = .ok (.invokestatic 56, 3) := by decide +kernel
theorem dX1_drop_11 : decode cX1_drop 11 = .ok (.ifCond .ne 5, 3) := by decide +kernel
theorem dX1_drop_14 : decode cX1_drop 14 = .ok (.iconst 0, 1) := by decide +kernel
theorem dX1_drop_15 : decode cX1_drop 15 = .ok (.ireturn, 1) := by decide +kernel
theorem dX1_drop_16 : decode cX1_drop 16 = .ok (.aload_n 0, 1) := by decide +kernel
theorem dX1_drop_17 : decode cX1_drop 17 = .ok (.iload_n 1, 1) := by decide +kernel
theorem dX1_drop_18 : decode cX1_drop 18 = .ok (.invokevirtual 76, 3) := by decide +kernel
theorem dX1_drop_21 : decode cX1_drop 21 = .ok (.iconst 1, 1) := by decide +kernel
theorem dX1_drop_22 : decode cX1_drop 22 = .ok (.ireturn, 1) := by decide +kernel
theorem dX1_forget_0 : decode cX1_forget 0 = .ok (.iload_n 1, 1) := by decide +kernel
theorem dX1_forget_1 : decode cX1_forget 1 = .ok (.invokestatic 70, 3) := by decide +kernel
theorem dX1_forget_4 : decode cX1_forget 4 = .ok (.ifCond .ne 5, 3) := by decide +kernel
theorem dX1_forget_7 : decode cX1_forget 7 = .ok (.iconst (-1), 1) := by decide +kernel
theorem dX1_forget_8 : decode cX1_forget 8 = .ok (.ireturn, 1) := by decide +kernel
theorem dX1_forget_9 : decode cX1_forget 9 = .ok (.iconst 0, 1) := by decide +kernel
theorem dX1_forget_10 : decode cX1_forget 10 = .ok (.istore_n 2, 1) := by decide +kernel
theorem dX1_forget_11 : decode cX1_forget 11 = .ok (.aload_n 0, 1) := by decide +kernel
theorem dX1_forget_12 : decode cX1_forget 12 = .ok (.getfield 73, 3) := by decide +kernel
theorem dX1_forget_15 : decode cX1_forget 15 = .ok (.iconst 1, 1) := by decide +kernel
theorem dX1_forget_16 : decode cX1_forget 16 = .ok (.isub, 1) := by decide +kernel
theorem dX1_forget_17 : decode cX1_forget 17 = .ok (.istore_n 3, 1) := by decide +kernel
theorem dX1_forget_18 : decode cX1_forget 18 = .ok (.iload_n 3, 1) := by decide +kernel
theorem dX1_forget_19 : decode cX1_forget 19 = .ok (.ifCond .lt 30, 3) := by decide +kernel
theorem dX1_forget_22 : decode cX1_forget 22 = .ok (.aload_n 0, 1) := by decide +kernel
theorem dX1_forget_23 : decode cX1_forget 23 = .ok (.getfield 32, 3) := by decide +kernel
theorem dX1_forget_26 : decode cX1_forget 26 = .ok (.iload_n 3, 1) := by decide +kernel
theorem dX1_forget_27 : decode cX1_forget 27 = .ok (.iaload, 1) := by decide +kernel
theorem dX1_forget_28 : decode cX1_forget 28 = .ok (.iload_n 1, 1) := by decide +kernel
theorem dX1_forget_29 : decode cX1_forget 29 = .ok (.if_icmp .eq 6, 3) := by decide +kernel
theorem dX1_forget_32 : decode cX1_forget 32 = .ok (.goto 11, 3) := by decide +kernel
theorem dX1_forget_35 : decode cX1_forget 35 = .ok (.aload_n 0, 1) := by decide +kernel
theorem dX1_forget_36 : decode cX1_forget 36 = .ok (.iload_n 3, 1) := by decide +kernel
theorem dX1_forget_37 : decode cX1_forget 37 = .ok (.invokevirtual 76, 3) := by decide +kernel
theorem dX1_forget_40 : decode cX1_forget 40 = .ok (.iinc 2 1, 3) := by decide +kernel
theorem dX1_forget_43 : decode cX1_forget 43 = .ok (.iinc 3 (-1), 3) := by decide +kernel
theorem dX1_forget_46 : decode cX1_forget 46 = .ok (.goto (-28), 3) := by decide +kernel
theorem dX1_forget_49 : decode cX1_forget 49 = .ok (.aload_n 0, 1) := by decide +kernel
theorem dX1_forget_50 : decode cX1_forget 50 = .ok (.getfield 41, 3) := by decide +kernel
theorem dX1_forget_53 : decode cX1_forget 53 = .ok (.iload_n 1, 1) := by decide +kernel
theorem dX1_forget_54 : decode cX1_forget 54 = .ok (.iconst 0, 1) := by decide +kernel
theorem dX1_forget_55 : decode cX1_forget 55 = .ok (.iastore, 1) := by decide +kernel
theorem dX1_forget_56 : decode cX1_forget 56 = .ok (.iconst 0, 1) := by decide +kernel
theorem dX1_forget_57 : decode cX1_forget 57 = .ok (.istore_n 3, 1) := by decide +kernel
theorem dX1_forget_58 : decode cX1_forget 58 = .ok (.iload_n 3, 1) := by decide +kernel
theorem dX1_forget_59 : decode cX1_forget 59 = .ok (.bipush 12, 2) := by decide +kernel
theorem dX1_forget_61 : decode cX1_forget 61 = .ok (.if_icmp .ge 33, 3) := by decide +kernel
theorem dX1_forget_64 : decode cX1_forget 64 = .ok (.aload_n 0, 1) := by decide +kernel
theorem dX1_forget_65 : decode cX1_forget 65 = .ok (.getfield 44, 3) := by decide +kernel
theorem dX1_forget_68 : decode cX1_forget 68 = .ok (.bipush 12, 2) := by decide +kernel
theorem dX1_forget_70 : decode cX1_forget 70 = .ok (.iload_n 1, 1) := by decide +kernel
theorem dX1_forget_71 : decode cX1_forget 71 = .ok (.imul, 1) := by decide +kernel
theorem dX1_forget_72 : decode cX1_forget 72 = .ok (.iload_n 3, 1) := by decide +kernel
theorem dX1_forget_73 : decode cX1_forget 73 = .ok (.iadd, 1) := by decide +kernel
theorem dX1_forget_74 : decode cX1_forget 74 = .ok (.iconst 0, 1) := by decide +kernel
theorem dX1_forget_75 : decode cX1_forget 75 = .ok (.iastore, 1) := by decide +kernel
theorem dX1_forget_76 : decode cX1_forget 76 = .ok (.aload_n 0, 1) := by decide +kernel
theorem dX1_forget_77 : decode cX1_forget 77 = .ok (.getfield 47, 3) := by decide +kernel
theorem dX1_forget_80 : decode cX1_forget 80 = .ok (.bipush 12, 2) := by decide +kernel
theorem dX1_forget_82 : decode cX1_forget 82 = .ok (.iload_n 1, 1) := by decide +kernel
theorem dX1_forget_83 : decode cX1_forget 83 = .ok (.imul, 1) := by decide +kernel
theorem dX1_forget_84 : decode cX1_forget 84 = .ok (.iload_n 3, 1) := by decide +kernel
theorem dX1_forget_85 : decode cX1_forget 85 = .ok (.iadd, 1) := by decide +kernel
theorem dX1_forget_86 : decode cX1_forget 86 = .ok (.iconst 0, 1) := by decide +kernel
theorem dX1_forget_87 : decode cX1_forget 87 = .ok (.iastore, 1) := by decide +kernel
theorem dX1_forget_88 : decode cX1_forget 88 = .ok (.iinc 3 1, 3) := by decide +kernel
theorem dX1_forget_91 : decode cX1_forget 91 = .ok (.goto (-33), 3) := by decide +kernel
theorem dX1_forget_94 : decode cX1_forget 94 = .ok (.iload_n 2, 1) := by decide +kernel
theorem dX1_forget_95 : decode cX1_forget 95 = .ok (.ireturn, 1) := by decide +kernel
theorem dX1_day_0 : decode cX1_day 0 = .ok (.aload_n 0, 1) := by decide +kernel
theorem dX1_day_1 : decode cX1_day 1 = .ok (.getfield 60, 3) := by decide +kernel
theorem dX1_day_4 : decode cX1_day 4 = .ok (.sipush 9999, 3) := by decide +kernel
theorem dX1_day_7 : decode cX1_day 7 = .ok (.if_icmp .ne 5, 3) := by decide +kernel
theorem dX1_day_10 : decode cX1_day 10 = .ok (.iconst (-1), 1) := by decide +kernel
theorem dX1_day_11 : decode cX1_day 11 = .ok (.ireturn, 1) := by decide +kernel
theorem dX1_day_12 : decode cX1_day 12 = .ok (.aload_n 0, 1) := by decide +kernel
theorem dX1_day_13 : decode cX1_day 13 = .ok (.dup, 1) := by decide +kernel
theorem dX1_day_14 : decode cX1_day 14 = .ok (.getfield 60, 3) := by decide +kernel
theorem dX1_day_17 : decode cX1_day 17 = .ok (.iconst 1, 1) := by decide +kernel
theorem dX1_day_18 : decode cX1_day 18 = .ok (.iadd, 1) := by decide +kernel
theorem dX1_day_19 : decode cX1_day 19 = .ok (.putfield 60, 3) := by decide +kernel
theorem dX1_day_22 : decode cX1_day 22 = .ok (.aload_n 0, 1) := by decide +kernel
theorem dX1_day_23 : decode cX1_day 23 = .ok (.getfield 73, 3) := by decide +kernel
theorem dX1_day_26 : decode cX1_day 26 = .ok (.iconst 1, 1) := by decide +kernel
theorem dX1_day_27 : decode cX1_day 27 = .ok (.isub, 1) := by decide +kernel
theorem dX1_day_28 : decode cX1_day 28 = .ok (.istore_n 1, 1) := by decide +kernel
theorem dX1_day_29 : decode cX1_day 29 = .ok (.iload_n 1, 1) := by decide +kernel
theorem dX1_day_30 : decode cX1_day 30 = .ok (.ifCond .lt 30, 3) := by decide +kernel
theorem dX1_day_33 : decode cX1_day 33 = .ok (.aload_n 0, 1) := by decide +kernel
theorem dX1_day_34 : decode cX1_day 34 = .ok (.getfield 60, 3) := by decide +kernel
theorem dX1_day_37 : decode cX1_day 37 = .ok (.aload_n 0, 1) := by decide +kernel
theorem dX1_day_38 : decode cX1_day 38 = .ok (.getfield 35, 3) := by decide +kernel
theorem dX1_day_41 : decode cX1_day 41 = .ok (.iload_n 1, 1) := by decide +kernel
theorem dX1_day_42 : decode cX1_day 42 = .ok (.iaload, 1) := by decide +kernel
theorem dX1_day_43 : decode cX1_day 43 = .ok (.isub, 1) := by decide +kernel
theorem dX1_day_44 : decode cX1_day 44 = .ok (.bipush 28, 2) := by decide +kernel
theorem dX1_day_46 : decode cX1_day 46 = .ok (.if_icmp .lt 8, 3) := by decide +kernel
theorem dX1_day_49 : decode cX1_day 49 = .ok (.aload_n 0, 1) := by decide +kernel
theorem dX1_day_50 : decode cX1_day 50 = .ok (.iload_n 1, 1) := by decide +kernel
theorem dX1_day_51 : decode cX1_day 51 = .ok (.invokevirtual 76, 3) := by decide +kernel
theorem dX1_day_54 : decode cX1_day 54 = .ok (.iinc 1 (-1), 3) := by decide +kernel
theorem dX1_day_57 : decode cX1_day 57 = .ok (.goto (-28), 3) := by decide +kernel
theorem dX1_day_60 : decode cX1_day 60 = .ok (.aload_n 0, 1) := by decide +kernel
theorem dX1_day_61 : decode cX1_day 61 = .ok (.getfield 60, 3) := by decide +kernel
theorem dX1_day_64 : decode cX1_day 64 = .ok (.ireturn, 1) := by decide +kernel
theorem dX1_news_0 : decode cX1_news 0 = .ok (.iconst 0, 1) := by decide +kernel
theorem dX1_news_1 : decode cX1_news 1 = .ok (.istore_n 1, 1) := by decide +kernel
theorem dX1_news_2 : decode cX1_news 2 = .ok (.iconst 0, 1) := by decide +kernel
theorem dX1_news_3 : decode cX1_news 3 = .ok (.istore_n 2, 1) := by decide +kernel
theorem dX1_news_4 : decode cX1_news 4 = .ok (.iload_n 2, 1) := by decide +kernel
theorem dX1_news_5 : decode cX1_news 5 = .ok (.aload_n 0, 1) := by decide +kernel
theorem dX1_news_6 : decode cX1_news 6 = .ok (.getfield 53, 3) := by decide +kernel
theorem dX1_news_9 : decode cX1_news 9 = .ok (.if_icmp .ge 35, 3) := by decide +kernel
theorem dX1_news_12 : decode cX1_news 12 = .ok (.iload_n 1, 1) := by decide +kernel
theorem dX1_news_13 : decode cX1_news 13 = .ok (.aload_n 0, 1) := by decide +kernel
theorem dX1_news_14 : decode cX1_news 14 = .ok (.getfield 60, 3) := by decide +kernel
theorem dX1_news_17 : decode cX1_news 17 = .ok (.aload_n 0, 1) := by decide +kernel
theorem dX1_news_18 : decode cX1_news 18 = .ok (.getfield 26, 3) := by decide +kernel
theorem dX1_news_21 : decode cX1_news 21 = .ok (.iload_n 2, 1) := by decide +kernel
theorem dX1_news_22 : decode cX1_news 22 = .ok (.iaload, 1) := by decide +kernel
theorem dX1_news_23 : decode cX1_news 23 = .ok (.isub, 1) := by decide +kernel
theorem dX1_news_24 : decode cX1_news 24 = .ok (.bipush 10, 2) := by decide +kernel
theorem dX1_news_26 : decode cX1_news 26 = .ok (.if_icmp .ge 9, 3) := by decide +kernel
theorem dX1_news_29 : decode cX1_news 29 = .ok (.iconst 1, 1) := by decide +kernel
theorem dX1_news_30 : decode cX1_news 30 = .ok (.iload_n 2, 1) := by decide +kernel
theorem dX1_news_31 : decode cX1_news 31 = .ok (.ishl, 1) := by decide +kernel
theorem dX1_news_32 : decode cX1_news 32 = .ok (.goto 4, 3) := by decide +kernel
theorem dX1_news_35 : decode cX1_news 35 = .ok (.iconst 0, 1) := by decide +kernel
theorem dX1_news_36 : decode cX1_news 36 = .ok (.ior, 1) := by decide +kernel
theorem dX1_news_37 : decode cX1_news 37 = .ok (.istore_n 1, 1) := by decide +kernel
theorem dX1_news_38 : decode cX1_news 38 = .ok (.iinc 2 1, 3) := by decide +kernel
theorem dX1_news_41 : decode cX1_news 41 = .ok (.goto (-37), 3) := by decide +kernel
theorem dX1_news_44 : decode cX1_news 44 = .ok (.iload_n 1, 1) := by decide +kernel
theorem dX1_news_45 : decode cX1_news 45 = .ok (.ireturn, 1) := by decide +kernel
theorem dX1_look_0 : decode cX1_look 0 = .ok (.iload_n 1, 1) := by decide +kernel
theorem dX1_look_1 : decode cX1_look 1 = .ok (.tableswitch 96 0 8 #[51, 56, 61, 66, 71, 76, 81, 86, 91], 51) := by decide +kernel
theorem dX1_look_52 : decode cX1_look 52 = .ok (.aload_n 0, 1) := by decide +kernel
theorem dX1_look_53 : decode cX1_look 53 = .ok (.getfield 60, 3) := by decide +kernel
theorem dX1_look_56 : decode cX1_look 56 = .ok (.ireturn, 1) := by decide +kernel
theorem dX1_look_57 : decode cX1_look 57 = .ok (.aload_n 0, 1) := by decide +kernel
theorem dX1_look_58 : decode cX1_look 58 = .ok (.getfield 53, 3) := by decide +kernel
theorem dX1_look_61 : decode cX1_look 61 = .ok (.ireturn, 1) := by decide +kernel
theorem dX1_look_62 : decode cX1_look 62 = .ok (.aload_n 0, 1) := by decide +kernel
theorem dX1_look_63 : decode cX1_look 63 = .ok (.getfield 73, 3) := by decide +kernel
theorem dX1_look_66 : decode cX1_look 66 = .ok (.ireturn, 1) := by decide +kernel
theorem dX1_look_67 : decode cX1_look 67 = .ok (.aload_n 0, 1) := by decide +kernel
theorem dX1_look_68 : decode cX1_look 68 = .ok (.getfield 7, 3) := by decide +kernel
theorem dX1_look_71 : decode cX1_look 71 = .ok (.ireturn, 1) := by decide +kernel
theorem dX1_look_72 : decode cX1_look 72 = .ok (.aload_n 0, 1) := by decide +kernel
theorem dX1_look_73 : decode cX1_look 73 = .ok (.getfield 13, 3) := by decide +kernel
theorem dX1_look_76 : decode cX1_look 76 = .ok (.ireturn, 1) := by decide +kernel
theorem dX1_look_77 : decode cX1_look 77 = .ok (.aload_n 0, 1) := by decide +kernel
theorem dX1_look_78 : decode cX1_look 78 = .ok (.getfield 16, 3) := by decide +kernel
theorem dX1_look_81 : decode cX1_look 81 = .ok (.ireturn, 1) := by decide +kernel
theorem dX1_look_82 : decode cX1_look 82 = .ok (.aload_n 0, 1) := by decide +kernel
theorem dX1_look_83 : decode cX1_look 83 = .ok (.getfield 19, 3) := by decide +kernel
theorem dX1_look_86 : decode cX1_look 86 = .ok (.ireturn, 1) := by decide +kernel
theorem dX1_look_87 : decode cX1_look 87 = .ok (.aload_n 0, 1) := by decide +kernel
theorem dX1_look_88 : decode cX1_look 88 = .ok (.getfield 63, 3) := by decide +kernel
theorem dX1_look_91 : decode cX1_look 91 = .ok (.ireturn, 1) := by decide +kernel
theorem dX1_look_92 : decode cX1_look 92 = .ok (.aload_n 0, 1) := by decide +kernel
theorem dX1_look_93 : decode cX1_look 93 = .ok (.invokevirtual 80, 3) := by decide +kernel
theorem dX1_look_96 : decode cX1_look 96 = .ok (.ireturn, 1) := by decide +kernel
theorem dX1_look_97 : decode cX1_look 97 = .ok (.iconst (-1), 1) := by decide +kernel
theorem dX1_look_98 : decode cX1_look 98 = .ok (.ireturn, 1) := by decide +kernel
theorem dX1_of_0 : decode cX1_of 0 = .ok (.iload_n 1, 1) := by decide +kernel
theorem dX1_of_1 : decode cX1_of 1 = .ok (.iconst 0, 1) := by decide +kernel
theorem dX1_of_2 : decode cX1_of 2 = .ok (.aload_n 0, 1) := by decide +kernel
theorem dX1_of_3 : decode cX1_of 3 = .ok (.getfield 73, 3) := by decide +kernel
theorem dX1_of_6 : decode cX1_of 6 = .ok (.iconst 1, 1) := by decide +kernel
theorem dX1_of_7 : decode cX1_of 7 = .ok (.isub, 1) := by decide +kernel
theorem dX1_of_8 : decode cX1_of 8 = .ok (.invokestatic 56, 3) := by decide +kernel
theorem dX1_of_11 : decode cX1_of 11 = .ok (.ifCond .ne 5, 3) := by decide +kernel
theorem dX1_of_14 : decode cX1_of 14 = .ok (.iconst (-1), 1) := by decide +kernel
theorem dX1_of_15 : decode cX1_of 15 = .ok (.ireturn, 1) := by decide +kernel
theorem dX1_of_16 : decode cX1_of 16 = .ok (.iload_n 2, 1) := by decide +kernel
theorem dX1_of_17 : decode cX1_of 17 = .ok (.ifCond .ne 12, 3) := by decide +kernel
theorem dX1_of_20 : decode cX1_of 20 = .ok (.aload_n 0, 1) := by decide +kernel
theorem dX1_of_21 : decode cX1_of 21 = .ok (.getfield 32, 3) := by decide +kernel
theorem dX1_of_24 : decode cX1_of 24 = .ok (.iload_n 1, 1) := by decide +kernel
theorem dX1_of_25 : decode cX1_of 25 = .ok (.iaload, 1) := by decide +kernel
theorem dX1_of_26 : decode cX1_of 26 = .ok (.goto 32, 3) := by decide +kernel
theorem dX1_of_29 : decode cX1_of 29 = .ok (.iload_n 2, 1) := by decide +kernel
theorem dX1_of_30 : decode cX1_of 30 = .ok (.iconst 1, 1) := by decide +kernel
theorem dX1_of_31 : decode cX1_of 31 = .ok (.if_icmp .ne 12, 3) := by decide +kernel
theorem dX1_of_34 : decode cX1_of 34 = .ok (.aload_n 0, 1) := by decide +kernel
theorem dX1_of_35 : decode cX1_of 35 = .ok (.getfield 35, 3) := by decide +kernel
theorem dX1_of_38 : decode cX1_of 38 = .ok (.iload_n 1, 1) := by decide +kernel
theorem dX1_of_39 : decode cX1_of 39 = .ok (.iaload, 1) := by decide +kernel
theorem dX1_of_40 : decode cX1_of 40 = .ok (.goto 18, 3) := by decide +kernel
theorem dX1_of_43 : decode cX1_of 43 = .ok (.iload_n 2, 1) := by decide +kernel
theorem dX1_of_44 : decode cX1_of 44 = .ok (.iconst 2, 1) := by decide +kernel
theorem dX1_of_45 : decode cX1_of 45 = .ok (.if_icmp .ne 12, 3) := by decide +kernel
theorem dX1_of_48 : decode cX1_of 48 = .ok (.aload_n 0, 1) := by decide +kernel
theorem dX1_of_49 : decode cX1_of 49 = .ok (.getfield 38, 3) := by decide +kernel
theorem dX1_of_52 : decode cX1_of 52 = .ok (.iload_n 1, 1) := by decide +kernel
theorem dX1_of_53 : decode cX1_of 53 = .ok (.iaload, 1) := by decide +kernel
theorem dX1_of_54 : decode cX1_of 54 = .ok (.goto 4, 3) := by decide +kernel
theorem dX1_of_57 : decode cX1_of 57 = .ok (.iconst (-1), 1) := by decide +kernel
theorem dX1_of_58 : decode cX1_of 58 = .ok (.ireturn, 1) := by decide +kernel
theorem dX1_both_0 : decode cX1_both 0 = .ok (.iconst 0, 1) := by decide +kernel
theorem dX1_both_1 : decode cX1_both 1 = .ok (.istore_n 3, 1) := by decide +kernel
theorem dX1_both_2 : decode cX1_both 2 = .ok (.iconst 0, 1) := by decide +kernel
theorem dX1_both_3 : decode cX1_both 3 = .ok (.istore 4, 2) := by decide +kernel
theorem dX1_both_5 : decode cX1_both 5 = .ok (.iload 4, 2) := by decide +kernel
theorem dX1_both_7 : decode cX1_both 7 = .ok (.aload_n 0, 1) := by decide +kernel
theorem dX1_both_8 : decode cX1_both 8 = .ok (.getfield 73, 3) := by decide +kernel
theorem dX1_both_11 : decode cX1_both 11 = .ok (.if_icmp .ge 47, 3) := by decide +kernel
theorem dX1_both_14 : decode cX1_both 14 = .ok (.iload_n 3, 1) := by decide +kernel
theorem dX1_both_15 : decode cX1_both 15 = .ok (.aload_n 0, 1) := by decide +kernel
theorem dX1_both_16 : decode cX1_both 16 = .ok (.getfield 38, 3) := by decide +kernel
theorem dX1_both_19 : decode cX1_both 19 = .ok (.iload 4, 2) := by decide +kernel
theorem dX1_both_21 : decode cX1_both 21 = .ok (.iaload, 1) := by decide +kernel
theorem dX1_both_22 : decode cX1_both 22 = .ok (.iload_n 1, 1) := by decide +kernel
theorem dX1_both_23 : decode cX1_both 23 = .ok (.ishr, 1) := by decide +kernel
theorem dX1_both_24 : decode cX1_both 24 = .ok (.iconst 1, 1) := by decide +kernel
theorem dX1_both_25 : decode cX1_both 25 = .ok (.iand, 1) := by decide +kernel
theorem dX1_both_26 : decode cX1_both 26 = .ok (.iconst 1, 1) := by decide +kernel
theorem dX1_both_27 : decode cX1_both 27 = .ok (.if_icmp .ne 22, 3) := by decide +kernel
theorem dX1_both_30 : decode cX1_both 30 = .ok (.aload_n 0, 1) := by decide +kernel
theorem dX1_both_31 : decode cX1_both 31 = .ok (.getfield 38, 3) := by decide +kernel
theorem dX1_both_34 : decode cX1_both 34 = .ok (.iload 4, 2) := by decide +kernel
theorem dX1_both_36 : decode cX1_both 36 = .ok (.iaload, 1) := by decide +kernel
theorem dX1_both_37 : decode cX1_both 37 = .ok (.iload_n 2, 1) := by decide +kernel
theorem dX1_both_38 : decode cX1_both 38 = .ok (.ishr, 1) := by decide +kernel
theorem dX1_both_39 : decode cX1_both 39 = .ok (.iconst 1, 1) := by decide +kernel
theorem dX1_both_40 : decode cX1_both 40 = .ok (.iand, 1) := by decide +kernel
theorem dX1_both_41 : decode cX1_both 41 = .ok (.iconst 1, 1) := by decide +kernel
theorem dX1_both_42 : decode cX1_both 42 = .ok (.if_icmp .ne 7, 3) := by decide +kernel
theorem dX1_both_45 : decode cX1_both 45 = .ok (.iconst 1, 1) := by decide +kernel
theorem dX1_both_46 : decode cX1_both 46 = .ok (.goto 4, 3) := by decide +kernel
theorem dX1_both_49 : decode cX1_both 49 = .ok (.iconst 0, 1) := by decide +kernel
theorem dX1_both_50 : decode cX1_both 50 = .ok (.iadd, 1) := by decide +kernel
theorem dX1_both_51 : decode cX1_both 51 = .ok (.istore_n 3, 1) := by decide +kernel
theorem dX1_both_52 : decode cX1_both 52 = .ok (.iinc 4 1, 3) := by decide +kernel
theorem dX1_both_55 : decode cX1_both 55 = .ok (.goto (-50), 3) := by decide +kernel
theorem dX1_both_58 : decode cX1_both 58 = .ok (.iload_n 3, 1) := by decide +kernel
theorem dX1_both_59 : decode cX1_both 59 = .ok (.ireturn, 1) := by decide +kernel
theorem dX1_people_0 : decode cX1_people 0 = .ok (.iconst 0, 1) := by decide +kernel
theorem dX1_people_1 : decode cX1_people 1 = .ok (.istore_n 3, 1) := by decide +kernel
theorem dX1_people_2 : decode cX1_people 2 = .ok (.iconst 0, 1) := by decide +kernel
theorem dX1_people_3 : decode cX1_people 3 = .ok (.istore 4, 2) := by decide +kernel
theorem dX1_people_5 : decode cX1_people 5 = .ok (.iload 4, 2) := by decide +kernel
theorem dX1_people_7 : decode cX1_people 7 = .ok (.bipush 8, 2) := by decide +kernel
theorem dX1_people_9 : decode cX1_people 9 = .ok (.if_icmp .ge 97, 3) := by decide +kernel
theorem dX1_people_12 : decode cX1_people 12 = .ok (.iconst 0, 1) := by decide +kernel
theorem dX1_people_13 : decode cX1_people 13 = .ok (.istore 5, 2) := by decide +kernel
theorem dX1_people_15 : decode cX1_people 15 = .ok (.iconst 0, 1) := by decide +kernel
theorem dX1_people_16 : decode cX1_people 16 = .ok (.istore 6, 2) := by decide +kernel
theorem dX1_people_18 : decode cX1_people 18 = .ok (.iload 6, 2) := by decide +kernel
theorem dX1_people_20 : decode cX1_people 20 = .ok (.aload_n 0, 1) := by decide +kernel
theorem dX1_people_21 : decode cX1_people 21 = .ok (.getfield 73, 3) := by decide +kernel
theorem dX1_people_24 : decode cX1_people 24 = .ok (.if_icmp .ge 63, 3) := by decide +kernel
theorem dX1_people_27 : decode cX1_people 27 = .ok (.iload 5, 2) := by decide +kernel
theorem dX1_people_29 : decode cX1_people 29 = .ok (.ifCond .ne 45, 3) := by decide +kernel
theorem dX1_people_32 : decode cX1_people 32 = .ok (.aload_n 0, 1) := by decide +kernel
theorem dX1_people_33 : decode cX1_people 33 = .ok (.getfield 32, 3) := by decide +kernel
theorem dX1_people_36 : decode cX1_people 36 = .ok (.iload 6, 2) := by decide +kernel
theorem dX1_people_38 : decode cX1_people 38 = .ok (.iaload, 1) := by decide +kernel
theorem dX1_people_39 : decode cX1_people 39 = .ok (.iload 4, 2) := by decide +kernel
theorem dX1_people_41 : decode cX1_people 41 = .ok (.if_icmp .ne 37, 3) := by decide +kernel
theorem dX1_people_44 : decode cX1_people 44 = .ok (.aload_n 0, 1) := by decide +kernel
theorem dX1_people_45 : decode cX1_people 45 = .ok (.getfield 38, 3) := by decide +kernel
theorem dX1_people_48 : decode cX1_people 48 = .ok (.iload 6, 2) := by decide +kernel
theorem dX1_people_50 : decode cX1_people 50 = .ok (.iaload, 1) := by decide +kernel
theorem dX1_people_51 : decode cX1_people 51 = .ok (.iload_n 1, 1) := by decide +kernel
theorem dX1_people_52 : decode cX1_people 52 = .ok (.ishr, 1) := by decide +kernel
theorem dX1_people_53 : decode cX1_people 53 = .ok (.iconst 1, 1) := by decide +kernel
theorem dX1_people_54 : decode cX1_people 54 = .ok (.iand, 1) := by decide +kernel
theorem dX1_people_55 : decode cX1_people 55 = .ok (.iconst 1, 1) := by decide +kernel
theorem dX1_people_56 : decode cX1_people 56 = .ok (.if_icmp .ne 22, 3) := by decide +kernel
theorem dX1_people_59 : decode cX1_people 59 = .ok (.aload_n 0, 1) := by decide +kernel
theorem dX1_people_60 : decode cX1_people 60 = .ok (.getfield 38, 3) := by decide +kernel
theorem dX1_people_63 : decode cX1_people 63 = .ok (.iload 6, 2) := by decide +kernel
theorem dX1_people_65 : decode cX1_people 65 = .ok (.iaload, 1) := by decide +kernel
theorem dX1_people_66 : decode cX1_people 66 = .ok (.iload_n 2, 1) := by decide +kernel
theorem dX1_people_67 : decode cX1_people 67 = .ok (.ishr, 1) := by decide +kernel
theorem dX1_people_68 : decode cX1_people 68 = .ok (.iconst 1, 1) := by decide +kernel
theorem dX1_people_69 : decode cX1_people 69 = .ok (.iand, 1) := by decide +kernel
theorem dX1_people_70 : decode cX1_people 70 = .ok (.iconst 1, 1) := by decide +kernel
theorem dX1_people_71 : decode cX1_people 71 = .ok (.if_icmp .ne 7, 3) := by decide +kernel
theorem dX1_people_74 : decode cX1_people 74 = .ok (.iconst 1, 1) := by decide +kernel
theorem dX1_people_75 : decode cX1_people 75 = .ok (.goto 4, 3) := by decide +kernel
theorem dX1_people_78 : decode cX1_people 78 = .ok (.iconst 0, 1) := by decide +kernel
theorem dX1_people_79 : decode cX1_people 79 = .ok (.istore 5, 2) := by decide +kernel
theorem dX1_people_81 : decode cX1_people 81 = .ok (.iinc 6 1, 3) := by decide +kernel
theorem dX1_people_84 : decode cX1_people 84 = .ok (.goto (-66), 3) := by decide +kernel
theorem dX1_people_87 : decode cX1_people 87 = .ok (.iload_n 3, 1) := by decide +kernel
theorem dX1_people_88 : decode cX1_people 88 = .ok (.iload 5, 2) := by decide +kernel
theorem dX1_people_90 : decode cX1_people 90 = .ok (.ifCond .eq 7, 3) := by decide +kernel
theorem dX1_people_93 : decode cX1_people 93 = .ok (.iconst 1, 1) := by decide +kernel
theorem dX1_people_94 : decode cX1_people 94 = .ok (.goto 4, 3) := by decide +kernel
theorem dX1_people_97 : decode cX1_people 97 = .ok (.iconst 0, 1) := by decide +kernel
theorem dX1_people_98 : decode cX1_people 98 = .ok (.iadd, 1) := by decide +kernel
theorem dX1_people_99 : decode cX1_people 99 = .ok (.istore_n 3, 1) := by decide +kernel
theorem dX1_people_100 : decode cX1_people 100 = .ok (.iinc 4 1, 3) := by decide +kernel
theorem dX1_people_103 : decode cX1_people 103 = .ok (.goto (-98), 3) := by decide +kernel
theorem dX1_people_106 : decode cX1_people 106 = .ok (.iload_n 3, 1) := by decide +kernel
theorem dX1_people_107 : decode cX1_people 107 = .ok (.ireturn, 1) := by decide +kernel
theorem dX1_count_0 : decode cX1_count 0 = .ok (.aload_n 0, 1) := by decide +kernel
theorem dX1_count_1 : decode cX1_count 1 = .ok (.iload_n 1, 1) := by decide +kernel
theorem dX1_count_2 : decode cX1_count 2 = .ok (.invokevirtual 66, 3) := by decide +kernel
theorem dX1_count_5 : decode cX1_count 5 = .ok (.ifCond .eq 11, 3) := by decide +kernel
theorem dX1_count_8 : decode cX1_count 8 = .ok (.aload_n 0, 1) := by decide +kernel
theorem dX1_count_9 : decode cX1_count 9 = .ok (.iload_n 2, 1) := by decide +kernel
theorem dX1_count_10 : decode cX1_count 10 = .ok (.invokevirtual 66, 3) := by decide +kernel
theorem dX1_count_13 : decode cX1_count 13 = .ok (.ifCond .ne 7, 3) := by decide +kernel
theorem dX1_count_16 : decode cX1_count 16 = .ok (.iconst (-1), 1) := by decide +kernel
theorem dX1_count_17 : decode cX1_count 17 = .ok (.goto 31, 3) := by decide +kernel
theorem dX1_count_20 : decode cX1_count 20 = .ok (.iload_n 3, 1) := by decide +kernel
theorem dX1_count_21 : decode cX1_count 21 = .ok (.ifCond .ne 12, 3) := by decide +kernel
theorem dX1_count_24 : decode cX1_count 24 = .ok (.aload_n 0, 1) := by decide +kernel
theorem dX1_count_25 : decode cX1_count 25 = .ok (.iload_n 1, 1) := by decide +kernel
theorem dX1_count_26 : decode cX1_count 26 = .ok (.iload_n 2, 1) := by decide +kernel
theorem dX1_count_27 : decode cX1_count 27 = .ok (.invokevirtual 84, 3) := by decide +kernel
theorem dX1_count_30 : decode cX1_count 30 = .ok (.goto 18, 3) := by decide +kernel
theorem dX1_count_33 : decode cX1_count 33 = .ok (.iload_n 3, 1) := by decide +kernel
theorem dX1_count_34 : decode cX1_count 34 = .ok (.iconst 1, 1) := by decide +kernel
theorem dX1_count_35 : decode cX1_count 35 = .ok (.if_icmp .ne 12, 3) := by decide +kernel
theorem dX1_count_38 : decode cX1_count 38 = .ok (.aload_n 0, 1) := by decide +kernel
theorem dX1_count_39 : decode cX1_count 39 = .ok (.iload_n 1, 1) := by decide +kernel
theorem dX1_count_40 : decode cX1_count 40 = .ok (.iload_n 2, 1) := by decide +kernel
theorem dX1_count_41 : decode cX1_count 41 = .ok (.invokevirtual 88, 3) := by decide +kernel
theorem dX1_count_44 : decode cX1_count 44 = .ok (.goto 4, 3) := by decide +kernel
theorem dX1_count_47 : decode cX1_count 47 = .ok (.iconst (-1), 1) := by decide +kernel
theorem dX1_count_48 : decode cX1_count 48 = .ok (.ireturn, 1) := by decide +kernel
theorem dX1_kinOf_0 : decode cX1_kinOf 0 = .ok (.aload_n 0, 1) := by decide +kernel
theorem dX1_kinOf_1 : decode cX1_kinOf 1 = .ok (.iload_n 1, 1) := by decide +kernel
theorem dX1_kinOf_2 : decode cX1_kinOf 2 = .ok (.iload_n 1, 1) := by decide +kernel
theorem dX1_kinOf_3 : decode cX1_kinOf 3 = .ok (.invokevirtual 84, 3) := by decide +kernel
theorem dX1_kinOf_6 : decode cX1_kinOf 6 = .ok (.istore_n 3, 1) := by decide +kernel
theorem dX1_kinOf_7 : decode cX1_kinOf 7 = .ok (.aload_n 0, 1) := by decide +kernel
theorem dX1_kinOf_8 : decode cX1_kinOf 8 = .ok (.iload_n 2, 1) := by decide +kernel
theorem dX1_kinOf_9 : decode cX1_kinOf 9 = .ok (.iload_n 2, 1) := by decide +kernel
theorem dX1_kinOf_10 : decode cX1_kinOf 10 = .ok (.invokevirtual 84, 3) := by decide +kernel
theorem dX1_kinOf_13 : decode cX1_kinOf 13 = .ok (.istore 4, 2) := by decide +kernel
theorem dX1_kinOf_15 : decode cX1_kinOf 15 = .ok (.iload_n 3, 1) := by decide +kernel
theorem dX1_kinOf_16 : decode cX1_kinOf 16 = .ok (.ifCond .eq 21, 3) := by decide +kernel
theorem dX1_kinOf_19 : decode cX1_kinOf 19 = .ok (.iload 4, 2) := by decide +kernel
theorem dX1_kinOf_21 : decode cX1_kinOf 21 = .ok (.ifCond .eq 16, 3) := by decide +kernel
theorem dX1_kinOf_24 : decode cX1_kinOf 24 = .ok (.aload_n 0, 1) := by decide +kernel
theorem dX1_kinOf_25 : decode cX1_kinOf 25 = .ok (.iload_n 1, 1) := by decide +kernel
theorem dX1_kinOf_26 : decode cX1_kinOf 26 = .ok (.iload_n 2, 1) := by decide +kernel
theorem dX1_kinOf_27 : decode cX1_kinOf 27 = .ok (.invokevirtual 88, 3) := by decide +kernel
theorem dX1_kinOf_30 : decode cX1_kinOf 30 = .ok (.aload_n 0, 1) := by decide +kernel
theorem dX1_kinOf_31 : decode cX1_kinOf 31 = .ok (.getfield 7, 3) := by decide +kernel
theorem dX1_kinOf_34 : decode cX1_kinOf 34 = .ok (.if_icmp .ge 5, 3) := by decide +kernel
theorem dX1_kinOf_37 : decode cX1_kinOf 37 = .ok (.iconst 0, 1) := by decide +kernel
theorem dX1_kinOf_38 : decode cX1_kinOf 38 = .ok (.ireturn, 1) := by decide +kernel
theorem dX1_kinOf_39 : decode cX1_kinOf 39 = .ok (.sipush 1000, 3) := by decide +kernel
theorem dX1_kinOf_42 : decode cX1_kinOf 42 = .ok (.aload_n 0, 1) := by decide +kernel
theorem dX1_kinOf_43 : decode cX1_kinOf 43 = .ok (.iload_n 1, 1) := by decide +kernel
theorem dX1_kinOf_44 : decode cX1_kinOf 44 = .ok (.iload_n 2, 1) := by decide +kernel
theorem dX1_kinOf_45 : decode cX1_kinOf 45 = .ok (.invokevirtual 84, 3) := by decide +kernel
theorem dX1_kinOf_48 : decode cX1_kinOf 48 = .ok (.imul, 1) := by decide +kernel
theorem dX1_kinOf_49 : decode cX1_kinOf 49 = .ok (.aload_n 0, 1) := by decide +kernel
theorem dX1_kinOf_50 : decode cX1_kinOf 50 = .ok (.getfield 73, 3) := by decide +kernel
theorem dX1_kinOf_53 : decode cX1_kinOf 53 = .ok (.imul, 1) := by decide +kernel
theorem dX1_kinOf_54 : decode cX1_kinOf 54 = .ok (.iload_n 3, 1) := by decide +kernel
theorem dX1_kinOf_55 : decode cX1_kinOf 55 = .ok (.iload 4, 2) := by decide +kernel
theorem dX1_kinOf_57 : decode cX1_kinOf 57 = .ok (.imul, 1) := by decide +kernel
theorem dX1_kinOf_58 : decode cX1_kinOf 58 = .ok (.idiv, 1) := by decide +kernel
theorem dX1_kinOf_59 : decode cX1_kinOf 59 = .ok (.sipush 1000, 3) := by decide +kernel
theorem dX1_kinOf_62 : decode cX1_kinOf 62 = .ok (.isub, 1) := by decide +kernel
theorem dX1_kinOf_63 : decode cX1_kinOf 63 = .ok (.ireturn, 1) := by decide +kernel
theorem dX1_kin_0 : decode cX1_kin 0 = .ok (.aload_n 0, 1) := by decide +kernel
theorem dX1_kin_1 : decode cX1_kin 1 = .ok (.iload_n 1, 1) := by decide +kernel
theorem dX1_kin_2 : decode cX1_kin 2 = .ok (.invokevirtual 66, 3) := by decide +kernel
theorem dX1_kin_5 : decode cX1_kin 5 = .ok (.ifCond .eq 25, 3) := by decide +kernel
theorem dX1_kin_8 : decode cX1_kin 8 = .ok (.aload_n 0, 1) := by decide +kernel
theorem dX1_kin_9 : decode cX1_kin 9 = .ok (.iload_n 2, 1) := by decide +kernel
theorem dX1_kin_10 : decode cX1_kin 10 = .ok (.invokevirtual 66, 3) := by decide +kernel
theorem dX1_kin_13 : decode cX1_kin 13 = .ok (.ifCond .eq 17, 3) := by decide +kernel
theorem dX1_kin_16 : decode cX1_kin 16 = .ok (.iload_n 1, 1) := by decide +kernel
theorem dX1_kin_17 : decode cX1_kin 17 = .ok (.iload_n 2, 1) := by decide +kernel
theorem dX1_kin_18 : decode cX1_kin 18 = .ok (.if_icmp .eq 12, 3) := by decide +kernel
theorem dX1_kin_21 : decode cX1_kin 21 = .ok (.aload_n 0, 1) := by decide +kernel
theorem dX1_kin_22 : decode cX1_kin 22 = .ok (.iload_n 1, 1) := by decide +kernel
theorem dX1_kin_23 : decode cX1_kin 23 = .ok (.iload_n 2, 1) := by decide +kernel
theorem dX1_kin_24 : decode cX1_kin 24 = .ok (.invokevirtual 91, 3) := by decide +kernel
theorem dX1_kin_27 : decode cX1_kin 27 = .ok (.goto 5, 3) := by decide +kernel
theorem dX1_kin_30 : decode cX1_kin 30 = .ok (.ldc 94, 2) := by decide +kernel
theorem dX1_kin_32 : decode cX1_kin 32 = .ok (.ireturn, 1) := by decide +kernel
theorem dX1_near_0 : decode cX1_near 0 = .ok (.aload_n 0, 1) := by decide +kernel
theorem dX1_near_1 : decode cX1_near 1 = .ok (.iload_n 1, 1) := by decide +kernel
theorem dX1_near_2 : decode cX1_near 2 = .ok (.invokevirtual 66, 3) := by decide +kernel
theorem dX1_near_5 : decode cX1_near 5 = .ok (.ifCond .eq 17, 3) := by decide +kernel
theorem dX1_near_8 : decode cX1_near 8 = .ok (.iload_n 2, 1) := by decide +kernel
theorem dX1_near_9 : decode cX1_near 9 = .ok (.iconst 0, 1) := by decide +kernel
theorem dX1_near_10 : decode cX1_near 10 = .ok (.aload_n 0, 1) := by decide +kernel
theorem dX1_near_11 : decode cX1_near 11 = .ok (.getfield 53, 3) := by decide +kernel
theorem dX1_near_14 : decode cX1_near 14 = .ok (.iconst 2, 1) := by decide +kernel
theorem dX1_near_15 : decode cX1_near 15 = .ok (.isub, 1) := by decide +kernel
theorem dX1_near_16 : decode cX1_near 16 = .ok (.invokestatic 56, 3) := by decide +kernel
theorem dX1_near_19 : decode cX1_near 19 = .ok (.ifCond .ne 5, 3) := by decide +kernel
theorem dX1_near_22 : decode cX1_near 22 = .ok (.iconst (-1), 1) := by decide +kernel
theorem dX1_near_23 : decode cX1_near 23 = .ok (.ireturn, 1) := by decide +kernel
theorem dX1_near_24 : decode cX1_near 24 = .ok (.iconst 1, 1) := by decide +kernel
theorem dX1_near_25 : decode cX1_near 25 = .ok (.aload_n 0, 1) := by decide +kernel
theorem dX1_near_26 : decode cX1_near 26 = .ok (.getfield 53, 3) := by decide +kernel
theorem dX1_near_29 : decode cX1_near 29 = .ok (.ishl, 1) := by decide +kernel
theorem dX1_near_30 : decode cX1_near 30 = .ok (.iconst 1, 1) := by decide +kernel
theorem dX1_near_31 : decode cX1_near 31 = .ok (.isub, 1) := by decide +kernel
theorem dX1_near_32 : decode cX1_near 32 = .ok (.iconst 1, 1) := by decide +kernel
theorem dX1_near_33 : decode cX1_near 33 = .ok (.iload_n 1, 1) := by decide +kernel
theorem dX1_near_34 : decode cX1_near 34 = .ok (.ishl, 1) := by decide +kernel
theorem dX1_near_35 : decode cX1_near 35 = .ok (.iconst (-1), 1) := by decide +kernel
theorem dX1_near_36 : decode cX1_near 36 = .ok (.ixor, 1) := by decide +kernel
theorem dX1_near_37 : decode cX1_near 37 = .ok (.iand, 1) := by decide +kernel
theorem dX1_near_38 : decode cX1_near 38 = .ok (.istore_n 3, 1) := by decide +kernel
theorem dX1_near_39 : decode cX1_near 39 = .ok (.iconst (-1), 1) := by decide +kernel
theorem dX1_near_40 : decode cX1_near 40 = .ok (.istore 4, 2) := by decide +kernel
theorem dX1_near_42 : decode cX1_near 42 = .ok (.iconst 0, 1) := by decide +kernel
theorem dX1_near_43 : decode cX1_near 43 = .ok (.istore 5, 2) := by decide +kernel
theorem dX1_near_45 : decode cX1_near 45 = .ok (.iload 5, 2) := by decide +kernel
theorem dX1_near_47 : decode cX1_near 47 = .ok (.iload_n 2, 1) := by decide +kernel
theorem dX1_near_48 : decode cX1_near 48 = .ok (.if_icmp .gt 76, 3) := by decide +kernel
theorem dX1_near_51 : decode cX1_near 51 = .ok (.iconst (-1), 1) := by decide +kernel
theorem dX1_near_52 : decode cX1_near 52 = .ok (.istore 4, 2) := by decide +kernel
theorem dX1_near_54 : decode cX1_near 54 = .ok (.iconst 0, 1) := by decide +kernel
theorem dX1_near_55 : decode cX1_near 55 = .ok (.istore 6, 2) := by decide +kernel
theorem dX1_near_57 : decode cX1_near 57 = .ok (.iload 6, 2) := by decide +kernel
theorem dX1_near_59 : decode cX1_near 59 = .ok (.aload_n 0, 1) := by decide +kernel
theorem dX1_near_60 : decode cX1_near 60 = .ok (.getfield 53, 3) := by decide +kernel
theorem dX1_near_63 : decode cX1_near 63 = .ok (.if_icmp .ge 46, 3) := by decide +kernel
theorem dX1_near_66 : decode cX1_near 66 = .ok (.iload_n 3, 1) := by decide +kernel
theorem dX1_near_67 : decode cX1_near 67 = .ok (.iload 6, 2) := by decide +kernel
theorem dX1_near_69 : decode cX1_near 69 = .ok (.ishr, 1) := by decide +kernel
theorem dX1_near_70 : decode cX1_near 70 = .ok (.iconst 1, 1) := by decide +kernel
theorem dX1_near_71 : decode cX1_near 71 = .ok (.iand, 1) := by decide +kernel
theorem dX1_near_72 : decode cX1_near 72 = .ok (.iconst 1, 1) := by decide +kernel
theorem dX1_near_73 : decode cX1_near 73 = .ok (.if_icmp .ne 30, 3) := by decide +kernel
theorem dX1_near_76 : decode cX1_near 76 = .ok (.iload 4, 2) := by decide +kernel
theorem dX1_near_78 : decode cX1_near 78 = .ok (.iconst (-1), 1) := by decide +kernel
theorem dX1_near_79 : decode cX1_near 79 = .ok (.if_icmp .eq 20, 3) := by decide +kernel
theorem dX1_near_82 : decode cX1_near 82 = .ok (.aload_n 0, 1) := by decide +kernel
theorem dX1_near_83 : decode cX1_near 83 = .ok (.iload_n 1, 1) := by decide +kernel
theorem dX1_near_84 : decode cX1_near 84 = .ok (.iload 6, 2) := by decide +kernel
theorem dX1_near_86 : decode cX1_near 86 = .ok (.invokevirtual 91, 3) := by decide +kernel
theorem dX1_near_89 : decode cX1_near 89 = .ok (.aload_n 0, 1) := by decide +kernel
theorem dX1_near_90 : decode cX1_near 90 = .ok (.iload_n 1, 1) := by decide +kernel
theorem dX1_near_91 : decode cX1_near 91 = .ok (.iload 4, 2) := by decide +kernel
theorem dX1_near_93 : decode cX1_near 93 = .ok (.invokevirtual 91, 3) := by decide +kernel
theorem dX1_near_96 : decode cX1_near 96 = .ok (.if_icmp .le 7, 3) := by decide +kernel
theorem dX1_near_99 : decode cX1_near 99 = .ok (.iload 6, 2) := by decide +kernel
theorem dX1_near_101 : decode cX1_near 101 = .ok (.istore 4, 2) := by decide +kernel
theorem dX1_near_103 : decode cX1_near 103 = .ok (.iinc 6 1, 3) := by decide +kernel
theorem dX1_near_106 : decode cX1_near 106 = .ok (.goto (-49), 3) := by decide +kernel
theorem dX1_near_109 : decode cX1_near 109 = .ok (.iload_n 3, 1) := by decide +kernel
theorem dX1_near_110 : decode cX1_near 110 = .ok (.iconst 1, 1) := by decide +kernel
theorem dX1_near_111 : decode cX1_near 111 = .ok (.iload 4, 2) := by decide +kernel
theorem dX1_near_113 : decode cX1_near 113 = .ok (.ishl, 1) := by decide +kernel
theorem dX1_near_114 : decode cX1_near 114 = .ok (.iconst (-1), 1) := by decide +kernel
theorem dX1_near_115 : decode cX1_near 115 = .ok (.ixor, 1) := by decide +kernel
theorem dX1_near_116 : decode cX1_near 116 = .ok (.iand, 1) := by decide +kernel
theorem dX1_near_117 : decode cX1_near 117 = .ok (.istore_n 3, 1) := by decide +kernel
theorem dX1_near_118 : decode cX1_near 118 = .ok (.iinc 5 1, 3) := by decide +kernel
theorem dX1_near_121 : decode cX1_near 121 = .ok (.goto (-76), 3) := by decide +kernel
theorem dX1_near_124 : decode cX1_near 124 = .ok (.iload 4, 2) := by decide +kernel
theorem dX1_near_126 : decode cX1_near 126 = .ok (.ireturn, 1) := by decide +kernel
theorem dX1_takenBy_0 : decode cX1_takenBy 0 = .ok (.iconst 0, 1) := by decide +kernel
theorem dX1_takenBy_1 : decode cX1_takenBy 1 = .ok (.istore_n 2, 1) := by decide +kernel
theorem dX1_takenBy_2 : decode cX1_takenBy 2 = .ok (.iconst 0, 1) := by decide +kernel
theorem dX1_takenBy_3 : decode cX1_takenBy 3 = .ok (.istore_n 3, 1) := by decide +kernel
theorem dX1_takenBy_4 : decode cX1_takenBy 4 = .ok (.iload_n 3, 1) := by decide +kernel
theorem dX1_takenBy_5 : decode cX1_takenBy 5 = .ok (.aload_n 0, 1) := by decide +kernel
theorem dX1_takenBy_6 : decode cX1_takenBy 6 = .ok (.getfield 73, 3) := by decide +kernel
theorem dX1_takenBy_9 : decode cX1_takenBy 9 = .ok (.if_icmp .ge 32, 3) := by decide +kernel
theorem dX1_takenBy_12 : decode cX1_takenBy 12 = .ok (.iload_n 2, 1) := by decide +kernel
theorem dX1_takenBy_13 : decode cX1_takenBy 13 = .ok (.aload_n 0, 1) := by decide +kernel
theorem dX1_takenBy_14 : decode cX1_takenBy 14 = .ok (.getfield 32, 3) := by decide +kernel
theorem dX1_takenBy_17 : decode cX1_takenBy 17 = .ok (.iload_n 3, 1) := by decide +kernel
theorem dX1_takenBy_18 : decode cX1_takenBy 18 = .ok (.iaload, 1) := by decide +kernel
theorem dX1_takenBy_19 : decode cX1_takenBy 19 = .ok (.iload_n 1, 1) := by decide +kernel
theorem dX1_takenBy_20 : decode cX1_takenBy 20 = .ok (.if_icmp .ne 12, 3) := by decide +kernel
theorem dX1_takenBy_23 : decode cX1_takenBy 23 = .ok (.aload_n 0, 1) := by decide +kernel
theorem dX1_takenBy_24 : decode cX1_takenBy 24 = .ok (.getfield 38, 3) := by decide +kernel
theorem dX1_takenBy_27 : decode cX1_takenBy 27 = .ok (.iload_n 3, 1) := by decide +kernel
theorem dX1_takenBy_28 : decode cX1_takenBy 28 = .ok (.iaload, 1) := by decide +kernel
theorem dX1_takenBy_29 : decode cX1_takenBy 29 = .ok (.goto 4, 3) := by decide +kernel
theorem dX1_takenBy_32 : decode cX1_takenBy 32 = .ok (.iconst 0, 1) := by decide +kernel
theorem dX1_takenBy_33 : decode cX1_takenBy 33 = .ok (.ior, 1) := by decide +kernel
theorem dX1_takenBy_34 : decode cX1_takenBy 34 = .ok (.istore_n 2, 1) := by decide +kernel
theorem dX1_takenBy_35 : decode cX1_takenBy 35 = .ok (.iinc 3 1, 3) := by decide +kernel
theorem dX1_takenBy_38 : decode cX1_takenBy 38 = .ok (.goto (-34), 3) := by decide +kernel
theorem dX1_takenBy_41 : decode cX1_takenBy 41 = .ok (.iload_n 2, 1) := by decide +kernel
theorem dX1_takenBy_42 : decode cX1_takenBy 42 = .ok (.ireturn, 1) := by decide +kernel
theorem dX1_taken_0 : decode cX1_taken 0 = .ok (.iload_n 1, 1) := by decide +kernel
theorem dX1_taken_1 : decode cX1_taken 1 = .ok (.invokestatic 70, 3) := by decide +kernel
theorem dX1_taken_4 : decode cX1_taken 4 = .ok (.ifCond .eq 11, 3) := by decide +kernel
theorem dX1_taken_7 : decode cX1_taken 7 = .ok (.aload_n 0, 1) := by decide +kernel
theorem dX1_taken_8 : decode cX1_taken 8 = .ok (.iload_n 1, 1) := by decide +kernel
theorem dX1_taken_9 : decode cX1_taken 9 = .ok (.invokevirtual 95, 3) := by decide +kernel
theorem dX1_taken_12 : decode cX1_taken 12 = .ok (.goto 4, 3) := by decide +kernel
theorem dX1_taken_15 : decode cX1_taken 15 = .ok (.iconst (-1), 1) := by decide +kernel
theorem dX1_taken_16 : decode cX1_taken 16 = .ok (.ireturn, 1) := by decide +kernel
theorem dX1_scoreOf_0 : decode cX1_scoreOf 0 = .ok (.aload_n 0, 1) := by decide +kernel
theorem dX1_scoreOf_1 : decode cX1_scoreOf 1 = .ok (.iload_n 1, 1) := by decide +kernel
theorem dX1_scoreOf_2 : decode cX1_scoreOf 2 = .ok (.invokevirtual 95, 3) := by decide +kernel
theorem dX1_scoreOf_5 : decode cX1_scoreOf 5 = .ok (.istore_n 3, 1) := by decide +kernel
theorem dX1_scoreOf_6 : decode cX1_scoreOf 6 = .ok (.iconst 0, 1) := by decide +kernel
theorem dX1_scoreOf_7 : decode cX1_scoreOf 7 = .ok (.istore 4, 2) := by decide +kernel
theorem dX1_scoreOf_9 : decode cX1_scoreOf 9 = .ok (.iconst 0, 1) := by decide +kernel
theorem dX1_scoreOf_10 : decode cX1_scoreOf 10 = .ok (.istore 5, 2) := by decide +kernel
theorem dX1_scoreOf_12 : decode cX1_scoreOf 12 = .ok (.iload 5, 2) := by decide +kernel
theorem dX1_scoreOf_14 : decode cX1_scoreOf 14 = .ok (.aload_n 0, 1) := by decide +kernel
theorem dX1_scoreOf_15 : decode cX1_scoreOf 15 = .ok (.getfield 53, 3) := by decide +kernel
theorem dX1_scoreOf_18 : decode cX1_scoreOf 18 = .ok (.if_icmp .ge 41, 3) := by decide +kernel
theorem dX1_scoreOf_21 : decode cX1_scoreOf 21 = .ok (.iload 4, 2) := by decide +kernel
theorem dX1_scoreOf_23 : decode cX1_scoreOf 23 = .ok (.iload 5, 2) := by decide +kernel
theorem dX1_scoreOf_25 : decode cX1_scoreOf 25 = .ok (.iload_n 2, 1) := by decide +kernel
theorem dX1_scoreOf_26 : decode cX1_scoreOf 26 = .ok (.if_icmp .eq 23, 3) := by decide +kernel
theorem dX1_scoreOf_29 : decode cX1_scoreOf 29 = .ok (.iload_n 3, 1) := by decide +kernel
theorem dX1_scoreOf_30 : decode cX1_scoreOf 30 = .ok (.iload 5, 2) := by decide +kernel
theorem dX1_scoreOf_32 : decode cX1_scoreOf 32 = .ok (.ishr, 1) := by decide +kernel
theorem dX1_scoreOf_33 : decode cX1_scoreOf 33 = .ok (.iconst 1, 1) := by decide +kernel
theorem dX1_scoreOf_34 : decode cX1_scoreOf 34 = .ok (.iand, 1) := by decide +kernel
theorem dX1_scoreOf_35 : decode cX1_scoreOf 35 = .ok (.iconst 1, 1) := by decide +kernel
theorem dX1_scoreOf_36 : decode cX1_scoreOf 36 = .ok (.if_icmp .ne 13, 3) := by decide +kernel
theorem dX1_scoreOf_39 : decode cX1_scoreOf 39 = .ok (.aload_n 0, 1) := by decide +kernel
theorem dX1_scoreOf_40 : decode cX1_scoreOf 40 = .ok (.iload_n 2, 1) := by decide +kernel
theorem dX1_scoreOf_41 : decode cX1_scoreOf 41 = .ok (.iload 5, 2) := by decide +kernel
theorem dX1_scoreOf_43 : decode cX1_scoreOf 43 = .ok (.invokevirtual 91, 3) := by decide +kernel
theorem dX1_scoreOf_46 : decode cX1_scoreOf 46 = .ok (.goto 4, 3) := by decide +kernel
theorem dX1_scoreOf_49 : decode cX1_scoreOf 49 = .ok (.iconst 0, 1) := by decide +kernel
theorem dX1_scoreOf_50 : decode cX1_scoreOf 50 = .ok (.iadd, 1) := by decide +kernel
theorem dX1_scoreOf_51 : decode cX1_scoreOf 51 = .ok (.istore 4, 2) := by decide +kernel
theorem dX1_scoreOf_53 : decode cX1_scoreOf 53 = .ok (.iinc 5 1, 3) := by decide +kernel
theorem dX1_scoreOf_56 : decode cX1_scoreOf 56 = .ok (.goto (-44), 3) := by decide +kernel
theorem dX1_scoreOf_59 : decode cX1_scoreOf 59 = .ok (.iload 4, 2) := by decide +kernel
theorem dX1_scoreOf_61 : decode cX1_scoreOf 61 = .ok (.ireturn, 1) := by decide +kernel
theorem dX1_score_0 : decode cX1_score 0 = .ok (.iload_n 1, 1) := by decide +kernel
theorem dX1_score_1 : decode cX1_score 1 = .ok (.invokestatic 70, 3) := by decide +kernel
theorem dX1_score_4 : decode cX1_score 4 = .ok (.ifCond .eq 20, 3) := by decide +kernel
theorem dX1_score_7 : decode cX1_score 7 = .ok (.aload_n 0, 1) := by decide +kernel
theorem dX1_score_8 : decode cX1_score 8 = .ok (.iload_n 2, 1) := by decide +kernel
theorem dX1_score_9 : decode cX1_score 9 = .ok (.invokevirtual 66, 3) := by decide +kernel
theorem dX1_score_12 : decode cX1_score 12 = .ok (.ifCond .eq 12, 3) := by decide +kernel
theorem dX1_score_15 : decode cX1_score 15 = .ok (.aload_n 0, 1) := by decide +kernel
theorem dX1_score_16 : decode cX1_score 16 = .ok (.iload_n 1, 1) := by decide +kernel
theorem dX1_score_17 : decode cX1_score 17 = .ok (.iload_n 2, 1) := by decide +kernel
theorem dX1_score_18 : decode cX1_score 18 = .ok (.invokevirtual 99, 3) := by decide +kernel
theorem dX1_score_21 : decode cX1_score 21 = .ok (.goto 5, 3) := by decide +kernel
theorem dX1_score_24 : decode cX1_score 24 = .ok (.ldc 94, 2) := by decide +kernel
theorem dX1_score_26 : decode cX1_score 26 = .ok (.ireturn, 1) := by decide +kernel
theorem dX1_mayFor_0 : decode cX1_mayFor 0 = .ok (.aload_n 0, 1) := by decide +kernel
theorem dX1_mayFor_1 : decode cX1_mayFor 1 = .ok (.getfield 63, 3) := by decide +kernel
theorem dX1_mayFor_4 : decode cX1_mayFor 4 = .ok (.aload_n 0, 1) := by decide +kernel
theorem dX1_mayFor_5 : decode cX1_mayFor 5 = .ok (.iload_n 1, 1) := by decide +kernel
theorem dX1_mayFor_6 : decode cX1_mayFor 6 = .ok (.invokevirtual 95, 3) := by decide +kernel
theorem dX1_mayFor_9 : decode cX1_mayFor 9 = .ok (.iconst (-1), 1) := by decide +kernel
theorem dX1_mayFor_10 : decode cX1_mayFor 10 = .ok (.ixor, 1) := by decide +kernel
theorem dX1_mayFor_11 : decode cX1_mayFor 11 = .ok (.iand, 1) := by decide +kernel
theorem dX1_mayFor_12 : decode cX1_mayFor 12 = .ok (.istore_n 2, 1) := by decide +kernel
theorem dX1_mayFor_13 : decode cX1_mayFor 13 = .ok (.iconst 0, 1) := by decide +kernel
theorem dX1_mayFor_14 : decode cX1_mayFor 14 = .ok (.istore_n 3, 1) := by decide +kernel
theorem dX1_mayFor_15 : decode cX1_mayFor 15 = .ok (.iload_n 3, 1) := by decide +kernel
theorem dX1_mayFor_16 : decode cX1_mayFor 16 = .ok (.aload_n 0, 1) := by decide +kernel
theorem dX1_mayFor_17 : decode cX1_mayFor 17 = .ok (.getfield 53, 3) := by decide +kernel
theorem dX1_mayFor_20 : decode cX1_mayFor 20 = .ok (.if_icmp .ge 35, 3) := by decide +kernel
theorem dX1_mayFor_23 : decode cX1_mayFor 23 = .ok (.aload_n 0, 1) := by decide +kernel
theorem dX1_mayFor_24 : decode cX1_mayFor 24 = .ok (.getfield 60, 3) := by decide +kernel
theorem dX1_mayFor_27 : decode cX1_mayFor 27 = .ok (.aload_n 0, 1) := by decide +kernel
theorem dX1_mayFor_28 : decode cX1_mayFor 28 = .ok (.getfield 47, 3) := by decide +kernel
theorem dX1_mayFor_31 : decode cX1_mayFor 31 = .ok (.bipush 12, 2) := by decide +kernel
theorem dX1_mayFor_33 : decode cX1_mayFor 33 = .ok (.iload_n 1, 1) := by decide +kernel
theorem dX1_mayFor_34 : decode cX1_mayFor 34 = .ok (.imul, 1) := by decide +kernel
theorem dX1_mayFor_35 : decode cX1_mayFor 35 = .ok (.iload_n 3, 1) := by decide +kernel
theorem dX1_mayFor_36 : decode cX1_mayFor 36 = .ok (.iadd, 1) := by decide +kernel
theorem dX1_mayFor_37 : decode cX1_mayFor 37 = .ok (.iaload, 1) := by decide +kernel
theorem dX1_mayFor_38 : decode cX1_mayFor 38 = .ok (.if_icmp .ge 11, 3) := by decide +kernel
theorem dX1_mayFor_41 : decode cX1_mayFor 41 = .ok (.iload_n 2, 1) := by decide +kernel
theorem dX1_mayFor_42 : decode cX1_mayFor 42 = .ok (.iconst 1, 1) := by decide +kernel
theorem dX1_mayFor_43 : decode cX1_mayFor 43 = .ok (.iload_n 3, 1) := by decide +kernel
theorem dX1_mayFor_44 : decode cX1_mayFor 44 = .ok (.ishl, 1) := by decide +kernel
theorem dX1_mayFor_45 : decode cX1_mayFor 45 = .ok (.iconst (-1), 1) := by decide +kernel
theorem dX1_mayFor_46 : decode cX1_mayFor 46 = .ok (.ixor, 1) := by decide +kernel
theorem dX1_mayFor_47 : decode cX1_mayFor 47 = .ok (.iand, 1) := by decide +kernel
theorem dX1_mayFor_48 : decode cX1_mayFor 48 = .ok (.istore_n 2, 1) := by decide +kernel
theorem dX1_mayFor_49 : decode cX1_mayFor 49 = .ok (.iinc 3 1, 3) := by decide +kernel
theorem dX1_mayFor_52 : decode cX1_mayFor 52 = .ok (.goto (-37), 3) := by decide +kernel
theorem dX1_mayFor_55 : decode cX1_mayFor 55 = .ok (.iload_n 2, 1) := by decide +kernel
theorem dX1_mayFor_56 : decode cX1_mayFor 56 = .ok (.ireturn, 1) := by decide +kernel
theorem dX1_may_0 : decode cX1_may 0 = .ok (.iload_n 1, 1) := by decide +kernel
theorem dX1_may_1 : decode cX1_may 1 = .ok (.invokestatic 70, 3) := by decide +kernel
theorem dX1_may_4 : decode cX1_may 4 = .ok (.ifCond .eq 11, 3) := by decide +kernel
theorem dX1_may_7 : decode cX1_may 7 = .ok (.aload_n 0, 1) := by decide +kernel
theorem dX1_may_8 : decode cX1_may 8 = .ok (.iload_n 1, 1) := by decide +kernel
theorem dX1_may_9 : decode cX1_may 9 = .ok (.invokevirtual 102, 3) := by decide +kernel
theorem dX1_may_12 : decode cX1_may 12 = .ok (.goto 4, 3) := by decide +kernel
theorem dX1_may_15 : decode cX1_may 15 = .ok (.iconst (-1), 1) := by decide +kernel
theorem dX1_may_16 : decode cX1_may 16 = .ok (.ireturn, 1) := by decide +kernel
theorem dX1_bits_0 : decode cX1_bits 0 = .ok (.iconst 0, 1) := by decide +kernel
theorem dX1_bits_1 : decode cX1_bits 1 = .ok (.istore_n 1, 1) := by decide +kernel
theorem dX1_bits_2 : decode cX1_bits 2 = .ok (.iconst 0, 1) := by decide +kernel
theorem dX1_bits_3 : decode cX1_bits 3 = .ok (.istore_n 2, 1) := by decide +kernel
theorem dX1_bits_4 : decode cX1_bits 4 = .ok (.iload_n 2, 1) := by decide +kernel
theorem dX1_bits_5 : decode cX1_bits 5 = .ok (.bipush 12, 2) := by decide +kernel
theorem dX1_bits_7 : decode cX1_bits 7 = .ok (.if_icmp .ge 17, 3) := by decide +kernel
theorem dX1_bits_10 : decode cX1_bits 10 = .ok (.iload_n 1, 1) := by decide +kernel
theorem dX1_bits_11 : decode cX1_bits 11 = .ok (.iload_n 0, 1) := by decide +kernel
theorem dX1_bits_12 : decode cX1_bits 12 = .ok (.iload_n 2, 1) := by decide +kernel
theorem dX1_bits_13 : decode cX1_bits 13 = .ok (.ishr, 1) := by decide +kernel
theorem dX1_bits_14 : decode cX1_bits 14 = .ok (.iconst 1, 1) := by decide +kernel
theorem dX1_bits_15 : decode cX1_bits 15 = .ok (.iand, 1) := by decide +kernel
theorem dX1_bits_16 : decode cX1_bits 16 = .ok (.iadd, 1) := by decide +kernel
theorem dX1_bits_17 : decode cX1_bits 17 = .ok (.istore_n 1, 1) := by decide +kernel
theorem dX1_bits_18 : decode cX1_bits 18 = .ok (.iinc 2 1, 3) := by decide +kernel
theorem dX1_bits_21 : decode cX1_bits 21 = .ok (.goto (-17), 3) := by decide +kernel
theorem dX1_bits_24 : decode cX1_bits 24 = .ok (.iload_n 1, 1) := by decide +kernel
theorem dX1_bits_25 : decode cX1_bits 25 = .ok (.ireturn, 1) := by decide +kernel
theorem dX1_keeps_0 : decode cX1_keeps 0 = .ok (.iconst 0, 1) := by decide +kernel
theorem dX1_keeps_1 : decode cX1_keeps 1 = .ok (.istore_n 2, 1) := by decide +kernel
theorem dX1_keeps_2 : decode cX1_keeps 2 = .ok (.iload_n 2, 1) := by decide +kernel
theorem dX1_keeps_3 : decode cX1_keeps 3 = .ok (.iconst 4, 1) := by decide +kernel
theorem dX1_keeps_4 : decode cX1_keeps 4 = .ok (.if_icmp .ge 68, 3) := by decide +kernel
theorem dX1_keeps_7 : decode cX1_keeps 7 = .ok (.iconst 0, 1) := by decide +kernel
theorem dX1_keeps_8 : decode cX1_keeps 8 = .ok (.istore_n 3, 1) := by decide +kernel
theorem dX1_keeps_9 : decode cX1_keeps 9 = .ok (.iconst 0, 1) := by decide +kernel
theorem dX1_keeps_10 : decode cX1_keeps 10 = .ok (.istore 4, 2) := by decide +kernel
theorem dX1_keeps_12 : decode cX1_keeps 12 = .ok (.iload 4, 2) := by decide +kernel
theorem dX1_keeps_14 : decode cX1_keeps 14 = .ok (.aload_n 0, 1) := by decide +kernel
theorem dX1_keeps_15 : decode cX1_keeps 15 = .ok (.getfield 53, 3) := by decide +kernel
theorem dX1_keeps_18 : decode cX1_keeps 18 = .ok (.if_icmp .ge 38, 3) := by decide +kernel
theorem dX1_keeps_21 : decode cX1_keeps 21 = .ok (.iload_n 3, 1) := by decide +kernel
theorem dX1_keeps_22 : decode cX1_keeps 22 = .ok (.iload_n 1, 1) := by decide +kernel
theorem dX1_keeps_23 : decode cX1_keeps 23 = .ok (.iload 4, 2) := by decide +kernel
theorem dX1_keeps_25 : decode cX1_keeps 25 = .ok (.ishr, 1) := by decide +kernel
theorem dX1_keeps_26 : decode cX1_keeps 26 = .ok (.iconst 1, 1) := by decide +kernel
theorem dX1_keeps_27 : decode cX1_keeps 27 = .ok (.iand, 1) := by decide +kernel
theorem dX1_keeps_28 : decode cX1_keeps 28 = .ok (.iconst 1, 1) := by decide +kernel
theorem dX1_keeps_29 : decode cX1_keeps 29 = .ok (.if_icmp .ne 18, 3) := by decide +kernel
theorem dX1_keeps_32 : decode cX1_keeps 32 = .ok (.aload_n 0, 1) := by decide +kernel
theorem dX1_keeps_33 : decode cX1_keeps 33 = .ok (.getfield 22, 3) := by decide +kernel
theorem dX1_keeps_36 : decode cX1_keeps 36 = .ok (.iload 4, 2) := by decide +kernel
theorem dX1_keeps_38 : decode cX1_keeps 38 = .ok (.iaload, 1) := by decide +kernel
theorem dX1_keeps_39 : decode cX1_keeps 39 = .ok (.iload_n 2, 1) := by decide +kernel
theorem dX1_keeps_40 : decode cX1_keeps 40 = .ok (.if_icmp .ne 7, 3) := by decide +kernel
theorem dX1_keeps_43 : decode cX1_keeps 43 = .ok (.iconst 1, 1) := by decide +kernel
theorem dX1_keeps_44 : decode cX1_keeps 44 = .ok (.goto 4, 3) := by decide +kernel
theorem dX1_keeps_47 : decode cX1_keeps 47 = .ok (.iconst 0, 1) := by decide +kernel
theorem dX1_keeps_48 : decode cX1_keeps 48 = .ok (.iadd, 1) := by decide +kernel
theorem dX1_keeps_49 : decode cX1_keeps 49 = .ok (.istore_n 3, 1) := by decide +kernel
theorem dX1_keeps_50 : decode cX1_keeps 50 = .ok (.iinc 4 1, 3) := by decide +kernel
theorem dX1_keeps_53 : decode cX1_keeps 53 = .ok (.goto (-41), 3) := by decide +kernel
theorem dX1_keeps_56 : decode cX1_keeps 56 = .ok (.iload_n 3, 1) := by decide +kernel
theorem dX1_keeps_57 : decode cX1_keeps 57 = .ok (.aload_n 0, 1) := by decide +kernel
theorem dX1_keeps_58 : decode cX1_keeps 58 = .ok (.getfield 13, 3) := by decide +kernel
theorem dX1_keeps_61 : decode cX1_keeps 61 = .ok (.if_icmp .le 5, 3) := by decide +kernel
theorem dX1_keeps_64 : decode cX1_keeps 64 = .ok (.iconst 0, 1) := by decide +kernel
theorem dX1_keeps_65 : decode cX1_keeps 65 = .ok (.ireturn, 1) := by decide +kernel
theorem dX1_keeps_66 : decode cX1_keeps 66 = .ok (.iinc 2 1, 3) := by decide +kernel
theorem dX1_keeps_69 : decode cX1_keeps 69 = .ok (.goto (-67), 3) := by decide +kernel
theorem dX1_keeps_72 : decode cX1_keeps 72 = .ok (.iconst 0, 1) := by decide +kernel
theorem dX1_keeps_73 : decode cX1_keeps 73 = .ok (.istore_n 2, 1) := by decide +kernel
theorem dX1_keeps_74 : decode cX1_keeps 74 = .ok (.iload_n 2, 1) := by decide +kernel
theorem dX1_keeps_75 : decode cX1_keeps 75 = .ok (.aload_n 0, 1) := by decide +kernel
theorem dX1_keeps_76 : decode cX1_keeps 76 = .ok (.getfield 53, 3) := by decide +kernel
theorem dX1_keeps_79 : decode cX1_keeps 79 = .ok (.if_icmp .ge 31, 3) := by decide +kernel
theorem dX1_keeps_82 : decode cX1_keeps 82 = .ok (.iload_n 1, 1) := by decide +kernel
theorem dX1_keeps_83 : decode cX1_keeps 83 = .ok (.iload_n 2, 1) := by decide +kernel
theorem dX1_keeps_84 : decode cX1_keeps 84 = .ok (.ishr, 1) := by decide +kernel
theorem dX1_keeps_85 : decode cX1_keeps 85 = .ok (.iconst 1, 1) := by decide +kernel
theorem dX1_keeps_86 : decode cX1_keeps 86 = .ok (.iand, 1) := by decide +kernel
theorem dX1_keeps_87 : decode cX1_keeps 87 = .ok (.iconst 1, 1) := by decide +kernel
theorem dX1_keeps_88 : decode cX1_keeps 88 = .ok (.if_icmp .ne 16, 3) := by decide +kernel
theorem dX1_keeps_91 : decode cX1_keeps 91 = .ok (.aload_n 0, 1) := by decide +kernel
theorem dX1_keeps_92 : decode cX1_keeps 92 = .ok (.getfield 29, 3) := by decide +kernel
theorem dX1_keeps_95 : decode cX1_keeps 95 = .ok (.iload_n 2, 1) := by decide +kernel
theorem dX1_keeps_96 : decode cX1_keeps 96 = .ok (.iaload, 1) := by decide +kernel
theorem dX1_keeps_97 : decode cX1_keeps 97 = .ok (.iload_n 1, 1) := by decide +kernel
theorem dX1_keeps_98 : decode cX1_keeps 98 = .ok (.iand, 1) := by decide +kernel
theorem dX1_keeps_99 : decode cX1_keeps 99 = .ok (.ifCond .eq 5, 3) := by decide +kernel
theorem dX1_keeps_102 : decode cX1_keeps 102 = .ok (.iconst 0, 1) := by decide +kernel
theorem dX1_keeps_103 : decode cX1_keeps 103 = .ok (.ireturn, 1) := by decide +kernel
theorem dX1_keeps_104 : decode cX1_keeps 104 = .ok (.iinc 2 1, 3) := by decide +kernel
theorem dX1_keeps_107 : decode cX1_keeps 107 = .ok (.goto (-33), 3) := by decide +kernel
theorem dX1_keeps_110 : decode cX1_keeps 110 = .ok (.iconst 1, 1) := by decide +kernel
theorem dX1_keeps_111 : decode cX1_keeps 111 = .ok (.ireturn, 1) := by decide +kernel
theorem dX1_lists_0 : decode cX1_lists 0 = .ok (.iload_n 1, 1) := by decide +kernel
theorem dX1_lists_1 : decode cX1_lists 1 = .ok (.invokestatic 70, 3) := by decide +kernel
theorem dX1_lists_4 : decode cX1_lists 4 = .ok (.ifCond .eq 12, 3) := by decide +kernel
theorem dX1_lists_7 : decode cX1_lists 7 = .ok (.iload_n 2, 1) := by decide +kernel
theorem dX1_lists_8 : decode cX1_lists 8 = .ok (.iconst 1, 1) := by decide +kernel
theorem dX1_lists_9 : decode cX1_lists 9 = .ok (.iconst 5, 1) := by decide +kernel
theorem dX1_lists_10 : decode cX1_lists 10 = .ok (.invokestatic 56, 3) := by decide +kernel
theorem dX1_lists_13 : decode cX1_lists 13 = .ok (.ifCond .ne 5, 3) := by decide +kernel
theorem dX1_lists_16 : decode cX1_lists 16 = .ok (.iconst 0, 1) := by decide +kernel
theorem dX1_lists_17 : decode cX1_lists 17 = .ok (.ireturn, 1) := by decide +kernel
theorem dX1_lists_18 : decode cX1_lists 18 = .ok (.aload_n 0, 1) := by decide +kernel
theorem dX1_lists_19 : decode cX1_lists 19 = .ok (.iload_n 1, 1) := by decide +kernel
theorem dX1_lists_20 : decode cX1_lists 20 = .ok (.invokevirtual 102, 3) := by decide +kernel
theorem dX1_lists_23 : decode cX1_lists 23 = .ok (.istore_n 3, 1) := by decide +kernel
theorem dX1_lists_24 : decode cX1_lists 24 = .ok (.aload_n 0, 1) := by decide +kernel
theorem dX1_lists_25 : decode cX1_lists 25 = .ok (.getfield 41, 3) := by decide +kernel
theorem dX1_lists_28 : decode cX1_lists 28 = .ok (.iload_n 1, 1) := by decide +kernel
theorem dX1_lists_29 : decode cX1_lists 29 = .ok (.iaload, 1) := by decide +kernel
theorem dX1_lists_30 : decode cX1_lists 30 = .ok (.iconst 1, 1) := by decide +kernel
theorem dX1_lists_31 : decode cX1_lists 31 = .ok (.iadd, 1) := by decide +kernel
theorem dX1_lists_32 : decode cX1_lists 32 = .ok (.aload_n 0, 1) := by decide +kernel
theorem dX1_lists_33 : decode cX1_lists 33 = .ok (.getfield 16, 3) := by decide +kernel
theorem dX1_lists_36 : decode cX1_lists 36 = .ok (.irem, 1) := by decide +kernel
theorem dX1_lists_37 : decode cX1_lists 37 = .ok (.ifCond .ne 12, 3) := by decide +kernel
theorem dX1_lists_40 : decode cX1_lists 40 = .ok (.iload_n 3, 1) := by decide +kernel
theorem dX1_lists_41 : decode cX1_lists 41 = .ok (.aload_n 0, 1) := by decide +kernel
theorem dX1_lists_42 : decode cX1_lists 42 = .ok (.invokevirtual 80, 3) := by decide +kernel
theorem dX1_lists_45 : decode cX1_lists 45 = .ok (.iand, 1) := by decide +kernel
theorem dX1_lists_46 : decode cX1_lists 46 = .ok (.goto 4, 3) := by decide +kernel
theorem dX1_lists_49 : decode cX1_lists 49 = .ok (.iconst 0, 1) := by decide +kernel
theorem dX1_lists_50 : decode cX1_lists 50 = .ok (.istore 4, 2) := by decide +kernel
theorem dX1_lists_52 : decode cX1_lists 52 = .ok (.iconst 0, 1) := by decide +kernel
theorem dX1_lists_53 : decode cX1_lists 53 = .ok (.istore 5, 2) := by decide +kernel
theorem dX1_lists_55 : decode cX1_lists 55 = .ok (.iload 5, 2) := by decide +kernel
theorem dX1_lists_57 : decode cX1_lists 57 = .ok (.aload_n 0, 1) := by decide +kernel
theorem dX1_lists_58 : decode cX1_lists 58 = .ok (.getfield 53, 3) := by decide +kernel
theorem dX1_lists_61 : decode cX1_lists 61 = .ok (.if_icmp .ge 23, 3) := by decide +kernel
theorem dX1_lists_64 : decode cX1_lists 64 = .ok (.aload_n 0, 1) := by decide +kernel
theorem dX1_lists_65 : decode cX1_lists 65 = .ok (.getfield 50, 3) := by decide +kernel
theorem dX1_lists_68 : decode cX1_lists 68 = .ok (.iload 5, 2) := by decide +kernel
theorem dX1_lists_70 : decode cX1_lists 70 = .ok (.aload_n 0, 1) := by decide +kernel
theorem dX1_lists_71 : decode cX1_lists 71 = .ok (.iload_n 1, 1) := by decide +kernel
theorem dX1_lists_72 : decode cX1_lists 72 = .ok (.iload 5, 2) := by decide +kernel
theorem dX1_lists_74 : decode cX1_lists 74 = .ok (.invokevirtual 99, 3) := by decide +kernel
theorem dX1_lists_77 : decode cX1_lists 77 = .ok (.iastore, 1) := by decide +kernel
theorem dX1_lists_78 : decode cX1_lists 78 = .ok (.iinc 5 1, 3) := by decide +kernel
theorem dX1_lists_81 : decode cX1_lists 81 = .ok (.goto (-26), 3) := by decide +kernel
theorem dX1_lists_84 : decode cX1_lists 84 = .ok (.aload_n 0, 1) := by decide +kernel
theorem dX1_lists_85 : decode cX1_lists 85 = .ok (.iconst 0, 1) := by decide +kernel
theorem dX1_lists_86 : decode cX1_lists 86 = .ok (.putfield 105, 3) := by decide +kernel
theorem dX1_lists_89 : decode cX1_lists 89 = .ok (.aload_n 0, 1) := by decide +kernel
theorem dX1_lists_90 : decode cX1_lists 90 = .ok (.iconst 0, 1) := by decide +kernel
theorem dX1_lists_91 : decode cX1_lists 91 = .ok (.putfield 108, 3) := by decide +kernel
theorem dX1_lists_94 : decode cX1_lists 94 = .ok (.iconst 1, 1) := by decide +kernel
theorem dX1_lists_95 : decode cX1_lists 95 = .ok (.istore 5, 2) := by decide +kernel
theorem dX1_lists_97 : decode cX1_lists 97 = .ok (.iload 5, 2) := by decide +kernel
theorem dX1_lists_99 : decode cX1_lists 99 = .ok (.iconst 1, 1) := by decide +kernel
theorem dX1_lists_100 : decode cX1_lists 100 = .ok (.aload_n 0, 1) := by decide +kernel
theorem dX1_lists_101 : decode cX1_lists 101 = .ok (.getfield 53, 3) := by decide +kernel
theorem dX1_lists_104 : decode cX1_lists 104 = .ok (.ishl, 1) := by decide +kernel
theorem dX1_lists_105 : decode cX1_lists 105 = .ok (.if_icmp .ge 154, 3) := by decide +kernel
theorem dX1_lists_108 : decode cX1_lists 108 = .ok (.iload 5, 2) := by decide +kernel
theorem dX1_lists_110 : decode cX1_lists 110 = .ok (.iload_n 3, 1) := by decide +kernel
theorem dX1_lists_111 : decode cX1_lists 111 = .ok (.iconst (-1), 1) := by decide +kernel
theorem dX1_lists_112 : decode cX1_lists 112 = .ok (.ixor, 1) := by decide +kernel
theorem dX1_lists_113 : decode cX1_lists 113 = .ok (.iand, 1) := by decide +kernel
theorem dX1_lists_114 : decode cX1_lists 114 = .ok (.ifCond .ne 139, 3) := by decide +kernel
theorem dX1_lists_117 : decode cX1_lists 117 = .ok (.iload 5, 2) := by decide +kernel
theorem dX1_lists_119 : decode cX1_lists 119 = .ok (.invokestatic 111, 3) := by decide +kernel
theorem dX1_lists_122 : decode cX1_lists 122 = .ok (.iload_n 2, 1) := by decide +kernel
theorem dX1_lists_123 : decode cX1_lists 123 = .ok (.if_icmp .gt 130, 3) := by decide +kernel
theorem dX1_lists_126 : decode cX1_lists 126 = .ok (.iload 5, 2) := by decide +kernel
theorem dX1_lists_128 : decode cX1_lists 128 = .ok (.invokestatic 111, 3) := by decide +kernel
theorem dX1_lists_131 : decode cX1_lists 131 = .ok (.aload_n 0, 1) := by decide +kernel
theorem dX1_lists_132 : decode cX1_lists 132 = .ok (.getfield 105, 3) := by decide +kernel
theorem dX1_lists_135 : decode cX1_lists 135 = .ok (.invokestatic 111, 3) := by decide +kernel
theorem dX1_lists_138 : decode cX1_lists 138 = .ok (.if_icmp .lt 115, 3) := by decide +kernel
theorem dX1_lists_141 : decode cX1_lists 141 = .ok (.iload 4, 2) := by decide +kernel
theorem dX1_lists_143 : decode cX1_lists 143 = .ok (.ifCond .eq 11, 3) := by decide +kernel
theorem dX1_lists_146 : decode cX1_lists 146 = .ok (.iload 5, 2) := by decide +kernel
theorem dX1_lists_148 : decode cX1_lists 148 = .ok (.iload 4, 2) := by decide +kernel
theorem dX1_lists_150 : decode cX1_lists 150 = .ok (.iand, 1) := by decide +kernel
theorem dX1_lists_151 : decode cX1_lists 151 = .ok (.ifCond .eq 102, 3) := by decide +kernel
theorem dX1_lists_154 : decode cX1_lists 154 = .ok (.aload_n 0, 1) := by decide +kernel
theorem dX1_lists_155 : decode cX1_lists 155 = .ok (.iload 5, 2) := by decide +kernel
theorem dX1_lists_157 : decode cX1_lists 157 = .ok (.invokevirtual 114, 3) := by decide +kernel
theorem dX1_lists_160 : decode cX1_lists 160 = .ok (.ifCond .ne 6, 3) := by decide +kernel
theorem dX1_lists_163 : decode cX1_lists 163 = .ok (.goto 90, 3) := by decide +kernel
theorem dX1_lists_166 : decode cX1_lists 166 = .ok (.iconst 0, 1) := by decide +kernel
theorem dX1_lists_167 : decode cX1_lists 167 = .ok (.istore 6, 2) := by decide +kernel
theorem dX1_lists_169 : decode cX1_lists 169 = .ok (.iconst 0, 1) := by decide +kernel
theorem dX1_lists_170 : decode cX1_lists 170 = .ok (.istore 7, 2) := by decide +kernel
theorem dX1_lists_172 : decode cX1_lists 172 = .ok (.iload 7, 2) := by decide +kernel
theorem dX1_lists_174 : decode cX1_lists 174 = .ok (.aload_n 0, 1) := by decide +kernel
theorem dX1_lists_175 : decode cX1_lists 175 = .ok (.getfield 53, 3) := by decide +kernel
theorem dX1_lists_178 : decode cX1_lists 178 = .ok (.if_icmp .ge 36, 3) := by decide +kernel
theorem dX1_lists_181 : decode cX1_lists 181 = .ok (.iload 6, 2) := by decide +kernel
theorem dX1_lists_183 : decode cX1_lists 183 = .ok (.iload 5, 2) := by decide +kernel
theorem dX1_lists_185 : decode cX1_lists 185 = .ok (.iload 7, 2) := by decide +kernel
theorem dX1_lists_187 : decode cX1_lists 187 = .ok (.ishr, 1) := by decide +kernel
theorem dX1_lists_188 : decode cX1_lists 188 = .ok (.iconst 1, 1) := by decide +kernel
theorem dX1_lists_189 : decode cX1_lists 189 = .ok (.iand, 1) := by decide +kernel
theorem dX1_lists_190 : decode cX1_lists 190 = .ok (.iconst 1, 1) := by decide +kernel
theorem dX1_lists_191 : decode cX1_lists 191 = .ok (.if_icmp .ne 13, 3) := by decide +kernel
theorem dX1_lists_194 : decode cX1_lists 194 = .ok (.aload_n 0, 1) := by decide +kernel
theorem dX1_lists_195 : decode cX1_lists 195 = .ok (.getfield 50, 3) := by decide +kernel
theorem dX1_lists_198 : decode cX1_lists 198 = .ok (.iload 7, 2) := by decide +kernel
theorem dX1_lists_200 : decode cX1_lists 200 = .ok (.iaload, 1) := by decide +kernel
theorem dX1_lists_201 : decode cX1_lists 201 = .ok (.goto 4, 3) := by decide +kernel
theorem dX1_lists_204 : decode cX1_lists 204 = .ok (.iconst 0, 1) := by decide +kernel
theorem dX1_lists_205 : decode cX1_lists 205 = .ok (.iadd, 1) := by decide +kernel
theorem dX1_lists_206 : decode cX1_lists 206 = .ok (.istore 6, 2) := by decide +kernel
theorem dX1_lists_208 : decode cX1_lists 208 = .ok (.iinc 7 1, 3) := by decide +kernel
theorem dX1_lists_211 : decode cX1_lists 211 = .ok (.goto (-39), 3) := by decide +kernel
theorem dX1_lists_214 : decode cX1_lists 214 = .ok (.iload 5, 2) := by decide +kernel
theorem dX1_lists_216 : decode cX1_lists 216 = .ok (.invokestatic 111, 3) := by decide +kernel
theorem dX1_lists_219 : decode cX1_lists 219 = .ok (.aload_n 0, 1) := by decide +kernel
theorem dX1_lists_220 : decode cX1_lists 220 = .ok (.getfield 105, 3) := by decide +kernel
theorem dX1_lists_223 : decode cX1_lists 223 = .ok (.invokestatic 111, 3) := by decide +kernel
theorem dX1_lists_226 : decode cX1_lists 226 = .ok (.if_icmp .ne 15, 3) := by decide +kernel
theorem dX1_lists_229 : decode cX1_lists 229 = .ok (.iload 6, 2) := by decide +kernel
theorem dX1_lists_231 : decode cX1_lists 231 = .ok (.aload_n 0, 1) := by decide +kernel
theorem dX1_lists_232 : decode cX1_lists 232 = .ok (.getfield 108, 3) := by decide +kernel
theorem dX1_lists_235 : decode cX1_lists 235 = .ok (.if_icmp .gt 6, 3) := by decide +kernel
theorem dX1_lists_238 : decode cX1_lists 238 = .ok (.goto 15, 3) := by decide +kernel
theorem dX1_lists_241 : decode cX1_lists 241 = .ok (.aload_n 0, 1) := by decide +kernel
theorem dX1_lists_242 : decode cX1_lists 242 = .ok (.iload 5, 2) := by decide +kernel
theorem dX1_lists_244 : decode cX1_lists 244 = .ok (.putfield 105, 3) := by decide +kernel
theorem dX1_lists_247 : decode cX1_lists 247 = .ok (.aload_n 0, 1) := by decide +kernel
theorem dX1_lists_248 : decode cX1_lists 248 = .ok (.iload 6, 2) := by decide +kernel
theorem dX1_lists_250 : decode cX1_lists 250 = .ok (.putfield 108, 3) := by decide +kernel
theorem dX1_lists_253 : decode cX1_lists 253 = .ok (.iinc 5 1, 3) := by decide +kernel
theorem dX1_lists_256 : decode cX1_lists 256 = .ok (.goto (-159), 3) := by decide +kernel
theorem dX1_lists_259 : decode cX1_lists 259 = .ok (.iconst 1, 1) := by decide +kernel
theorem dX1_lists_260 : decode cX1_lists 260 = .ok (.ireturn, 1) := by decide +kernel
theorem dX1_list_0 : decode cX1_list 0 = .ok (.iload_n 3, 1) := by decide +kernel
theorem dX1_list_1 : decode cX1_list 1 = .ok (.iconst 0, 1) := by decide +kernel
theorem dX1_list_2 : decode cX1_list 2 = .ok (.iconst 1, 1) := by decide +kernel
theorem dX1_list_3 : decode cX1_list 3 = .ok (.invokestatic 56, 3) := by decide +kernel
theorem dX1_list_6 : decode cX1_list 6 = .ok (.ifCond .eq 30, 3) := by decide +kernel
theorem dX1_list_9 : decode cX1_list 9 = .ok (.aload_n 0, 1) := by decide +kernel
theorem dX1_list_10 : decode cX1_list 10 = .ok (.iload_n 1, 1) := by decide +kernel
theorem dX1_list_11 : decode cX1_list 11 = .ok (.iload_n 2, 1) := by decide +kernel
theorem dX1_list_12 : decode cX1_list 12 = .ok (.invokevirtual 117, 3) := by decide +kernel
theorem dX1_list_15 : decode cX1_list 15 = .ok (.ifCond .eq 21, 3) := by decide +kernel
theorem dX1_list_18 : decode cX1_list 18 = .ok (.iload_n 3, 1) := by decide +kernel
theorem dX1_list_19 : decode cX1_list 19 = .ok (.ifCond .ne 10, 3) := by decide +kernel
theorem dX1_list_22 : decode cX1_list 22 = .ok (.aload_n 0, 1) := by decide +kernel
theorem dX1_list_23 : decode cX1_list 23 = .ok (.getfield 105, 3) := by decide +kernel
theorem dX1_list_26 : decode cX1_list 26 = .ok (.goto 12, 3) := by decide +kernel
theorem dX1_list_29 : decode cX1_list 29 = .ok (.aload_n 0, 1) := by decide +kernel
theorem dX1_list_30 : decode cX1_list 30 = .ok (.getfield 108, 3) := by decide +kernel
theorem dX1_list_33 : decode cX1_list 33 = .ok (.goto 5, 3) := by decide +kernel
theorem dX1_list_36 : decode cX1_list 36 = .ok (.ldc 94, 2) := by decide +kernel
theorem dX1_list_38 : decode cX1_list 38 = .ok (.ireturn, 1) := by decide +kernel
theorem dX1_show_0 : decode cX1_show 0 = .ok (.aload_n 0, 1) := by decide +kernel
theorem dX1_show_1 : decode cX1_show 1 = .ok (.iload_n 1, 1) := by decide +kernel
theorem dX1_show_2 : decode cX1_show 2 = .ok (.iload_n 2, 1) := by decide +kernel
theorem dX1_show_3 : decode cX1_show 3 = .ok (.invokevirtual 117, 3) := by decide +kernel
theorem dX1_show_6 : decode cX1_show 6 = .ok (.ifCond .ne 5, 3) := by decide +kernel
theorem dX1_show_9 : decode cX1_show 9 = .ok (.iconst (-1), 1) := by decide +kernel
theorem dX1_show_10 : decode cX1_show 10 = .ok (.ireturn, 1) := by decide +kernel
theorem dX1_show_11 : decode cX1_show 11 = .ok (.aload_n 0, 1) := by decide +kernel
theorem dX1_show_12 : decode cX1_show 12 = .ok (.getfield 41, 3) := by decide +kernel
theorem dX1_show_15 : decode cX1_show 15 = .ok (.iload_n 1, 1) := by decide +kernel
theorem dX1_show_16 : decode cX1_show 16 = .ok (.dup2, 1) := by decide +kernel
theorem dX1_show_17 : decode cX1_show 17 = .ok (.iaload, 1) := by decide +kernel
theorem dX1_show_18 : decode cX1_show 18 = .ok (.iconst 1, 1) := by decide +kernel
theorem dX1_show_19 : decode cX1_show 19 = .ok (.iadd, 1) := by decide +kernel
theorem dX1_show_20 : decode cX1_show 20 = .ok (.iastore, 1) := by decide +kernel
theorem dX1_show_21 : decode cX1_show 21 = .ok (.iconst 0, 1) := by decide +kernel
theorem dX1_show_22 : decode cX1_show 22 = .ok (.istore_n 3, 1) := by decide +kernel
theorem dX1_show_23 : decode cX1_show 23 = .ok (.iload_n 3, 1) := by decide +kernel
theorem dX1_show_24 : decode cX1_show 24 = .ok (.aload_n 0, 1) := by decide +kernel
theorem dX1_show_25 : decode cX1_show 25 = .ok (.getfield 53, 3) := by decide +kernel
theorem dX1_show_28 : decode cX1_show 28 = .ok (.if_icmp .ge 81, 3) := by decide +kernel
theorem dX1_show_31 : decode cX1_show 31 = .ok (.aload_n 0, 1) := by decide +kernel
theorem dX1_show_32 : decode cX1_show 32 = .ok (.getfield 105, 3) := by decide +kernel
theorem dX1_show_35 : decode cX1_show 35 = .ok (.iload_n 3, 1) := by decide +kernel
theorem dX1_show_36 : decode cX1_show 36 = .ok (.ishr, 1) := by decide +kernel
theorem dX1_show_37 : decode cX1_show 37 = .ok (.iconst 1, 1) := by decide +kernel
theorem dX1_show_38 : decode cX1_show 38 = .ok (.iand, 1) := by decide +kernel
theorem dX1_show_39 : decode cX1_show 39 = .ok (.ifCond .ne 6, 3) := by decide +kernel
theorem dX1_show_42 : decode cX1_show 42 = .ok (.goto 61, 3) := by decide +kernel
theorem dX1_show_45 : decode cX1_show 45 = .ok (.bipush 12, 2) := by decide +kernel
theorem dX1_show_47 : decode cX1_show 47 = .ok (.iload_n 1, 1) := by decide +kernel
theorem dX1_show_48 : decode cX1_show 48 = .ok (.imul, 1) := by decide +kernel
theorem dX1_show_49 : decode cX1_show 49 = .ok (.iload_n 3, 1) := by decide +kernel
theorem dX1_show_50 : decode cX1_show 50 = .ok (.iadd, 1) := by decide +kernel
theorem dX1_show_51 : decode cX1_show 51 = .ok (.istore 4, 2) := by decide +kernel
theorem dX1_show_53 : decode cX1_show 53 = .ok (.aload_n 0, 1) := by decide +kernel
theorem dX1_show_54 : decode cX1_show 54 = .ok (.getfield 44, 3) := by decide +kernel
theorem dX1_show_57 : decode cX1_show 57 = .ok (.iload 4, 2) := by decide +kernel
theorem dX1_show_59 : decode cX1_show 59 = .ok (.dup2, 1) := by decide +kernel
theorem dX1_show_60 : decode cX1_show 60 = .ok (.iaload, 1) := by decide +kernel
theorem dX1_show_61 : decode cX1_show 61 = .ok (.iconst 1, 1) := by decide +kernel
theorem dX1_show_62 : decode cX1_show 62 = .ok (.iadd, 1) := by decide +kernel
theorem dX1_show_63 : decode cX1_show 63 = .ok (.iastore, 1) := by decide +kernel
theorem dX1_show_64 : decode cX1_show 64 = .ok (.aload_n 0, 1) := by decide +kernel
theorem dX1_show_65 : decode cX1_show 65 = .ok (.getfield 44, 3) := by decide +kernel
theorem dX1_show_68 : decode cX1_show 68 = .ok (.iload 4, 2) := by decide +kernel
theorem dX1_show_70 : decode cX1_show 70 = .ok (.iaload, 1) := by decide +kernel
theorem dX1_show_71 : decode cX1_show 71 = .ok (.aload_n 0, 1) := by decide +kernel
theorem dX1_show_72 : decode cX1_show 72 = .ok (.getfield 19, 3) := by decide +kernel
theorem dX1_show_75 : decode cX1_show 75 = .ok (.if_icmp .ge 6, 3) := by decide +kernel
theorem dX1_show_78 : decode cX1_show 78 = .ok (.goto 25, 3) := by decide +kernel
theorem dX1_show_81 : decode cX1_show 81 = .ok (.aload_n 0, 1) := by decide +kernel
theorem dX1_show_82 : decode cX1_show 82 = .ok (.getfield 44, 3) := by decide +kernel
theorem dX1_show_85 : decode cX1_show 85 = .ok (.iload 4, 2) := by decide +kernel
theorem dX1_show_87 : decode cX1_show 87 = .ok (.iconst 0, 1) := by decide +kernel
theorem dX1_show_88 : decode cX1_show 88 = .ok (.iastore, 1) := by decide +kernel
theorem dX1_show_89 : decode cX1_show 89 = .ok (.aload_n 0, 1) := by decide +kernel
theorem dX1_show_90 : decode cX1_show 90 = .ok (.getfield 47, 3) := by decide +kernel
theorem dX1_show_93 : decode cX1_show 93 = .ok (.iload 4, 2) := by decide +kernel
theorem dX1_show_95 : decode cX1_show 95 = .ok (.aload_n 0, 1) := by decide +kernel
theorem dX1_show_96 : decode cX1_show 96 = .ok (.getfield 60, 3) := by decide +kernel
theorem dX1_show_99 : decode cX1_show 99 = .ok (.bipush 7, 2) := by decide +kernel
theorem dX1_show_101 : decode cX1_show 101 = .ok (.iadd, 1) := by decide +kernel
theorem dX1_show_102 : decode cX1_show 102 = .ok (.iastore, 1) := by decide +kernel
theorem dX1_show_103 : decode cX1_show 103 = .ok (.iinc 3 1, 3) := by decide +kernel
theorem dX1_show_106 : decode cX1_show 106 = .ok (.goto (-83), 3) := by decide +kernel
theorem dX1_show_109 : decode cX1_show 109 = .ok (.aload_n 0, 1) := by decide +kernel
theorem dX1_show_110 : decode cX1_show 110 = .ok (.getfield 105, 3) := by decide +kernel
theorem dX1_show_113 : decode cX1_show 113 = .ok (.ireturn, 1) := by decide +kernel
theorem dX1_shown_0 : decode cX1_shown 0 = .ok (.iload_n 1, 1) := by decide +kernel
theorem dX1_shown_1 : decode cX1_shown 1 = .ok (.invokestatic 70, 3) := by decide +kernel
theorem dX1_shown_4 : decode cX1_shown 4 = .ok (.ifCond .ne 5, 3) := by decide +kernel
theorem dX1_shown_7 : decode cX1_shown 7 = .ok (.iconst (-1), 1) := by decide +kernel
theorem dX1_shown_8 : decode cX1_shown 8 = .ok (.ireturn, 1) := by decide +kernel
theorem dX1_shown_9 : decode cX1_shown 9 = .ok (.iload_n 3, 1) := by decide +kernel
theorem dX1_shown_10 : decode cX1_shown 10 = .ok (.iconst 2, 1) := by decide +kernel
theorem dX1_shown_11 : decode cX1_shown 11 = .ok (.if_icmp .ne 19, 3) := by decide +kernel
theorem dX1_shown_14 : decode cX1_shown 14 = .ok (.iload_n 2, 1) := by decide +kernel
theorem dX1_shown_15 : decode cX1_shown 15 = .ok (.iconst (-1), 1) := by decide +kernel
theorem dX1_shown_16 : decode cX1_shown 16 = .ok (.if_icmp .ne 12, 3) := by decide +kernel
theorem dX1_shown_19 : decode cX1_shown 19 = .ok (.aload_n 0, 1) := by decide +kernel
theorem dX1_shown_20 : decode cX1_shown 20 = .ok (.getfield 41, 3) := by decide +kernel
theorem dX1_shown_23 : decode cX1_shown 23 = .ok (.iload_n 1, 1) := by decide +kernel
theorem dX1_shown_24 : decode cX1_shown 24 = .ok (.iaload, 1) := by decide +kernel
theorem dX1_shown_25 : decode cX1_shown 25 = .ok (.goto 4, 3) := by decide +kernel
theorem dX1_shown_28 : decode cX1_shown 28 = .ok (.iconst (-1), 1) := by decide +kernel
theorem dX1_shown_29 : decode cX1_shown 29 = .ok (.ireturn, 1) := by decide +kernel
theorem dX1_shown_30 : decode cX1_shown 30 = .ok (.aload_n 0, 1) := by decide +kernel
theorem dX1_shown_31 : decode cX1_shown 31 = .ok (.iload_n 2, 1) := by decide +kernel
theorem dX1_shown_32 : decode cX1_shown 32 = .ok (.invokevirtual 66, 3) := by decide +kernel
theorem dX1_shown_35 : decode cX1_shown 35 = .ok (.ifCond .ne 5, 3) := by decide +kernel
theorem dX1_shown_38 : decode cX1_shown 38 = .ok (.iconst (-1), 1) := by decide +kernel
theorem dX1_shown_39 : decode cX1_shown 39 = .ok (.ireturn, 1) := by decide +kernel
theorem dX1_shown_40 : decode cX1_shown 40 = .ok (.bipush 12, 2) := by decide +kernel
theorem dX1_shown_42 : decode cX1_shown 42 = .ok (.iload_n 1, 1) := by decide +kernel
theorem dX1_shown_43 : decode cX1_shown 43 = .ok (.imul, 1) := by decide +kernel
theorem dX1_shown_44 : decode cX1_shown 44 = .ok (.iload_n 2, 1) := by decide +kernel
theorem dX1_shown_45 : decode cX1_shown 45 = .ok (.iadd, 1) := by decide +kernel
theorem dX1_shown_46 : decode cX1_shown 46 = .ok (.istore 4, 2) := by decide +kernel
theorem dX1_shown_48 : decode cX1_shown 48 = .ok (.iload_n 3, 1) := by decide +kernel
theorem dX1_shown_49 : decode cX1_shown 49 = .ok (.ifCond .ne 13, 3) := by decide +kernel
theorem dX1_shown_52 : decode cX1_shown 52 = .ok (.aload_n 0, 1) := by decide +kernel
theorem dX1_shown_53 : decode cX1_shown 53 = .ok (.getfield 44, 3) := by decide +kernel
theorem dX1_shown_56 : decode cX1_shown 56 = .ok (.iload 4, 2) := by decide +kernel
theorem dX1_shown_58 : decode cX1_shown 58 = .ok (.iaload, 1) := by decide +kernel
theorem dX1_shown_59 : decode cX1_shown 59 = .ok (.goto 42, 3) := by decide +kernel
theorem dX1_shown_62 : decode cX1_shown 62 = .ok (.iload_n 3, 1) := by decide +kernel
theorem dX1_shown_63 : decode cX1_shown 63 = .ok (.iconst 1, 1) := by decide +kernel
theorem dX1_shown_64 : decode cX1_shown 64 = .ok (.if_icmp .ne 36, 3) := by decide +kernel
theorem dX1_shown_67 : decode cX1_shown 67 = .ok (.aload_n 0, 1) := by decide +kernel
theorem dX1_shown_68 : decode cX1_shown 68 = .ok (.getfield 60, 3) := by decide +kernel
theorem dX1_shown_71 : decode cX1_shown 71 = .ok (.aload_n 0, 1) := by decide +kernel
theorem dX1_shown_72 : decode cX1_shown 72 = .ok (.getfield 47, 3) := by decide +kernel
theorem dX1_shown_75 : decode cX1_shown 75 = .ok (.iload 4, 2) := by decide +kernel
theorem dX1_shown_77 : decode cX1_shown 77 = .ok (.iaload, 1) := by decide +kernel
theorem dX1_shown_78 : decode cX1_shown 78 = .ok (.if_icmp .ge 18, 3) := by decide +kernel
theorem dX1_shown_81 : decode cX1_shown 81 = .ok (.aload_n 0, 1) := by decide +kernel
theorem dX1_shown_82 : decode cX1_shown 82 = .ok (.getfield 47, 3) := by decide +kernel
theorem dX1_shown_85 : decode cX1_shown 85 = .ok (.iload 4, 2) := by decide +kernel
theorem dX1_shown_87 : decode cX1_shown 87 = .ok (.iaload, 1) := by decide +kernel
theorem dX1_shown_88 : decode cX1_shown 88 = .ok (.aload_n 0, 1) := by decide +kernel
theorem dX1_shown_89 : decode cX1_shown 89 = .ok (.getfield 60, 3) := by decide +kernel
theorem dX1_shown_92 : decode cX1_shown 92 = .ok (.isub, 1) := by decide +kernel
theorem dX1_shown_93 : decode cX1_shown 93 = .ok (.goto 8, 3) := by decide +kernel
theorem dX1_shown_96 : decode cX1_shown 96 = .ok (.iconst 0, 1) := by decide +kernel
theorem dX1_shown_97 : decode cX1_shown 97 = .ok (.goto 4, 3) := by decide +kernel
theorem dX1_shown_100 : decode cX1_shown 100 = .ok (.iconst (-1), 1) := by decide +kernel
theorem dX1_shown_101 : decode cX1_shown 101 = .ok (.ireturn, 1) := by decide +kernel
theorem dX1_why_0 : decode cX1_why 0 = .ok (.iload_n 1, 1) := by decide +kernel
theorem dX1_why_1 : decode cX1_why 1 = .ok (.invokestatic 70, 3) := by decide +kernel
theorem dX1_why_4 : decode cX1_why 4 = .ok (.ifCond .eq 20, 3) := by decide +kernel
theorem dX1_why_7 : decode cX1_why 7 = .ok (.aload_n 0, 1) := by decide +kernel
theorem dX1_why_8 : decode cX1_why 8 = .ok (.iload_n 2, 1) := by decide +kernel
theorem dX1_why_9 : decode cX1_why 9 = .ok (.invokevirtual 66, 3) := by decide +kernel
theorem dX1_why_12 : decode cX1_why 12 = .ok (.ifCond .eq 12, 3) := by decide +kernel
theorem dX1_why_15 : decode cX1_why 15 = .ok (.iload_n 3, 1) := by decide +kernel
theorem dX1_why_16 : decode cX1_why 16 = .ok (.iconst 0, 1) := by decide +kernel
theorem dX1_why_17 : decode cX1_why 17 = .ok (.iconst 2, 1) := by decide +kernel
theorem dX1_why_18 : decode cX1_why 18 = .ok (.invokestatic 56, 3) := by decide +kernel
theorem dX1_why_21 : decode cX1_why 21 = .ok (.ifCond .ne 6, 3) := by decide +kernel
theorem dX1_why_24 : decode cX1_why 24 = .ok (.ldc 94, 2) := by decide +kernel
theorem dX1_why_26 : decode cX1_why 26 = .ok (.ireturn, 1) := by decide +kernel
theorem dX1_why_27 : decode cX1_why 27 = .ok (.aload_n 0, 1) := by decide +kernel
theorem dX1_why_28 : decode cX1_why 28 = .ok (.iload_n 1, 1) := by decide +kernel
theorem dX1_why_29 : decode cX1_why 29 = .ok (.invokevirtual 95, 3) := by decide +kernel
theorem dX1_why_32 : decode cX1_why 32 = .ok (.iconst 1, 1) := by decide +kernel
theorem dX1_why_33 : decode cX1_why 33 = .ok (.iload_n 2, 1) := by decide +kernel
theorem dX1_why_34 : decode cX1_why 34 = .ok (.ishl, 1) := by decide +kernel
theorem dX1_why_35 : decode cX1_why 35 = .ok (.iconst (-1), 1) := by decide +kernel
theorem dX1_why_36 : decode cX1_why 36 = .ok (.ixor, 1) := by decide +kernel
theorem dX1_why_37 : decode cX1_why 37 = .ok (.iand, 1) := by decide +kernel
theorem dX1_why_38 : decode cX1_why 38 = .ok (.istore 4, 2) := by decide +kernel
theorem dX1_why_40 : decode cX1_why 40 = .ok (.iconst (-1), 1) := by decide +kernel
theorem dX1_why_41 : decode cX1_why 41 = .ok (.istore 5, 2) := by decide +kernel
theorem dX1_why_43 : decode cX1_why 43 = .ok (.iconst 0, 1) := by decide +kernel
theorem dX1_why_44 : decode cX1_why 44 = .ok (.istore 6, 2) := by decide +kernel
theorem dX1_why_46 : decode cX1_why 46 = .ok (.iload 6, 2) := by decide +kernel
theorem dX1_why_48 : decode cX1_why 48 = .ok (.aload_n 0, 1) := by decide +kernel
theorem dX1_why_49 : decode cX1_why 49 = .ok (.getfield 53, 3) := by decide +kernel
theorem dX1_why_52 : decode cX1_why 52 = .ok (.if_icmp .ge 47, 3) := by decide +kernel
theorem dX1_why_55 : decode cX1_why 55 = .ok (.iload 4, 2) := by decide +kernel
theorem dX1_why_57 : decode cX1_why 57 = .ok (.iload 6, 2) := by decide +kernel
theorem dX1_why_59 : decode cX1_why 59 = .ok (.ishr, 1) := by decide +kernel
theorem dX1_why_60 : decode cX1_why 60 = .ok (.iconst 1, 1) := by decide +kernel
theorem dX1_why_61 : decode cX1_why 61 = .ok (.iand, 1) := by decide +kernel
theorem dX1_why_62 : decode cX1_why 62 = .ok (.iconst 1, 1) := by decide +kernel
theorem dX1_why_63 : decode cX1_why 63 = .ok (.if_icmp .ne 30, 3) := by decide +kernel
theorem dX1_why_66 : decode cX1_why 66 = .ok (.iload 5, 2) := by decide +kernel
theorem dX1_why_68 : decode cX1_why 68 = .ok (.iconst (-1), 1) := by decide +kernel
theorem dX1_why_69 : decode cX1_why 69 = .ok (.if_icmp .eq 20, 3) := by decide +kernel
theorem dX1_why_72 : decode cX1_why 72 = .ok (.aload_n 0, 1) := by decide +kernel
theorem dX1_why_73 : decode cX1_why 73 = .ok (.iload_n 2, 1) := by decide +kernel
theorem dX1_why_74 : decode cX1_why 74 = .ok (.iload 6, 2) := by decide +kernel
theorem dX1_why_76 : decode cX1_why 76 = .ok (.invokevirtual 91, 3) := by decide +kernel
theorem dX1_why_79 : decode cX1_why 79 = .ok (.aload_n 0, 1) := by decide +kernel
theorem dX1_why_80 : decode cX1_why 80 = .ok (.iload_n 2, 1) := by decide +kernel
theorem dX1_why_81 : decode cX1_why 81 = .ok (.iload 5, 2) := by decide +kernel
theorem dX1_why_83 : decode cX1_why 83 = .ok (.invokevirtual 91, 3) := by decide +kernel
theorem dX1_why_86 : decode cX1_why 86 = .ok (.if_icmp .le 7, 3) := by decide +kernel
theorem dX1_why_89 : decode cX1_why 89 = .ok (.iload 6, 2) := by decide +kernel
theorem dX1_why_91 : decode cX1_why 91 = .ok (.istore 5, 2) := by decide +kernel
theorem dX1_why_93 : decode cX1_why 93 = .ok (.iinc 6 1, 3) := by decide +kernel
theorem dX1_why_96 : decode cX1_why 96 = .ok (.goto (-50), 3) := by decide +kernel
theorem dX1_why_99 : decode cX1_why 99 = .ok (.iload 5, 2) := by decide +kernel
theorem dX1_why_101 : decode cX1_why 101 = .ok (.iconst (-1), 1) := by decide +kernel
theorem dX1_why_102 : decode cX1_why 102 = .ok (.if_icmp .ne 6, 3) := by decide +kernel
theorem dX1_why_105 : decode cX1_why 105 = .ok (.ldc 94, 2) := by decide +kernel
theorem dX1_why_107 : decode cX1_why 107 = .ok (.ireturn, 1) := by decide +kernel
theorem dX1_why_108 : decode cX1_why 108 = .ok (.iload_n 3, 1) := by decide +kernel
theorem dX1_why_109 : decode cX1_why 109 = .ok (.ifCond .ne 8, 3) := by decide +kernel
theorem dX1_why_112 : decode cX1_why 112 = .ok (.iload 5, 2) := by decide +kernel
theorem dX1_why_114 : decode cX1_why 114 = .ok (.goto 25, 3) := by decide +kernel
theorem dX1_why_117 : decode cX1_why 117 = .ok (.iload_n 3, 1) := by decide +kernel
theorem dX1_why_118 : decode cX1_why 118 = .ok (.iconst 1, 1) := by decide +kernel
theorem dX1_why_119 : decode cX1_why 119 = .ok (.if_icmp .ne 13, 3) := by decide +kernel
theorem dX1_why_122 : decode cX1_why 122 = .ok (.aload_n 0, 1) := by decide +kernel
theorem dX1_why_123 : decode cX1_why 123 = .ok (.iload_n 2, 1) := by decide +kernel
theorem dX1_why_124 : decode cX1_why 124 = .ok (.iload 5, 2) := by decide +kernel
theorem dX1_why_126 : decode cX1_why 126 = .ok (.invokevirtual 91, 3) := by decide +kernel
theorem dX1_why_129 : decode cX1_why 129 = .ok (.goto 10, 3) := by decide +kernel
theorem dX1_why_132 : decode cX1_why 132 = .ok (.aload_n 0, 1) := by decide +kernel
theorem dX1_why_133 : decode cX1_why 133 = .ok (.iload_n 2, 1) := by decide +kernel
theorem dX1_why_134 : decode cX1_why 134 = .ok (.iload 5, 2) := by decide +kernel
theorem dX1_why_136 : decode cX1_why 136 = .ok (.invokevirtual 84, 3) := by decide +kernel
theorem dX1_why_139 : decode cX1_why 139 = .ok (.ireturn, 1) := by decide +kernel
end
section
theorem dL_law_0 : decode cL_law 0 = .ok (.new 7, 3) := by decide +kernel
theorem dL_law_3 : decode cL_law 3 = .ok (.dup, 1) := by decide +kernel
theorem dL_law_4 : decode cL_law 4 = .ok (.invokespecial 9, 3) := by decide +kernel
theorem dL_law_7 : decode cL_law 7 = .ok (.astore_n 1, 1) := by decide +kernel
theorem dL_law_8 : decode cL_law 8 = .ok (.new 10, 3) := by decide +kernel
theorem dL_law_11 : decode cL_law 11 = .ok (.dup, 1) := by decide +kernel
theorem dL_law_12 : decode cL_law 12 = .ok (.invokespecial 12, 3) := by decide +kernel
theorem dL_law_15 : decode cL_law 15 = .ok (.astore_n 2, 1) := by decide +kernel
theorem dL_law_16 : decode cL_law 16 = .ok (.iconst 0, 1) := by decide +kernel
theorem dL_law_17 : decode cL_law 17 = .ok (.istore_n 3, 1) := by decide +kernel
theorem dL_law_18 : decode cL_law 18 = .ok (.iload_n 3, 1) := by decide +kernel
theorem dL_law_19 : decode cL_law 19 = .ok (.aload_n 0, 1) := by decide +kernel
theorem dL_law_20 : decode cL_law 20 = .ok (.arraylength, 1) := by decide +kernel
theorem dL_law_21 : decode cL_law 21 = .ok (.iconst 4, 1) := by decide +kernel
theorem dL_law_22 : decode cL_law 22 = .ok (.isub, 1) := by decide +kernel
theorem dL_law_23 : decode cL_law 23 = .ok (.if_icmp .gt 773, 3) := by decide +kernel
theorem dL_law_26 : decode cL_law 26 = .ok (.aload_n 0, 1) := by decide +kernel
theorem dL_law_27 : decode cL_law 27 = .ok (.iload_n 3, 1) := by decide +kernel
theorem dL_law_28 : decode cL_law 28 = .ok (.iaload, 1) := by decide +kernel
theorem dL_law_29 : decode cL_law 29 = .ok (.bipush 31, 2) := by decide +kernel
theorem dL_law_31 : decode cL_law 31 = .ok (.iand, 1) := by decide +kernel
theorem dL_law_32 : decode cL_law 32 = .ok (.tableswitch 758 0 19 #[96, 119, 168, 201, 260, 293, 316, 339, 352, 375, 408, 451, 484, 517, 540, 573, 596, 639, 672, 715], 96) := by decide +kernel
theorem dL_law_128 : decode cL_law 128 = .ok (.aload_n 1, 1) := by decide +kernel
theorem dL_law_129 : decode cL_law 129 = .ok (.aload_n 0, 1) := by decide +kernel
theorem dL_law_130 : decode cL_law 130 = .ok (.iload_n 3, 1) := by decide +kernel
theorem dL_law_131 : decode cL_law 131 = .ok (.iconst 1, 1) := by decide +kernel
theorem dL_law_132 : decode cL_law 132 = .ok (.iadd, 1) := by decide +kernel
theorem dL_law_133 : decode cL_law 133 = .ok (.iaload, 1) := by decide +kernel
theorem dL_law_134 : decode cL_law 134 = .ok (.invokevirtual 13, 3) := by decide +kernel
theorem dL_law_137 : decode cL_law 137 = .ok (.aload_n 2, 1) := by decide +kernel
theorem dL_law_138 : decode cL_law 138 = .ok (.aload_n 0, 1) := by decide +kernel
theorem dL_law_139 : decode cL_law 139 = .ok (.iload_n 3, 1) := by decide +kernel
theorem dL_law_140 : decode cL_law 140 = .ok (.iconst 1, 1) := by decide +kernel
theorem dL_law_141 : decode cL_law 141 = .ok (.iadd, 1) := by decide +kernel
theorem dL_law_142 : decode cL_law 142 = .ok (.iaload, 1) := by decide +kernel
theorem dL_law_143 : decode cL_law 143 = .ok (.invokevirtual 17, 3) := by decide +kernel
theorem dL_law_146 : decode cL_law 146 = .ok (.if_icmp .eq 644, 3) := by decide +kernel
theorem dL_law_149 : decode cL_law 149 = .ok (.iconst 0, 1) := by decide +kernel
theorem dL_law_150 : decode cL_law 150 = .ok (.ireturn, 1) := by decide +kernel
theorem dL_law_151 : decode cL_law 151 = .ok (.aload_n 1, 1) := by decide +kernel
theorem dL_law_152 : decode cL_law 152 = .ok (.aload_n 0, 1) := by decide +kernel
theorem dL_law_153 : decode cL_law 153 = .ok (.iload_n 3, 1) := by decide +kernel
theorem dL_law_154 : decode cL_law 154 = .ok (.iconst 1, 1) := by decide +kernel
theorem dL_law_155 : decode cL_law 155 = .ok (.iadd, 1) := by decide +kernel
theorem dL_law_156 : decode cL_law 156 = .ok (.iaload, 1) := by decide +kernel
theorem dL_law_157 : decode cL_law 157 = .ok (.aload_n 0, 1) := by decide +kernel
theorem dL_law_158 : decode cL_law 158 = .ok (.iload_n 3, 1) := by decide +kernel
theorem dL_law_159 : decode cL_law 159 = .ok (.iconst 2, 1) := by decide +kernel
theorem dL_law_160 : decode cL_law 160 = .ok (.iadd, 1) := by decide +kernel
theorem dL_law_161 : decode cL_law 161 = .ok (.iaload, 1) := by decide +kernel
theorem dL_law_162 : decode cL_law 162 = .ok (.ifCond .eq 7, 3) := by decide +kernel
theorem dL_law_165 : decode cL_law 165 = .ok (.iconst 1, 1) := by decide +kernel
theorem dL_law_166 : decode cL_law 166 = .ok (.goto 4, 3) := by decide +kernel
theorem dL_law_169 : decode cL_law 169 = .ok (.iconst 0, 1) := by decide +kernel
theorem dL_law_170 : decode cL_law 170 = .ok (.invokevirtual 18, 3) := by decide +kernel
theorem dL_law_173 : decode cL_law 173 = .ok (.aload_n 2, 1) := by decide +kernel
theorem dL_law_174 : decode cL_law 174 = .ok (.aload_n 0, 1) := by decide +kernel
theorem dL_law_175 : decode cL_law 175 = .ok (.iload_n 3, 1) := by decide +kernel
theorem dL_law_176 : decode cL_law 176 = .ok (.iconst 1, 1) := by decide +kernel
theorem dL_law_177 : decode cL_law 177 = .ok (.iadd, 1) := by decide +kernel
theorem dL_law_178 : decode cL_law 178 = .ok (.iaload, 1) := by decide +kernel
theorem dL_law_179 : decode cL_law 179 = .ok (.aload_n 0, 1) := by decide +kernel
theorem dL_law_180 : decode cL_law 180 = .ok (.iload_n 3, 1) := by decide +kernel
theorem dL_law_181 : decode cL_law 181 = .ok (.iconst 2, 1) := by decide +kernel
theorem dL_law_182 : decode cL_law 182 = .ok (.iadd, 1) := by decide +kernel
theorem dL_law_183 : decode cL_law 183 = .ok (.iaload, 1) := by decide +kernel
theorem dL_law_184 : decode cL_law 184 = .ok (.ifCond .eq 7, 3) := by decide +kernel
theorem dL_law_187 : decode cL_law 187 = .ok (.iconst 1, 1) := by decide +kernel
theorem dL_law_188 : decode cL_law 188 = .ok (.goto 4, 3) := by decide +kernel
theorem dL_law_191 : decode cL_law 191 = .ok (.iconst 0, 1) := by decide +kernel
theorem dL_law_192 : decode cL_law 192 = .ok (.invokevirtual 22, 3) := by decide +kernel
theorem dL_law_195 : decode cL_law 195 = .ok (.if_icmp .eq 595, 3) := by decide +kernel
theorem dL_law_198 : decode cL_law 198 = .ok (.iconst 0, 1) := by decide +kernel
theorem dL_law_199 : decode cL_law 199 = .ok (.ireturn, 1) := by decide +kernel
theorem dL_law_200 : decode cL_law 200 = .ok (.aload_n 1, 1) := by decide +kernel
theorem dL_law_201 : decode cL_law 201 = .ok (.aload_n 0, 1) := by decide +kernel
theorem dL_law_202 : decode cL_law 202 = .ok (.iload_n 3, 1) := by decide +kernel
theorem dL_law_203 : decode cL_law 203 = .ok (.iconst 1, 1) := by decide +kernel
theorem dL_law_204 : decode cL_law 204 = .ok (.iadd, 1) := by decide +kernel
theorem dL_law_205 : decode cL_law 205 = .ok (.iaload, 1) := by decide +kernel
theorem dL_law_206 : decode cL_law 206 = .ok (.aload_n 0, 1) := by decide +kernel
theorem dL_law_207 : decode cL_law 207 = .ok (.iload_n 3, 1) := by decide +kernel
theorem dL_law_208 : decode cL_law 208 = .ok (.iconst 2, 1) := by decide +kernel
theorem dL_law_209 : decode cL_law 209 = .ok (.iadd, 1) := by decide +kernel
theorem dL_law_210 : decode cL_law 210 = .ok (.iaload, 1) := by decide +kernel
theorem dL_law_211 : decode cL_law 211 = .ok (.invokevirtual 23, 3) := by decide +kernel
theorem dL_law_214 : decode cL_law 214 = .ok (.aload_n 2, 1) := by decide +kernel
theorem dL_law_215 : decode cL_law 215 = .ok (.aload_n 0, 1) := by decide +kernel
theorem dL_law_216 : decode cL_law 216 = .ok (.iload_n 3, 1) := by decide +kernel
theorem dL_law_217 : decode cL_law 217 = .ok (.iconst 1, 1) := by decide +kernel
theorem dL_law_218 : decode cL_law 218 = .ok (.iadd, 1) := by decide +kernel
theorem dL_law_219 : decode cL_law 219 = .ok (.iaload, 1) := by decide +kernel
theorem dL_law_220 : decode cL_law 220 = .ok (.aload_n 0, 1) := by decide +kernel
theorem dL_law_221 : decode cL_law 221 = .ok (.iload_n 3, 1) := by decide +kernel
theorem dL_law_222 : decode cL_law 222 = .ok (.iconst 2, 1) := by decide +kernel
theorem dL_law_223 : decode cL_law 223 = .ok (.iadd, 1) := by decide +kernel
theorem dL_law_224 : decode cL_law 224 = .ok (.iaload, 1) := by decide +kernel
theorem dL_law_225 : decode cL_law 225 = .ok (.invokevirtual 27, 3) := by decide +kernel
theorem dL_law_228 : decode cL_law 228 = .ok (.if_icmp .eq 562, 3) := by decide +kernel
theorem dL_law_231 : decode cL_law 231 = .ok (.iconst 0, 1) := by decide +kernel
theorem dL_law_232 : decode cL_law 232 = .ok (.ireturn, 1) := by decide +kernel
theorem dL_law_233 : decode cL_law 233 = .ok (.aload_n 1, 1) := by decide +kernel
theorem dL_law_234 : decode cL_law 234 = .ok (.aload_n 0, 1) := by decide +kernel
theorem dL_law_235 : decode cL_law 235 = .ok (.iload_n 3, 1) := by decide +kernel
theorem dL_law_236 : decode cL_law 236 = .ok (.iconst 1, 1) := by decide +kernel
theorem dL_law_237 : decode cL_law 237 = .ok (.iadd, 1) := by decide +kernel
theorem dL_law_238 : decode cL_law 238 = .ok (.iaload, 1) := by decide +kernel
theorem dL_law_239 : decode cL_law 239 = .ok (.aload_n 0, 1) := by decide +kernel
theorem dL_law_240 : decode cL_law 240 = .ok (.iload_n 3, 1) := by decide +kernel
theorem dL_law_241 : decode cL_law 241 = .ok (.iconst 2, 1) := by decide +kernel
theorem dL_law_242 : decode cL_law 242 = .ok (.iadd, 1) := by decide +kernel
theorem dL_law_243 : decode cL_law 243 = .ok (.iaload, 1) := by decide +kernel
theorem dL_law_244 : decode cL_law 244 = .ok (.aload_n 0, 1) := by decide +kernel
theorem dL_law_245 : decode cL_law 245 = .ok (.iload_n 3, 1) := by decide +kernel
theorem dL_law_246 : decode cL_law 246 = .ok (.iconst 3, 1) := by decide +kernel
theorem dL_law_247 : decode cL_law 247 = .ok (.iadd, 1) := by decide +kernel
theorem dL_law_248 : decode cL_law 248 = .ok (.iaload, 1) := by decide +kernel
theorem dL_law_249 : decode cL_law 249 = .ok (.ifCond .eq 7, 3) := by decide +kernel
theorem dL_law_252 : decode cL_law 252 = .ok (.iconst 1, 1) := by decide +kernel
theorem dL_law_253 : decode cL_law 253 = .ok (.goto 4, 3) := by decide +kernel
theorem dL_law_256 : decode cL_law 256 = .ok (.iconst 0, 1) := by decide +kernel
theorem dL_law_257 : decode cL_law 257 = .ok (.invokevirtual 28, 3) := by decide +kernel
theorem dL_law_260 : decode cL_law 260 = .ok (.aload_n 2, 1) := by decide +kernel
theorem dL_law_261 : decode cL_law 261 = .ok (.aload_n 0, 1) := by decide +kernel
theorem dL_law_262 : decode cL_law 262 = .ok (.iload_n 3, 1) := by decide +kernel
theorem dL_law_263 : decode cL_law 263 = .ok (.iconst 1, 1) := by decide +kernel
theorem dL_law_264 : decode cL_law 264 = .ok (.iadd, 1) := by decide +kernel
theorem dL_law_265 : decode cL_law 265 = .ok (.iaload, 1) := by decide +kernel
theorem dL_law_266 : decode cL_law 266 = .ok (.aload_n 0, 1) := by decide +kernel
theorem dL_law_267 : decode cL_law 267 = .ok (.iload_n 3, 1) := by decide +kernel
theorem dL_law_268 : decode cL_law 268 = .ok (.iconst 2, 1) := by decide +kernel
theorem dL_law_269 : decode cL_law 269 = .ok (.iadd, 1) := by decide +kernel
theorem dL_law_270 : decode cL_law 270 = .ok (.iaload, 1) := by decide +kernel
theorem dL_law_271 : decode cL_law 271 = .ok (.aload_n 0, 1) := by decide +kernel
theorem dL_law_272 : decode cL_law 272 = .ok (.iload_n 3, 1) := by decide +kernel
theorem dL_law_273 : decode cL_law 273 = .ok (.iconst 3, 1) := by decide +kernel
theorem dL_law_274 : decode cL_law 274 = .ok (.iadd, 1) := by decide +kernel
theorem dL_law_275 : decode cL_law 275 = .ok (.iaload, 1) := by decide +kernel
theorem dL_law_276 : decode cL_law 276 = .ok (.ifCond .eq 7, 3) := by decide +kernel
theorem dL_law_279 : decode cL_law 279 = .ok (.iconst 1, 1) := by decide +kernel
theorem dL_law_280 : decode cL_law 280 = .ok (.goto 4, 3) := by decide +kernel
theorem dL_law_283 : decode cL_law 283 = .ok (.iconst 0, 1) := by decide +kernel
theorem dL_law_284 : decode cL_law 284 = .ok (.invokevirtual 32, 3) := by decide +kernel
theorem dL_law_287 : decode cL_law 287 = .ok (.if_icmp .eq 503, 3) := by decide +kernel
theorem dL_law_290 : decode cL_law 290 = .ok (.iconst 0, 1) := by decide +kernel
theorem dL_law_291 : decode cL_law 291 = .ok (.ireturn, 1) := by decide +kernel
theorem dL_law_292 : decode cL_law 292 = .ok (.aload_n 1, 1) := by decide +kernel
theorem dL_law_293 : decode cL_law 293 = .ok (.aload_n 0, 1) := by decide +kernel
theorem dL_law_294 : decode cL_law 294 = .ok (.iload_n 3, 1) := by decide +kernel
theorem dL_law_295 : decode cL_law 295 = .ok (.iconst 1, 1) := by decide +kernel
theorem dL_law_296 : decode cL_law 296 = .ok (.iadd, 1) := by decide +kernel
theorem dL_law_297 : decode cL_law 297 = .ok (.iaload, 1) := by decide +kernel
theorem dL_law_298 : decode cL_law 298 = .ok (.aload_n 0, 1) := by decide +kernel
theorem dL_law_299 : decode cL_law 299 = .ok (.iload_n 3, 1) := by decide +kernel
theorem dL_law_300 : decode cL_law 300 = .ok (.iconst 2, 1) := by decide +kernel
theorem dL_law_301 : decode cL_law 301 = .ok (.iadd, 1) := by decide +kernel
theorem dL_law_302 : decode cL_law 302 = .ok (.iaload, 1) := by decide +kernel
theorem dL_law_303 : decode cL_law 303 = .ok (.invokevirtual 33, 3) := by decide +kernel
theorem dL_law_306 : decode cL_law 306 = .ok (.aload_n 2, 1) := by decide +kernel
theorem dL_law_307 : decode cL_law 307 = .ok (.aload_n 0, 1) := by decide +kernel
theorem dL_law_308 : decode cL_law 308 = .ok (.iload_n 3, 1) := by decide +kernel
theorem dL_law_309 : decode cL_law 309 = .ok (.iconst 1, 1) := by decide +kernel
theorem dL_law_310 : decode cL_law 310 = .ok (.iadd, 1) := by decide +kernel
theorem dL_law_311 : decode cL_law 311 = .ok (.iaload, 1) := by decide +kernel
theorem dL_law_312 : decode cL_law 312 = .ok (.aload_n 0, 1) := by decide +kernel
theorem dL_law_313 : decode cL_law 313 = .ok (.iload_n 3, 1) := by decide +kernel
theorem dL_law_314 : decode cL_law 314 = .ok (.iconst 2, 1) := by decide +kernel
theorem dL_law_315 : decode cL_law 315 = .ok (.iadd, 1) := by decide +kernel
theorem dL_law_316 : decode cL_law 316 = .ok (.iaload, 1) := by decide +kernel
theorem dL_law_317 : decode cL_law 317 = .ok (.invokevirtual 37, 3) := by decide +kernel
theorem dL_law_320 : decode cL_law 320 = .ok (.if_icmp .eq 470, 3) := by decide +kernel
theorem dL_law_323 : decode cL_law 323 = .ok (.iconst 0, 1) := by decide +kernel
theorem dL_law_324 : decode cL_law 324 = .ok (.ireturn, 1) := by decide +kernel
theorem dL_law_325 : decode cL_law 325 = .ok (.aload_n 1, 1) := by decide +kernel
theorem dL_law_326 : decode cL_law 326 = .ok (.aload_n 0, 1) := by decide +kernel
theorem dL_law_327 : decode cL_law 327 = .ok (.iload_n 3, 1) := by decide +kernel
theorem dL_law_328 : decode cL_law 328 = .ok (.iconst 1, 1) := by decide +kernel
theorem dL_law_329 : decode cL_law 329 = .ok (.iadd, 1) := by decide +kernel
theorem dL_law_330 : decode cL_law 330 = .ok (.iaload, 1) := by decide +kernel
theorem dL_law_331 : decode cL_law 331 = .ok (.invokevirtual 38, 3) := by decide +kernel
theorem dL_law_334 : decode cL_law 334 = .ok (.aload_n 2, 1) := by decide +kernel
theorem dL_law_335 : decode cL_law 335 = .ok (.aload_n 0, 1) := by decide +kernel
theorem dL_law_336 : decode cL_law 336 = .ok (.iload_n 3, 1) := by decide +kernel
theorem dL_law_337 : decode cL_law 337 = .ok (.iconst 1, 1) := by decide +kernel
theorem dL_law_338 : decode cL_law 338 = .ok (.iadd, 1) := by decide +kernel
theorem dL_law_339 : decode cL_law 339 = .ok (.iaload, 1) := by decide +kernel
theorem dL_law_340 : decode cL_law 340 = .ok (.invokevirtual 42, 3) := by decide +kernel
theorem dL_law_343 : decode cL_law 343 = .ok (.if_icmp .eq 447, 3) := by decide +kernel
theorem dL_law_346 : decode cL_law 346 = .ok (.iconst 0, 1) := by decide +kernel
theorem dL_law_347 : decode cL_law 347 = .ok (.ireturn, 1) := by decide +kernel
theorem dL_law_348 : decode cL_law 348 = .ok (.aload_n 1, 1) := by decide +kernel
theorem dL_law_349 : decode cL_law 349 = .ok (.aload_n 0, 1) := by decide +kernel
theorem dL_law_350 : decode cL_law 350 = .ok (.iload_n 3, 1) := by decide +kernel
theorem dL_law_351 : decode cL_law 351 = .ok (.iconst 1, 1) := by decide +kernel
theorem dL_law_352 : decode cL_law 352 = .ok (.iadd, 1) := by decide +kernel
theorem dL_law_353 : decode cL_law 353 = .ok (.iaload, 1) := by decide +kernel
theorem dL_law_354 : decode cL_law 354 = .ok (.invokevirtual 43, 3) := by decide +kernel
theorem dL_law_357 : decode cL_law 357 = .ok (.aload_n 2, 1) := by decide +kernel
theorem dL_law_358 : decode cL_law 358 = .ok (.aload_n 0, 1) := by decide +kernel
theorem dL_law_359 : decode cL_law 359 = .ok (.iload_n 3, 1) := by decide +kernel
theorem dL_law_360 : decode cL_law 360 = .ok (.iconst 1, 1) := by decide +kernel
theorem dL_law_361 : decode cL_law 361 = .ok (.iadd, 1) := by decide +kernel
theorem dL_law_362 : decode cL_law 362 = .ok (.iaload, 1) := by decide +kernel
theorem dL_law_363 : decode cL_law 363 = .ok (.invokevirtual 46, 3) := by decide +kernel
theorem dL_law_366 : decode cL_law 366 = .ok (.if_icmp .eq 424, 3) := by decide +kernel
theorem dL_law_369 : decode cL_law 369 = .ok (.iconst 0, 1) := by decide +kernel
theorem dL_law_370 : decode cL_law 370 = .ok (.ireturn, 1) := by decide +kernel
theorem dL_law_371 : decode cL_law 371 = .ok (.aload_n 1, 1) := by decide +kernel
theorem dL_law_372 : decode cL_law 372 = .ok (.invokevirtual 47, 3) := by decide +kernel
theorem dL_law_375 : decode cL_law 375 = .ok (.aload_n 2, 1) := by decide +kernel
theorem dL_law_376 : decode cL_law 376 = .ok (.invokevirtual 51, 3) := by decide +kernel
theorem dL_law_379 : decode cL_law 379 = .ok (.if_icmp .eq 411, 3) := by decide +kernel
theorem dL_law_382 : decode cL_law 382 = .ok (.iconst 0, 1) := by decide +kernel
theorem dL_law_383 : decode cL_law 383 = .ok (.ireturn, 1) := by decide +kernel
theorem dL_law_384 : decode cL_law 384 = .ok (.aload_n 1, 1) := by decide +kernel
theorem dL_law_385 : decode cL_law 385 = .ok (.aload_n 0, 1) := by decide +kernel
theorem dL_law_386 : decode cL_law 386 = .ok (.iload_n 3, 1) := by decide +kernel
theorem dL_law_387 : decode cL_law 387 = .ok (.iconst 1, 1) := by decide +kernel
theorem dL_law_388 : decode cL_law 388 = .ok (.iadd, 1) := by decide +kernel
theorem dL_law_389 : decode cL_law 389 = .ok (.iaload, 1) := by decide +kernel
theorem dL_law_390 : decode cL_law 390 = .ok (.invokevirtual 52, 3) := by decide +kernel
theorem dL_law_393 : decode cL_law 393 = .ok (.aload_n 2, 1) := by decide +kernel
theorem dL_law_394 : decode cL_law 394 = .ok (.aload_n 0, 1) := by decide +kernel
theorem dL_law_395 : decode cL_law 395 = .ok (.iload_n 3, 1) := by decide +kernel
theorem dL_law_396 : decode cL_law 396 = .ok (.iconst 1, 1) := by decide +kernel
theorem dL_law_397 : decode cL_law 397 = .ok (.iadd, 1) := by decide +kernel
theorem dL_law_398 : decode cL_law 398 = .ok (.iaload, 1) := by decide +kernel
theorem dL_law_399 : decode cL_law 399 = .ok (.invokevirtual 55, 3) := by decide +kernel
theorem dL_law_402 : decode cL_law 402 = .ok (.if_icmp .eq 388, 3) := by decide +kernel
theorem dL_law_405 : decode cL_law 405 = .ok (.iconst 0, 1) := by decide +kernel
theorem dL_law_406 : decode cL_law 406 = .ok (.ireturn, 1) := by decide +kernel
theorem dL_law_407 : decode cL_law 407 = .ok (.aload_n 1, 1) := by decide +kernel
theorem dL_law_408 : decode cL_law 408 = .ok (.aload_n 0, 1) := by decide +kernel
theorem dL_law_409 : decode cL_law 409 = .ok (.iload_n 3, 1) := by decide +kernel
theorem dL_law_410 : decode cL_law 410 = .ok (.iconst 1, 1) := by decide +kernel
theorem dL_law_411 : decode cL_law 411 = .ok (.iadd, 1) := by decide +kernel
theorem dL_law_412 : decode cL_law 412 = .ok (.iaload, 1) := by decide +kernel
theorem dL_law_413 : decode cL_law 413 = .ok (.aload_n 0, 1) := by decide +kernel
theorem dL_law_414 : decode cL_law 414 = .ok (.iload_n 3, 1) := by decide +kernel
theorem dL_law_415 : decode cL_law 415 = .ok (.iconst 2, 1) := by decide +kernel
theorem dL_law_416 : decode cL_law 416 = .ok (.iadd, 1) := by decide +kernel
theorem dL_law_417 : decode cL_law 417 = .ok (.iaload, 1) := by decide +kernel
theorem dL_law_418 : decode cL_law 418 = .ok (.invokevirtual 56, 3) := by decide +kernel
theorem dL_law_421 : decode cL_law 421 = .ok (.aload_n 2, 1) := by decide +kernel
theorem dL_law_422 : decode cL_law 422 = .ok (.aload_n 0, 1) := by decide +kernel
theorem dL_law_423 : decode cL_law 423 = .ok (.iload_n 3, 1) := by decide +kernel
theorem dL_law_424 : decode cL_law 424 = .ok (.iconst 1, 1) := by decide +kernel
theorem dL_law_425 : decode cL_law 425 = .ok (.iadd, 1) := by decide +kernel
theorem dL_law_426 : decode cL_law 426 = .ok (.iaload, 1) := by decide +kernel
theorem dL_law_427 : decode cL_law 427 = .ok (.aload_n 0, 1) := by decide +kernel
theorem dL_law_428 : decode cL_law 428 = .ok (.iload_n 3, 1) := by decide +kernel
theorem dL_law_429 : decode cL_law 429 = .ok (.iconst 2, 1) := by decide +kernel
theorem dL_law_430 : decode cL_law 430 = .ok (.iadd, 1) := by decide +kernel
theorem dL_law_431 : decode cL_law 431 = .ok (.iaload, 1) := by decide +kernel
theorem dL_law_432 : decode cL_law 432 = .ok (.invokevirtual 59, 3) := by decide +kernel
theorem dL_law_435 : decode cL_law 435 = .ok (.if_icmp .eq 355, 3) := by decide +kernel
theorem dL_law_438 : decode cL_law 438 = .ok (.iconst 0, 1) := by decide +kernel
theorem dL_law_439 : decode cL_law 439 = .ok (.ireturn, 1) := by decide +kernel
theorem dL_law_440 : decode cL_law 440 = .ok (.aload_n 1, 1) := by decide +kernel
theorem dL_law_441 : decode cL_law 441 = .ok (.aload_n 0, 1) := by decide +kernel
theorem dL_law_442 : decode cL_law 442 = .ok (.iload_n 3, 1) := by decide +kernel
theorem dL_law_443 : decode cL_law 443 = .ok (.iconst 1, 1) := by decide +kernel
theorem dL_law_444 : decode cL_law 444 = .ok (.iadd, 1) := by decide +kernel
theorem dL_law_445 : decode cL_law 445 = .ok (.iaload, 1) := by decide +kernel
theorem dL_law_446 : decode cL_law 446 = .ok (.aload_n 0, 1) := by decide +kernel
theorem dL_law_447 : decode cL_law 447 = .ok (.iload_n 3, 1) := by decide +kernel
theorem dL_law_448 : decode cL_law 448 = .ok (.iconst 2, 1) := by decide +kernel
theorem dL_law_449 : decode cL_law 449 = .ok (.iadd, 1) := by decide +kernel
theorem dL_law_450 : decode cL_law 450 = .ok (.iaload, 1) := by decide +kernel
theorem dL_law_451 : decode cL_law 451 = .ok (.aload_n 0, 1) := by decide +kernel
theorem dL_law_452 : decode cL_law 452 = .ok (.iload_n 3, 1) := by decide +kernel
theorem dL_law_453 : decode cL_law 453 = .ok (.iconst 3, 1) := by decide +kernel
theorem dL_law_454 : decode cL_law 454 = .ok (.iadd, 1) := by decide +kernel
theorem dL_law_455 : decode cL_law 455 = .ok (.iaload, 1) := by decide +kernel
theorem dL_law_456 : decode cL_law 456 = .ok (.invokevirtual 60, 3) := by decide +kernel
theorem dL_law_459 : decode cL_law 459 = .ok (.aload_n 2, 1) := by decide +kernel
theorem dL_law_460 : decode cL_law 460 = .ok (.aload_n 0, 1) := by decide +kernel
theorem dL_law_461 : decode cL_law 461 = .ok (.iload_n 3, 1) := by decide +kernel
theorem dL_law_462 : decode cL_law 462 = .ok (.iconst 1, 1) := by decide +kernel
theorem dL_law_463 : decode cL_law 463 = .ok (.iadd, 1) := by decide +kernel
theorem dL_law_464 : decode cL_law 464 = .ok (.iaload, 1) := by decide +kernel
theorem dL_law_465 : decode cL_law 465 = .ok (.aload_n 0, 1) := by decide +kernel
theorem dL_law_466 : decode cL_law 466 = .ok (.iload_n 3, 1) := by decide +kernel
theorem dL_law_467 : decode cL_law 467 = .ok (.iconst 2, 1) := by decide +kernel
theorem dL_law_468 : decode cL_law 468 = .ok (.iadd, 1) := by decide +kernel
theorem dL_law_469 : decode cL_law 469 = .ok (.iaload, 1) := by decide +kernel
theorem dL_law_470 : decode cL_law 470 = .ok (.aload_n 0, 1) := by decide +kernel
theorem dL_law_471 : decode cL_law 471 = .ok (.iload_n 3, 1) := by decide +kernel
theorem dL_law_472 : decode cL_law 472 = .ok (.iconst 3, 1) := by decide +kernel
theorem dL_law_473 : decode cL_law 473 = .ok (.iadd, 1) := by decide +kernel
theorem dL_law_474 : decode cL_law 474 = .ok (.iaload, 1) := by decide +kernel
theorem dL_law_475 : decode cL_law 475 = .ok (.invokevirtual 64, 3) := by decide +kernel
theorem dL_law_478 : decode cL_law 478 = .ok (.if_icmp .eq 312, 3) := by decide +kernel
theorem dL_law_481 : decode cL_law 481 = .ok (.iconst 0, 1) := by decide +kernel
theorem dL_law_482 : decode cL_law 482 = .ok (.ireturn, 1) := by decide +kernel
theorem dL_law_483 : decode cL_law 483 = .ok (.aload_n 1, 1) := by decide +kernel
theorem dL_law_484 : decode cL_law 484 = .ok (.aload_n 0, 1) := by decide +kernel
theorem dL_law_485 : decode cL_law 485 = .ok (.iload_n 3, 1) := by decide +kernel
theorem dL_law_486 : decode cL_law 486 = .ok (.iconst 1, 1) := by decide +kernel
theorem dL_law_487 : decode cL_law 487 = .ok (.iadd, 1) := by decide +kernel
theorem dL_law_488 : decode cL_law 488 = .ok (.iaload, 1) := by decide +kernel
theorem dL_law_489 : decode cL_law 489 = .ok (.aload_n 0, 1) := by decide +kernel
theorem dL_law_490 : decode cL_law 490 = .ok (.iload_n 3, 1) := by decide +kernel
theorem dL_law_491 : decode cL_law 491 = .ok (.iconst 2, 1) := by decide +kernel
theorem dL_law_492 : decode cL_law 492 = .ok (.iadd, 1) := by decide +kernel
theorem dL_law_493 : decode cL_law 493 = .ok (.iaload, 1) := by decide +kernel
theorem dL_law_494 : decode cL_law 494 = .ok (.invokevirtual 65, 3) := by decide +kernel
theorem dL_law_497 : decode cL_law 497 = .ok (.aload_n 2, 1) := by decide +kernel
theorem dL_law_498 : decode cL_law 498 = .ok (.aload_n 0, 1) := by decide +kernel
theorem dL_law_499 : decode cL_law 499 = .ok (.iload_n 3, 1) := by decide +kernel
theorem dL_law_500 : decode cL_law 500 = .ok (.iconst 1, 1) := by decide +kernel
theorem dL_law_501 : decode cL_law 501 = .ok (.iadd, 1) := by decide +kernel
theorem dL_law_502 : decode cL_law 502 = .ok (.iaload, 1) := by decide +kernel
theorem dL_law_503 : decode cL_law 503 = .ok (.aload_n 0, 1) := by decide +kernel
theorem dL_law_504 : decode cL_law 504 = .ok (.iload_n 3, 1) := by decide +kernel
theorem dL_law_505 : decode cL_law 505 = .ok (.iconst 2, 1) := by decide +kernel
theorem dL_law_506 : decode cL_law 506 = .ok (.iadd, 1) := by decide +kernel
theorem dL_law_507 : decode cL_law 507 = .ok (.iaload, 1) := by decide +kernel
theorem dL_law_508 : decode cL_law 508 = .ok (.invokevirtual 68, 3) := by decide +kernel
theorem dL_law_511 : decode cL_law 511 = .ok (.if_icmp .eq 279, 3) := by decide +kernel
theorem dL_law_514 : decode cL_law 514 = .ok (.iconst 0, 1) := by decide +kernel
theorem dL_law_515 : decode cL_law 515 = .ok (.ireturn, 1) := by decide +kernel
theorem dL_law_516 : decode cL_law 516 = .ok (.aload_n 1, 1) := by decide +kernel
theorem dL_law_517 : decode cL_law 517 = .ok (.aload_n 0, 1) := by decide +kernel
theorem dL_law_518 : decode cL_law 518 = .ok (.iload_n 3, 1) := by decide +kernel
theorem dL_law_519 : decode cL_law 519 = .ok (.iconst 1, 1) := by decide +kernel
theorem dL_law_520 : decode cL_law 520 = .ok (.iadd, 1) := by decide +kernel
theorem dL_law_521 : decode cL_law 521 = .ok (.iaload, 1) := by decide +kernel
theorem dL_law_522 : decode cL_law 522 = .ok (.aload_n 0, 1) := by decide +kernel
theorem dL_law_523 : decode cL_law 523 = .ok (.iload_n 3, 1) := by decide +kernel
theorem dL_law_524 : decode cL_law 524 = .ok (.iconst 2, 1) := by decide +kernel
theorem dL_law_525 : decode cL_law 525 = .ok (.iadd, 1) := by decide +kernel
theorem dL_law_526 : decode cL_law 526 = .ok (.iaload, 1) := by decide +kernel
theorem dL_law_527 : decode cL_law 527 = .ok (.invokevirtual 69, 3) := by decide +kernel
theorem dL_law_530 : decode cL_law 530 = .ok (.aload_n 2, 1) := by decide +kernel
theorem dL_law_531 : decode cL_law 531 = .ok (.aload_n 0, 1) := by decide +kernel
theorem dL_law_532 : decode cL_law 532 = .ok (.iload_n 3, 1) := by decide +kernel
theorem dL_law_533 : decode cL_law 533 = .ok (.iconst 1, 1) := by decide +kernel
theorem dL_law_534 : decode cL_law 534 = .ok (.iadd, 1) := by decide +kernel
theorem dL_law_535 : decode cL_law 535 = .ok (.iaload, 1) := by decide +kernel
theorem dL_law_536 : decode cL_law 536 = .ok (.aload_n 0, 1) := by decide +kernel
theorem dL_law_537 : decode cL_law 537 = .ok (.iload_n 3, 1) := by decide +kernel
theorem dL_law_538 : decode cL_law 538 = .ok (.iconst 2, 1) := by decide +kernel
theorem dL_law_539 : decode cL_law 539 = .ok (.iadd, 1) := by decide +kernel
theorem dL_law_540 : decode cL_law 540 = .ok (.iaload, 1) := by decide +kernel
theorem dL_law_541 : decode cL_law 541 = .ok (.invokevirtual 72, 3) := by decide +kernel
theorem dL_law_544 : decode cL_law 544 = .ok (.if_icmp .eq 246, 3) := by decide +kernel
theorem dL_law_547 : decode cL_law 547 = .ok (.iconst 0, 1) := by decide +kernel
theorem dL_law_548 : decode cL_law 548 = .ok (.ireturn, 1) := by decide +kernel
theorem dL_law_549 : decode cL_law 549 = .ok (.aload_n 1, 1) := by decide +kernel
theorem dL_law_550 : decode cL_law 550 = .ok (.aload_n 0, 1) := by decide +kernel
theorem dL_law_551 : decode cL_law 551 = .ok (.iload_n 3, 1) := by decide +kernel
theorem dL_law_552 : decode cL_law 552 = .ok (.iconst 1, 1) := by decide +kernel
theorem dL_law_553 : decode cL_law 553 = .ok (.iadd, 1) := by decide +kernel
theorem dL_law_554 : decode cL_law 554 = .ok (.iaload, 1) := by decide +kernel
theorem dL_law_555 : decode cL_law 555 = .ok (.invokevirtual 73, 3) := by decide +kernel
theorem dL_law_558 : decode cL_law 558 = .ok (.aload_n 2, 1) := by decide +kernel
theorem dL_law_559 : decode cL_law 559 = .ok (.aload_n 0, 1) := by decide +kernel
theorem dL_law_560 : decode cL_law 560 = .ok (.iload_n 3, 1) := by decide +kernel
theorem dL_law_561 : decode cL_law 561 = .ok (.iconst 1, 1) := by decide +kernel
theorem dL_law_562 : decode cL_law 562 = .ok (.iadd, 1) := by decide +kernel
theorem dL_law_563 : decode cL_law 563 = .ok (.iaload, 1) := by decide +kernel
theorem dL_law_564 : decode cL_law 564 = .ok (.invokevirtual 76, 3) := by decide +kernel
theorem dL_law_567 : decode cL_law 567 = .ok (.if_icmp .eq 223, 3) := by decide +kernel
theorem dL_law_570 : decode cL_law 570 = .ok (.iconst 0, 1) := by decide +kernel
theorem dL_law_571 : decode cL_law 571 = .ok (.ireturn, 1) := by decide +kernel
theorem dL_law_572 : decode cL_law 572 = .ok (.aload_n 1, 1) := by decide +kernel
theorem dL_law_573 : decode cL_law 573 = .ok (.aload_n 0, 1) := by decide +kernel
theorem dL_law_574 : decode cL_law 574 = .ok (.iload_n 3, 1) := by decide +kernel
theorem dL_law_575 : decode cL_law 575 = .ok (.iconst 1, 1) := by decide +kernel
theorem dL_law_576 : decode cL_law 576 = .ok (.iadd, 1) := by decide +kernel
theorem dL_law_577 : decode cL_law 577 = .ok (.iaload, 1) := by decide +kernel
theorem dL_law_578 : decode cL_law 578 = .ok (.aload_n 0, 1) := by decide +kernel
theorem dL_law_579 : decode cL_law 579 = .ok (.iload_n 3, 1) := by decide +kernel
theorem dL_law_580 : decode cL_law 580 = .ok (.iconst 2, 1) := by decide +kernel
theorem dL_law_581 : decode cL_law 581 = .ok (.iadd, 1) := by decide +kernel
theorem dL_law_582 : decode cL_law 582 = .ok (.iaload, 1) := by decide +kernel
theorem dL_law_583 : decode cL_law 583 = .ok (.invokevirtual 77, 3) := by decide +kernel
theorem dL_law_586 : decode cL_law 586 = .ok (.aload_n 2, 1) := by decide +kernel
theorem dL_law_587 : decode cL_law 587 = .ok (.aload_n 0, 1) := by decide +kernel
theorem dL_law_588 : decode cL_law 588 = .ok (.iload_n 3, 1) := by decide +kernel
theorem dL_law_589 : decode cL_law 589 = .ok (.iconst 1, 1) := by decide +kernel
theorem dL_law_590 : decode cL_law 590 = .ok (.iadd, 1) := by decide +kernel
theorem dL_law_591 : decode cL_law 591 = .ok (.iaload, 1) := by decide +kernel
theorem dL_law_592 : decode cL_law 592 = .ok (.aload_n 0, 1) := by decide +kernel
theorem dL_law_593 : decode cL_law 593 = .ok (.iload_n 3, 1) := by decide +kernel
theorem dL_law_594 : decode cL_law 594 = .ok (.iconst 2, 1) := by decide +kernel
theorem dL_law_595 : decode cL_law 595 = .ok (.iadd, 1) := by decide +kernel
theorem dL_law_596 : decode cL_law 596 = .ok (.iaload, 1) := by decide +kernel
theorem dL_law_597 : decode cL_law 597 = .ok (.invokevirtual 80, 3) := by decide +kernel
theorem dL_law_600 : decode cL_law 600 = .ok (.if_icmp .eq 190, 3) := by decide +kernel
theorem dL_law_603 : decode cL_law 603 = .ok (.iconst 0, 1) := by decide +kernel
theorem dL_law_604 : decode cL_law 604 = .ok (.ireturn, 1) := by decide +kernel
theorem dL_law_605 : decode cL_law 605 = .ok (.aload_n 1, 1) := by decide +kernel
theorem dL_law_606 : decode cL_law 606 = .ok (.aload_n 0, 1) := by decide +kernel
theorem dL_law_607 : decode cL_law 607 = .ok (.iload_n 3, 1) := by decide +kernel
theorem dL_law_608 : decode cL_law 608 = .ok (.iconst 1, 1) := by decide +kernel
theorem dL_law_609 : decode cL_law 609 = .ok (.iadd, 1) := by decide +kernel
theorem dL_law_610 : decode cL_law 610 = .ok (.iaload, 1) := by decide +kernel
theorem dL_law_611 : decode cL_law 611 = .ok (.invokevirtual 81, 3) := by decide +kernel
theorem dL_law_614 : decode cL_law 614 = .ok (.aload_n 2, 1) := by decide +kernel
theorem dL_law_615 : decode cL_law 615 = .ok (.aload_n 0, 1) := by decide +kernel
theorem dL_law_616 : decode cL_law 616 = .ok (.iload_n 3, 1) := by decide +kernel
theorem dL_law_617 : decode cL_law 617 = .ok (.iconst 1, 1) := by decide +kernel
theorem dL_law_618 : decode cL_law 618 = .ok (.iadd, 1) := by decide +kernel
theorem dL_law_619 : decode cL_law 619 = .ok (.iaload, 1) := by decide +kernel
theorem dL_law_620 : decode cL_law 620 = .ok (.invokevirtual 84, 3) := by decide +kernel
theorem dL_law_623 : decode cL_law 623 = .ok (.if_icmp .eq 167, 3) := by decide +kernel
theorem dL_law_626 : decode cL_law 626 = .ok (.iconst 0, 1) := by decide +kernel
theorem dL_law_627 : decode cL_law 627 = .ok (.ireturn, 1) := by decide +kernel
theorem dL_law_628 : decode cL_law 628 = .ok (.aload_n 1, 1) := by decide +kernel
theorem dL_law_629 : decode cL_law 629 = .ok (.aload_n 0, 1) := by decide +kernel
theorem dL_law_630 : decode cL_law 630 = .ok (.iload_n 3, 1) := by decide +kernel
theorem dL_law_631 : decode cL_law 631 = .ok (.iconst 1, 1) := by decide +kernel
theorem dL_law_632 : decode cL_law 632 = .ok (.iadd, 1) := by decide +kernel
theorem dL_law_633 : decode cL_law 633 = .ok (.iaload, 1) := by decide +kernel
theorem dL_law_634 : decode cL_law 634 = .ok (.aload_n 0, 1) := by decide +kernel
theorem dL_law_635 : decode cL_law 635 = .ok (.iload_n 3, 1) := by decide +kernel
theorem dL_law_636 : decode cL_law 636 = .ok (.iconst 2, 1) := by decide +kernel
theorem dL_law_637 : decode cL_law 637 = .ok (.iadd, 1) := by decide +kernel
theorem dL_law_638 : decode cL_law 638 = .ok (.iaload, 1) := by decide +kernel
theorem dL_law_639 : decode cL_law 639 = .ok (.aload_n 0, 1) := by decide +kernel
theorem dL_law_640 : decode cL_law 640 = .ok (.iload_n 3, 1) := by decide +kernel
theorem dL_law_641 : decode cL_law 641 = .ok (.iconst 3, 1) := by decide +kernel
theorem dL_law_642 : decode cL_law 642 = .ok (.iadd, 1) := by decide +kernel
theorem dL_law_643 : decode cL_law 643 = .ok (.iaload, 1) := by decide +kernel
theorem dL_law_644 : decode cL_law 644 = .ok (.invokevirtual 85, 3) := by decide +kernel
theorem dL_law_647 : decode cL_law 647 = .ok (.aload_n 2, 1) := by decide +kernel
theorem dL_law_648 : decode cL_law 648 = .ok (.aload_n 0, 1) := by decide +kernel
theorem dL_law_649 : decode cL_law 649 = .ok (.iload_n 3, 1) := by decide +kernel
theorem dL_law_650 : decode cL_law 650 = .ok (.iconst 1, 1) := by decide +kernel
theorem dL_law_651 : decode cL_law 651 = .ok (.iadd, 1) := by decide +kernel
theorem dL_law_652 : decode cL_law 652 = .ok (.iaload, 1) := by decide +kernel
theorem dL_law_653 : decode cL_law 653 = .ok (.aload_n 0, 1) := by decide +kernel
theorem dL_law_654 : decode cL_law 654 = .ok (.iload_n 3, 1) := by decide +kernel
theorem dL_law_655 : decode cL_law 655 = .ok (.iconst 2, 1) := by decide +kernel
theorem dL_law_656 : decode cL_law 656 = .ok (.iadd, 1) := by decide +kernel
theorem dL_law_657 : decode cL_law 657 = .ok (.iaload, 1) := by decide +kernel
theorem dL_law_658 : decode cL_law 658 = .ok (.aload_n 0, 1) := by decide +kernel
theorem dL_law_659 : decode cL_law 659 = .ok (.iload_n 3, 1) := by decide +kernel
theorem dL_law_660 : decode cL_law 660 = .ok (.iconst 3, 1) := by decide +kernel
theorem dL_law_661 : decode cL_law 661 = .ok (.iadd, 1) := by decide +kernel
theorem dL_law_662 : decode cL_law 662 = .ok (.iaload, 1) := by decide +kernel
theorem dL_law_663 : decode cL_law 663 = .ok (.invokevirtual 88, 3) := by decide +kernel
theorem dL_law_666 : decode cL_law 666 = .ok (.if_icmp .eq 124, 3) := by decide +kernel
theorem dL_law_669 : decode cL_law 669 = .ok (.iconst 0, 1) := by decide +kernel
theorem dL_law_670 : decode cL_law 670 = .ok (.ireturn, 1) := by decide +kernel
theorem dL_law_671 : decode cL_law 671 = .ok (.aload_n 1, 1) := by decide +kernel
theorem dL_law_672 : decode cL_law 672 = .ok (.aload_n 0, 1) := by decide +kernel
theorem dL_law_673 : decode cL_law 673 = .ok (.iload_n 3, 1) := by decide +kernel
theorem dL_law_674 : decode cL_law 674 = .ok (.iconst 1, 1) := by decide +kernel
theorem dL_law_675 : decode cL_law 675 = .ok (.iadd, 1) := by decide +kernel
theorem dL_law_676 : decode cL_law 676 = .ok (.iaload, 1) := by decide +kernel
theorem dL_law_677 : decode cL_law 677 = .ok (.aload_n 0, 1) := by decide +kernel
theorem dL_law_678 : decode cL_law 678 = .ok (.iload_n 3, 1) := by decide +kernel
theorem dL_law_679 : decode cL_law 679 = .ok (.iconst 2, 1) := by decide +kernel
theorem dL_law_680 : decode cL_law 680 = .ok (.iadd, 1) := by decide +kernel
theorem dL_law_681 : decode cL_law 681 = .ok (.iaload, 1) := by decide +kernel
theorem dL_law_682 : decode cL_law 682 = .ok (.invokevirtual 89, 3) := by decide +kernel
theorem dL_law_685 : decode cL_law 685 = .ok (.aload_n 2, 1) := by decide +kernel
theorem dL_law_686 : decode cL_law 686 = .ok (.aload_n 0, 1) := by decide +kernel
theorem dL_law_687 : decode cL_law 687 = .ok (.iload_n 3, 1) := by decide +kernel
theorem dL_law_688 : decode cL_law 688 = .ok (.iconst 1, 1) := by decide +kernel
theorem dL_law_689 : decode cL_law 689 = .ok (.iadd, 1) := by decide +kernel
theorem dL_law_690 : decode cL_law 690 = .ok (.iaload, 1) := by decide +kernel
theorem dL_law_691 : decode cL_law 691 = .ok (.aload_n 0, 1) := by decide +kernel
theorem dL_law_692 : decode cL_law 692 = .ok (.iload_n 3, 1) := by decide +kernel
theorem dL_law_693 : decode cL_law 693 = .ok (.iconst 2, 1) := by decide +kernel
theorem dL_law_694 : decode cL_law 694 = .ok (.iadd, 1) := by decide +kernel
theorem dL_law_695 : decode cL_law 695 = .ok (.iaload, 1) := by decide +kernel
theorem dL_law_696 : decode cL_law 696 = .ok (.invokevirtual 92, 3) := by decide +kernel
theorem dL_law_699 : decode cL_law 699 = .ok (.if_icmp .eq 91, 3) := by decide +kernel
theorem dL_law_702 : decode cL_law 702 = .ok (.iconst 0, 1) := by decide +kernel
theorem dL_law_703 : decode cL_law 703 = .ok (.ireturn, 1) := by decide +kernel
theorem dL_law_704 : decode cL_law 704 = .ok (.aload_n 1, 1) := by decide +kernel
theorem dL_law_705 : decode cL_law 705 = .ok (.aload_n 0, 1) := by decide +kernel
theorem dL_law_706 : decode cL_law 706 = .ok (.iload_n 3, 1) := by decide +kernel
theorem dL_law_707 : decode cL_law 707 = .ok (.iconst 1, 1) := by decide +kernel
theorem dL_law_708 : decode cL_law 708 = .ok (.iadd, 1) := by decide +kernel
theorem dL_law_709 : decode cL_law 709 = .ok (.iaload, 1) := by decide +kernel
theorem dL_law_710 : decode cL_law 710 = .ok (.aload_n 0, 1) := by decide +kernel
theorem dL_law_711 : decode cL_law 711 = .ok (.iload_n 3, 1) := by decide +kernel
theorem dL_law_712 : decode cL_law 712 = .ok (.iconst 2, 1) := by decide +kernel
theorem dL_law_713 : decode cL_law 713 = .ok (.iadd, 1) := by decide +kernel
theorem dL_law_714 : decode cL_law 714 = .ok (.iaload, 1) := by decide +kernel
theorem dL_law_715 : decode cL_law 715 = .ok (.aload_n 0, 1) := by decide +kernel
theorem dL_law_716 : decode cL_law 716 = .ok (.iload_n 3, 1) := by decide +kernel
theorem dL_law_717 : decode cL_law 717 = .ok (.iconst 3, 1) := by decide +kernel
theorem dL_law_718 : decode cL_law 718 = .ok (.iadd, 1) := by decide +kernel
theorem dL_law_719 : decode cL_law 719 = .ok (.iaload, 1) := by decide +kernel
theorem dL_law_720 : decode cL_law 720 = .ok (.invokevirtual 93, 3) := by decide +kernel
theorem dL_law_723 : decode cL_law 723 = .ok (.aload_n 2, 1) := by decide +kernel
theorem dL_law_724 : decode cL_law 724 = .ok (.aload_n 0, 1) := by decide +kernel
theorem dL_law_725 : decode cL_law 725 = .ok (.iload_n 3, 1) := by decide +kernel
theorem dL_law_726 : decode cL_law 726 = .ok (.iconst 1, 1) := by decide +kernel
theorem dL_law_727 : decode cL_law 727 = .ok (.iadd, 1) := by decide +kernel
theorem dL_law_728 : decode cL_law 728 = .ok (.iaload, 1) := by decide +kernel
theorem dL_law_729 : decode cL_law 729 = .ok (.aload_n 0, 1) := by decide +kernel
theorem dL_law_730 : decode cL_law 730 = .ok (.iload_n 3, 1) := by decide +kernel
theorem dL_law_731 : decode cL_law 731 = .ok (.iconst 2, 1) := by decide +kernel
theorem dL_law_732 : decode cL_law 732 = .ok (.iadd, 1) := by decide +kernel
theorem dL_law_733 : decode cL_law 733 = .ok (.iaload, 1) := by decide +kernel
theorem dL_law_734 : decode cL_law 734 = .ok (.aload_n 0, 1) := by decide +kernel
theorem dL_law_735 : decode cL_law 735 = .ok (.iload_n 3, 1) := by decide +kernel
theorem dL_law_736 : decode cL_law 736 = .ok (.iconst 3, 1) := by decide +kernel
theorem dL_law_737 : decode cL_law 737 = .ok (.iadd, 1) := by decide +kernel
theorem dL_law_738 : decode cL_law 738 = .ok (.iaload, 1) := by decide +kernel
theorem dL_law_739 : decode cL_law 739 = .ok (.invokevirtual 96, 3) := by decide +kernel
theorem dL_law_742 : decode cL_law 742 = .ok (.if_icmp .eq 48, 3) := by decide +kernel
theorem dL_law_745 : decode cL_law 745 = .ok (.iconst 0, 1) := by decide +kernel
theorem dL_law_746 : decode cL_law 746 = .ok (.ireturn, 1) := by decide +kernel
theorem dL_law_747 : decode cL_law 747 = .ok (.aload_n 1, 1) := by decide +kernel
theorem dL_law_748 : decode cL_law 748 = .ok (.aload_n 0, 1) := by decide +kernel
theorem dL_law_749 : decode cL_law 749 = .ok (.iload_n 3, 1) := by decide +kernel
theorem dL_law_750 : decode cL_law 750 = .ok (.iconst 1, 1) := by decide +kernel
theorem dL_law_751 : decode cL_law 751 = .ok (.iadd, 1) := by decide +kernel
theorem dL_law_752 : decode cL_law 752 = .ok (.iaload, 1) := by decide +kernel
theorem dL_law_753 : decode cL_law 753 = .ok (.aload_n 0, 1) := by decide +kernel
theorem dL_law_754 : decode cL_law 754 = .ok (.iload_n 3, 1) := by decide +kernel
theorem dL_law_755 : decode cL_law 755 = .ok (.iconst 2, 1) := by decide +kernel
theorem dL_law_756 : decode cL_law 756 = .ok (.iadd, 1) := by decide +kernel
theorem dL_law_757 : decode cL_law 757 = .ok (.iaload, 1) := by decide +kernel
theorem dL_law_758 : decode cL_law 758 = .ok (.aload_n 0, 1) := by decide +kernel
theorem dL_law_759 : decode cL_law 759 = .ok (.iload_n 3, 1) := by decide +kernel
theorem dL_law_760 : decode cL_law 760 = .ok (.iconst 3, 1) := by decide +kernel
theorem dL_law_761 : decode cL_law 761 = .ok (.iadd, 1) := by decide +kernel
theorem dL_law_762 : decode cL_law 762 = .ok (.iaload, 1) := by decide +kernel
theorem dL_law_763 : decode cL_law 763 = .ok (.invokevirtual 97, 3) := by decide +kernel
theorem dL_law_766 : decode cL_law 766 = .ok (.aload_n 2, 1) := by decide +kernel
theorem dL_law_767 : decode cL_law 767 = .ok (.aload_n 0, 1) := by decide +kernel
theorem dL_law_768 : decode cL_law 768 = .ok (.iload_n 3, 1) := by decide +kernel
theorem dL_law_769 : decode cL_law 769 = .ok (.iconst 1, 1) := by decide +kernel
theorem dL_law_770 : decode cL_law 770 = .ok (.iadd, 1) := by decide +kernel
theorem dL_law_771 : decode cL_law 771 = .ok (.iaload, 1) := by decide +kernel
theorem dL_law_772 : decode cL_law 772 = .ok (.aload_n 0, 1) := by decide +kernel
theorem dL_law_773 : decode cL_law 773 = .ok (.iload_n 3, 1) := by decide +kernel
theorem dL_law_774 : decode cL_law 774 = .ok (.iconst 2, 1) := by decide +kernel
theorem dL_law_775 : decode cL_law 775 = .ok (.iadd, 1) := by decide +kernel
theorem dL_law_776 : decode cL_law 776 = .ok (.iaload, 1) := by decide +kernel
theorem dL_law_777 : decode cL_law 777 = .ok (.aload_n 0, 1) := by decide +kernel
theorem dL_law_778 : decode cL_law 778 = .ok (.iload_n 3, 1) := by decide +kernel
theorem dL_law_779 : decode cL_law 779 = .ok (.iconst 3, 1) := by decide +kernel
theorem dL_law_780 : decode cL_law 780 = .ok (.iadd, 1) := by decide +kernel
theorem dL_law_781 : decode cL_law 781 = .ok (.iaload, 1) := by decide +kernel
theorem dL_law_782 : decode cL_law 782 = .ok (.invokevirtual 100, 3) := by decide +kernel
theorem dL_law_785 : decode cL_law 785 = .ok (.if_icmp .eq 5, 3) := by decide +kernel
theorem dL_law_788 : decode cL_law 788 = .ok (.iconst 0, 1) := by decide +kernel
theorem dL_law_789 : decode cL_law 789 = .ok (.ireturn, 1) := by decide +kernel
theorem dL_law_790 : decode cL_law 790 = .ok (.iinc 3 4, 3) := by decide +kernel
theorem dL_law_793 : decode cL_law 793 = .ok (.goto (-775), 3) := by decide +kernel
theorem dL_law_796 : decode cL_law 796 = .ok (.iconst 1, 1) := by decide +kernel
theorem dL_law_797 : decode cL_law 797 = .ok (.ireturn, 1) := by decide +kernel
end
section
/-! THE ABSTRACT MACHINE: a store of int fields (by slot) and int arrays (by number); a state is pc, locals, stack, store. References are numbers of cells: 0 is the object, 1 .. its arrays. -/
abbrev mS : Type := (Nat → Int32) × (Nat → Nat → Int32)
abbrev mT : Type := Nat × List (Option Value) × List Value × mS
/-- a callee: parameters, static, void, what it asks, what it gives -/
abbrev mC : Type := Nat × Bool × Bool × (mS → List Int32 → Prop) × (mS → List Int32 → Int32 → mS → Prop)
/-- a class's shape: which slot holds which array (none: an int), how many arrays, their lengths, which are arrays of arrays (their first row's number) -/
abbrev mH : Type := (Nat → Option Nat) × Nat × (Nat → Nat) × (Nat → Option Nat)
/-- a method's tables: pool index of a field to slot, of a constant to its value, of a method to callee -/
abbrev mK : Type := (Nat → Option Nat) × (Nat → Option Int32) × List (Nat × mC)
def mAt : List (Option Value) → Nat → Option Value
  | [], _ => none
  | a :: _, 0 => a
  | _ :: l, k + 1 => mAt l k
def mSet : List (Option Value) → Nat → Value → Option (List (Option Value))
  | [], _, _ => none
  | _ :: l, 0, v => some (some v :: l)
  | a :: l, k + 1, v => (mSet l k v).map (fun q => a :: q)
def mArgs : Nat → List Value → List Int32 → Option (List Int32 × List Value)
  | 0, st, acc => some (acc, st)
  | n + 1, .int x :: st, acc => mArgs n st (x :: acc)
  | _ + 1, _, _ => none
def mFind : List (Nat × mC) → Nat → Option mC
  | [], _ => none
  | q :: l, k => if k = q.1 then some q.2 else mFind l k
def mTg (pc : Nat) (off : Int) : Nat := ((pc : Int) + off).toNat
def up2 (g : Nat → Nat → Int32) (a i : Nat) (x : Int32) : Nat → Nat → Int32 := fun b => if b = a then upd (g b) i x else g b
def mIsA (h : mH) (a : Nat) : Prop := (1 ≤ a ∧ a ≤ h.2.1) ∧ h.2.2.2 a = none
def mJ (X : mT → Prop) (pc : Nat) (off : Int) (lv : List (Option Value)) (st : List Value) (σ : mS) : Prop := 0 ≤ (pc : Int) + off ∧ X (mTg pc off, lv, st, σ)
def mLdI (X : mT → Prop) (pc : Nat) (lv : List (Option Value)) (st : List Value) (σ : mS) (j : Nat) : Prop := match mAt lv j with
  | some (.int x) => X (pc, lv, .int x :: st, σ)
  | _ => False
def mLdA (X : mT → Prop) (pc : Nat) (lv : List (Option Value)) (st : List Value) (σ : mS) (j : Nat) : Prop := match mAt lv j with
  | some (.ref x) => X (pc, lv, .ref x :: st, σ)
  | _ => False
def mStI (X : mT → Prop) (pc : Nat) (lv : List (Option Value)) (st : List Value) (σ : mS) (j : Nat) : Prop := match st with
  | .int x :: st' => (match mSet lv j (.int x) with
    | some lv' => X (pc, lv', st', σ)
    | none => False)
  | _ => False
def mInc (X : mT → Prop) (pc : Nat) (lv : List (Option Value)) (st : List Value) (σ : mS) (j : Nat) (k : Int32) : Prop := match mAt lv j with
  | some (.int x) => (match mSet lv j (.int (x + k)) with
    | some lv' => X (pc, lv', st, σ)
    | none => False)
  | _ => False
def mBin (X : mT → Prop) (pc : Nat) (lv : List (Option Value)) (st : List Value) (σ : mS) (f : Int32 → Int32 → Int32) : Prop := match st with
  | .int y :: .int x :: st' => X (pc, lv, .int (f x y) :: st', σ)
  | _ => False
def mDiv (X : mT → Prop) (pc : Nat) (lv : List (Option Value)) (st : List Value) (σ : mS) (f : Int32 → Int32 → Int32) : Prop := match st with
  | .int y :: .int x :: st' => ¬ y = 0 ∧ X (pc, lv, .int (f x y) :: st', σ)
  | _ => False
def mBr (X : mT → Prop) (pc : Nat) (off : Int) (lv : List (Option Value)) (st : List Value) (σ : mS) (c : Prop) : Prop := 0 ≤ (pc : Int) + off ∧ (c → X (mTg pc off, lv, st, σ)) ∧ (¬ c → X (pc + 3, lv, st, σ))
def mIf1 (X : mT → Prop) (pc : Nat) (off : Int) (lv : List (Option Value)) (st : List Value) (σ : mS) (c : Int32 → Prop) : Prop := match st with
  | .int x :: st' => mBr X pc off lv st' σ (c x)
  | _ => False
def mIf2 (X : mT → Prop) (pc : Nat) (off : Int) (lv : List (Option Value)) (st : List Value) (σ : mS) (c : Int32 → Int32 → Prop) : Prop := match st with
  | .int y :: .int x :: st' => mBr X pc off lv st' σ (c x y)
  | _ => False
def mIfN1 (X : mT → Prop) (pc : Nat) (off : Int) (lv : List (Option Value)) (st : List Value) (σ : mS) : Prop := match st with
  | .int x :: st' => 0 ≤ (pc : Int) + off ∧ (x = 0 → X (pc + 3, lv, st', σ)) ∧ (¬ x = 0 → X (mTg pc off, lv, st', σ))
  | _ => False
def mIfN2 (X : mT → Prop) (pc : Nat) (off : Int) (lv : List (Option Value)) (st : List Value) (σ : mS) : Prop := match st with
  | .int y :: .int x :: st' => 0 ≤ (pc : Int) + off ∧ (x = y → X (pc + 3, lv, st', σ)) ∧ (¬ x = y → X (mTg pc off, lv, st', σ))
  | _ => False
def mFv (h : mH) (σ : mS) (s : Nat) : Value := match h.1 s with
  | some a => .ref a
  | none => .int (σ.1 s)
def mGet (h : mH) (k : mK) (X : mT → Prop) (pc : Nat) (lv : List (Option Value)) (st : List Value) (σ : mS) (j : Nat) : Prop := match st with
  | .ref 0 :: st' => (match k.1 j with
    | some s => X (pc, lv, mFv h σ s :: st', σ)
    | none => False)
  | _ => False
def mPut (h : mH) (k : mK) (X : mT → Prop) (pc : Nat) (lv : List (Option Value)) (st : List Value) (σ : mS) (j : Nat) : Prop := match st with
  | .int x :: .ref 0 :: st' => (match k.1 j with
    | some s => h.1 s = none ∧ X (pc, lv, st', (upd σ.1 s x, σ.2))
    | none => False)
  | _ => False
def mLdE (h : mH) (X : mT → Prop) (pc : Nat) (lv : List (Option Value)) (st : List Value) (σ : mS) : Prop := match st with
  | .int i :: .ref a :: st' => mIsA h a ∧ vp_in i (h.2.2.1 a) ∧ X (pc, lv, .int (σ.2 a i.toNatClampNeg) :: st', σ)
  | _ => False
def mStE (h : mH) (X : mT → Prop) (pc : Nat) (lv : List (Option Value)) (st : List Value) (σ : mS) : Prop := match st with
  | .int x :: .int i :: .ref a :: st' => mIsA h a ∧ vp_in i (h.2.2.1 a) ∧ X (pc, lv, st', (σ.1, up2 σ.2 a i.toNatClampNeg x))
  | _ => False
def mLdR (h : mH) (X : mT → Prop) (pc : Nat) (lv : List (Option Value)) (st : List Value) (σ : mS) : Prop := match st with
  | .int i :: .ref a :: st' => (match h.2.2.2 a with
    | some b => (1 ≤ a ∧ a ≤ h.2.1) ∧ vp_in i (h.2.2.1 a) ∧ X (pc, lv, .ref (b + i.toNatClampNeg) :: st', σ)
    | none => False)
  | _ => False
def mKon (k : mK) (X : mT → Prop) (pc : Nat) (lv : List (Option Value)) (st : List Value) (σ : mS) (j : Nat) : Prop := match k.2.1 j with
  | some v => X (pc, lv, .int v :: st, σ)
  | none => False
def mDup (X : mT → Prop) (pc : Nat) (lv : List (Option Value)) (st : List Value) (σ : mS) : Prop := match st with
  | v :: st' => X (pc, lv, v :: v :: st', σ)
  | _ => False
def mDup2 (X : mT → Prop) (pc : Nat) (lv : List (Option Value)) (st : List Value) (σ : mS) : Prop := match st with
  | v :: w :: st' => X (pc, lv, v :: w :: v :: w :: st', σ)
  | _ => False
def mTab (X : mT → Prop) (pc : Nat) (lv : List (Option Value)) (st : List Value) (σ : mS) (x : Int32) : Int → List Int → Prop
  | _, [] => True
  | lo, o :: os => (x.toInt = lo → mJ X pc o lv st σ) ∧ mTab X pc lv st σ x (lo + 1) os
def mTsw (X : mT → Prop) (pc : Nat) (lv : List (Option Value)) (st : List Value) (σ : mS) (d lo hi : Int) (os : List Int) : Prop := match st with
  | .int x :: st' => (hi - lo + 1).toNat = os.length ∧ (x.toInt < lo ∨ hi < x.toInt → mJ X pc d lv st' σ) ∧ mTab X pc lv st' σ x lo os
  | _ => False
def mLk (X : mT → Prop) (pc : Nat) (lv : List (Option Value)) (st : List Value) (σ : mS) (x : Int32) (d : Int) : List (Int × Int) → Prop
  | [] => mJ X pc d lv st σ
  | q :: r => (x.toInt = q.1 → mJ X pc q.2 lv st σ) ∧ (¬ x.toInt = q.1 → mLk X pc lv st σ x d r)
def mLsw (X : mT → Prop) (pc : Nat) (lv : List (Option Value)) (st : List Value) (σ : mS) (d : Int) (ps : List (Int × Int)) : Prop := match st with
  | .int x :: st' => (ps.zip (ps.drop 1)).all (fun (a, next) => a.1 < next.1) = true ∧ mLk X pc lv st' σ x d ps
  | _ => False
def mAft (X : mT → Prop) (pc : Nat) (lv : List (Option Value)) (st : List Value) (vd : Bool) (r : Int32) (σ : mS) : Prop := X (pc, lv, (bif vd then st else .int r :: st), σ)
def mCaV (k : mK) (X : mT → Prop) (pc : Nat) (lv : List (Option Value)) (st : List Value) (σ : mS) (j : Nat) : Prop := match mFind k.2.2 j with
  | some (np, false, vd, pre, post) => (match mArgs np st [] with
    | some (xs, .ref 0 :: st') => st'.length ≤ 8 ∧ pre σ xs ∧ ∀ r σ', post σ xs r σ' → mAft X pc lv st' vd r σ'
    | _ => False)
  | _ => False
def mCaS (k : mK) (X : mT → Prop) (pc : Nat) (lv : List (Option Value)) (st : List Value) (σ : mS) (j : Nat) : Prop := match mFind k.2.2 j with
  | some (np, true, vd, pre, post) => (match mArgs np st [] with
    | some (xs, st') => st'.length ≤ 8 ∧ pre σ xs ∧ ∀ r σ', post σ xs r σ' → mAft X pc lv st' vd r σ'
    | _ => False)
  | _ => False
def mRetI (bl : Nat) (Q : Int32 → mS → Prop) (st : List Value) (σ : mS) : Prop := match st with
  | [.int v] => (bl = 0 ∨ bl = 1 ∧ (v = 0 ∨ v = 1)) ∧ Q v σ
  | _ => False
def mRetV (bl : Nat) (Q : Int32 → mS → Prop) (st : List Value) (σ : mS) : Prop := match st with
  | [] => bl = 2 ∧ Q 0 σ
  | _ => False
def mIns (h : mH) (k : mK) (bl : Nat) (Q : Int32 → mS → Prop) (X : mT → Prop) (pc : Nat) (lv : List (Option Value)) (st : List Value) (σ : mS) (i : Instr) (n : Nat) : Prop := match i, n with
  | .iconst v, 1 => X (pc + 1, lv, .int (Int32.ofInt v) :: st, σ)
  | .bipush v, 2 => X (pc + 2, lv, .int (Int8.ofInt v).toInt32 :: st, σ)
  | .sipush v, 3 => X (pc + 3, lv, .int (Int16.ofInt v).toInt32 :: st, σ)
  | .ldc j, 2 => mKon k X (pc + 2) lv st σ j
  | .ldc_w j, 3 => mKon k X (pc + 3) lv st σ j
  | .iload_n j, 1 => mLdI X (pc + 1) lv st σ j.val
  | .iload j, 2 => mLdI X (pc + 2) lv st σ j
  | .aload_n j, 1 => mLdA X (pc + 1) lv st σ j.val
  | .istore_n j, 1 => mStI X (pc + 1) lv st σ j.val
  | .istore j, 2 => mStI X (pc + 2) lv st σ j
  | .iinc j v, 3 => mInc X (pc + 3) lv st σ j (Int32.ofInt v)
  | .iadd, 1 => mBin X (pc + 1) lv st σ (fun x y => x + y)
  | .isub, 1 => mBin X (pc + 1) lv st σ (fun x y => x - y)
  | .imul, 1 => mBin X (pc + 1) lv st σ (fun x y => x * y)
  | .iand, 1 => mBin X (pc + 1) lv st σ (fun x y => x &&& y)
  | .ior, 1 => mBin X (pc + 1) lv st σ (fun x y => x ||| y)
  | .ixor, 1 => mBin X (pc + 1) lv st σ (fun x y => x ^^^ y)
  | .ishl, 1 => mBin X (pc + 1) lv st σ (fun x y => x <<< (y &&& 31))
  | .ishr, 1 => mBin X (pc + 1) lv st σ (fun x y => x >>> (y &&& 31))
  | .iushr, 1 => mBin X (pc + 1) lv st σ (fun x y => (x.toUInt32 >>> (y.toUInt32 &&& Int32.toUInt32 31)).toInt32)
  | .idiv, 1 => mDiv X (pc + 1) lv st σ (fun x y => x / y)
  | .irem, 1 => mDiv X (pc + 1) lv st σ (fun x y => x - x / y * y)
  | .ifCond .eq off, 3 => mIf1 X pc off lv st σ (fun x => x = 0)
  | .ifCond .ne off, 3 => mIfN1 X pc off lv st σ
  | .ifCond .lt off, 3 => mIf1 X pc off lv st σ (fun x => x < 0)
  | .ifCond .ge off, 3 => mIf1 X pc off lv st σ (fun x => 0 ≤ x)
  | .ifCond .gt off, 3 => mIf1 X pc off lv st σ (fun x => 0 < x)
  | .ifCond .le off, 3 => mIf1 X pc off lv st σ (fun x => x ≤ 0)
  | .if_icmp .eq off, 3 => mIf2 X pc off lv st σ (fun x y => x = y)
  | .if_icmp .ne off, 3 => mIfN2 X pc off lv st σ
  | .if_icmp .lt off, 3 => mIf2 X pc off lv st σ (fun x y => x < y)
  | .if_icmp .ge off, 3 => mIf2 X pc off lv st σ (fun x y => y ≤ x)
  | .if_icmp .gt off, 3 => mIf2 X pc off lv st σ (fun x y => y < x)
  | .if_icmp .le off, 3 => mIf2 X pc off lv st σ (fun x y => x ≤ y)
  | .goto off, 3 => mJ X pc off lv st σ
  | .dup, 1 => mDup X (pc + 1) lv st σ
  | .dup2, 1 => mDup2 X (pc + 1) lv st σ
  | .getfield j, 3 => mGet h k X (pc + 3) lv st σ j
  | .putfield j, 3 => mPut h k X (pc + 3) lv st σ j
  | .iaload, 1 => mLdE h X (pc + 1) lv st σ
  | .iastore, 1 => mStE h X (pc + 1) lv st σ
  | .aaload, 1 => mLdR h X (pc + 1) lv st σ
  | .tableswitch d lo hi os, _ => mTsw X pc lv st σ d lo hi os.toList
  | .lookupswitch d ps, _ => mLsw X pc lv st σ d ps.toList
  | .invokevirtual j, 3 => mCaV k X (pc + 3) lv st σ j
  | .invokestatic j, 3 => mCaS k X (pc + 3) lv st σ j
  | .ireturn, 1 => mRetI bl Q st σ
  | .return_, 1 => mRetV bl Q st σ
  | _, _ => False
def mStep (h : mH) (k : mK) (cc : ByteArray) (bl : Nat) (Q : Int32 → mS → Prop) (X : mT → Prop) (S : mT) : Prop := match decode cc S.1 with
  | .ok (i, n) => mIns h k bl Q X S.1 S.2.1 S.2.2.1 S.2.2.2 i n
  | _ => False
def mCut : List Nat → Nat → Bool
  | [], _ => false
  | a :: l, k => (k == a) || mCut l k
/-- n steps, but none from a state whose pc is cut -/
def mRun (h : mH) (k : mK) (cc : ByteArray) (bl : Nat) (Q : Int32 → mS → Prop) (X : mT → Prop) (cuts : List Nat) : Nat → mT → Prop
  | 0, S => X S
  | n + 1, S => bif mCut cuts S.1 then X S else mStep h k cc bl Q (mRun h k cc bl Q X cuts n) S
end
section
/-! THE MACHINE IS SOUND: what mStep asks for, the JVM's machine does (the kit's rows, once for all) -/
def gW : List Cond := lw_tbl.filter goodWord
theorem gW_good : GoodIn gW gW := fun _ h => ⟨h, good_of_word (List.mem_filter.mp h).2⟩
def mRm (d : Nat) : Room := { frames := d, cells := 0, slots := 0, locals := 35 * d }
def cv (ad : Nat → Nat) : Value → Value
  | .int x => .int x
  | .ref k => .ref (ad k)
  | _ => .int 0
theorem cv_cat (ad : Nat → Nat) (v : Value) : (cv ad v).category = 1 := by cases v <;> rfl
def mLH (ad : Nat → Nat) (ls : Array Slot) (nL : Nat) (lv : List (Option Value)) : Prop := lv.length = nL ∧ ls.size = nL ∧ lv_wf ls ∧ ∀ i v, mAt lv i = some v → ls[i]? = some (.val (cv ad v))
theorem mAt_lt : ∀ (lv : List (Option Value)) (i : Nat) (v : Value), mAt lv i = some v → i < lv.length
  | [], _, _, h => by simp [mAt] at h
  | _ :: _, 0, _, _ => by simp
  | a :: l, i + 1, v, h => by
    have := mAt_lt l i v (by simpa [mAt] using h)
    simp only [List.length_cons]; omega
theorem mSet_spec : ∀ (lv : List (Option Value)) (j : Nat) (v : Value) (lv' : List (Option Value)), mSet lv j v = some lv' → j < lv.length ∧ lv'.length = lv.length ∧ ∀ i, mAt lv' i = if i = j then some v else mAt lv i
  | [], _, _, _, h => by simp [mSet] at h
  | a :: l, 0, v, lv', h => by
    simp only [mSet, Option.some.injEq] at h
    subst h
    refine ⟨by simp, by simp, fun i => ?_⟩
    cases i <;> simp [mAt]
  | a :: l, j + 1, v, lv', h => by
    simp only [mSet, Option.map_eq_some_iff] at h
    obtain ⟨q, h1, rfl⟩ := h
    obtain ⟨g1, g2, g3⟩ := mSet_spec l j v q h1
    refine ⟨by simp only [List.length_cons]; omega, by simp [g2], fun i => ?_⟩
    cases i with
    | zero => simp [mAt]
    | succ i => simp [mAt, g3 i]
def mPr (ad : Nat → Nat) (lv : List (Option Value)) : List (Nat × Value) := (List.range lv.length).filterMap (fun i => (mAt lv i).map (fun v => (i, cv ad v)))
theorem mPr_in {ad : Nat → Nat} {lv : List (Option Value)} {i : Nat} {v : Value} (h : mAt lv i = some v) : (i, cv ad v) ∈ mPr ad lv :=
  List.mem_filterMap.mpr ⟨i, List.mem_range.mpr (mAt_lt lv i v h), by rw [h]; rfl⟩
theorem mPr_has {ad : Nat → Nat} {ls : Array Slot} {nL : Nat} {lv : List (Option Value)} (h : mLH ad ls nL lv) : lv_has ls nL (mPr ad lv) := by
  obtain ⟨h1, h2, h3, h4⟩ := h
  refine ⟨h2, h3, fun q hq => ?_⟩
  obtain ⟨i, -, hi⟩ := List.mem_filterMap.mp hq
  obtain ⟨v, hv, rfl⟩ := Option.map_eq_some_iff.mp hi
  exact h4 i v hv
theorem mLH_set {ad : Nat → Nat} {ls : Array Slot} {nL j : Nat} {lv lv' : List (Option Value)} {v : Value} (h0 : mLH ad ls nL lv) (hs : mSet lv j v = some lv') {ls' : Array Slot} (h : lv_has ls' nL ((j, cv ad v) :: (mPr ad lv).filter (fun q => !(q.1 == j) && !(q.1 + 1 == j && q.2.category == 2)))) : mLH ad ls' nL lv' := by
  obtain ⟨g1, g2, g3⟩ := mSet_spec lv j v lv' hs
  obtain ⟨a1, a2, a3⟩ := h
  refine ⟨g2.trans h0.1, a1, a2, fun i w hi => ?_⟩
  rw [g3 i] at hi
  by_cases e : i = j
  · subst e
    rw [if_pos rfl] at hi
    cases hi
    exact a3 _ List.mem_cons_self
  · rw [if_neg e] at hi
    refine a3 (i, cv ad w) (List.mem_cons_of_mem _ (List.mem_filter.mpr ⟨mPr_in hi, ?_⟩))
    simp [e, cv_cat]
def mLe : List (Option Value) → List (Option Value) → Prop
  | [], [] => True
  | a :: l, b :: l' => (a = none ∨ a = b) ∧ mLe l l'
  | _, _ => False
theorem mLe_spec : ∀ (l' l : List (Option Value)), mLe l' l → l'.length = l.length ∧ ∀ i v, mAt l' i = some v → mAt l i = some v
  | [], [], _ => ⟨rfl, fun _ _ h => h⟩
  | a :: l', b :: l, h => by
    obtain ⟨h1, h2⟩ := h
    obtain ⟨g1, g2⟩ := mLe_spec l' l h2
    refine ⟨by simp [g1], fun i v hi => ?_⟩
    cases i with
    | zero =>
      simp only [mAt] at hi ⊢
      rcases h1 with h1 | h1
      · rw [h1] at hi; cases hi
      · rw [← h1]; exact hi
    | succ i => exact g2 i v (by simpa [mAt] using hi)
  | [], _ :: _, h => h.elim
  | _ :: _, [], h => h.elim
theorem mLH_le {ad : Nat → Nat} {ls : Array Slot} {nL : Nat} {lv lv' : List (Option Value)} (h : mLH ad ls nL lv) (hl : mLe lv' lv) : mLH ad ls nL lv' := by
  obtain ⟨g1, g2⟩ := mLe_spec lv' lv hl
  exact ⟨g1.trans h.1, h.2.1, h.2.2.1, fun i v hi => h.2.2.2 i v (g2 i v hi)⟩
/-- the world of a store -/
def mFc (h : mH) (ad : Nat → Nat) (σ : mS) (s : Nat) : Value := cv ad (mFv h σ s)
def mAe (h : mH) (cA cB : ClassId) (ad : Nat → Nat) (σ : mS) (a : Nat) : va_E := match h.2.2.2 a with
  | some b => .inl (cB, h.2.2.1 a, .inr (.inr (.inr (.inr (fun i => some (ad (b + i)))))))
  | none => .inl (cA, h.2.2.1 a, .inl (σ.2 a))
def mWs (h : mH) (ci N : Nat) (cA cB : ClassId) (ad : Nat → Nat) (σ : mS) : va_W := (ad 0, .inr (ci, (List.range N).map (mFc h ad σ))) :: (List.range h.2.1).map (fun a => (ad (a + 1), mAe h cA cB ad σ (a + 1)))
theorem mWs_arr {h : mH} {ci N : Nat} {cA cB : ClassId} {ad : Nat → Nat} {σ : mS} {a : Nat} (ha : 1 ≤ a ∧ a ≤ h.2.1) : (mWs h ci N cA cB ad σ)[a]? = some (ad a, mAe h cA cB ad σ a) := by
  obtain ⟨b, rfl⟩ : ∃ b, a = b + 1 := ⟨a - 1, by omega⟩
  have hb : b < h.2.1 := by omega
  simp [mWs, hb]
theorem mWs_out {h : mH} {ci N : Nat} {cA cB : ClassId} {ad : Nat → Nat} {σ : mS} {a : Nat} (ha : h.2.1 < a) : (mWs h ci N cA cB ad σ)[a]? = none := by
  obtain ⟨b, rfl⟩ : ∃ b, a = b + 1 := ⟨a - 1, by omega⟩
  have hb : h.2.1 ≤ b := by omega
  simp [mWs, hb]
theorem mWs_at {h : mH} {ci N : Nat} {cA cB : ClassId} {ad : Nat → Nat} (σ σ' : mS) {k q : Nat} : (∃ e, (mWs h ci N cA cB ad σ)[k]? = some (q, e)) ↔ ∃ e, (mWs h ci N cA cB ad σ')[k]? = some (q, e) := by
  cases k with
  | zero => simp [mWs]
  | succ k =>
    by_cases hk : k + 1 ≤ h.2.1
    · rw [mWs_arr ⟨by omega, hk⟩, mWs_arr ⟨by omega, hk⟩]
      simp
    · rw [mWs_out (by omega), mWs_out (by omega)]
theorem mWs_A {h : mH} {ci N : Nat} {cA cB : ClassId} {ad : Nat → Nat} (σ σ' : mS) {sz q : Nat} (hq : va_A (mWs h ci N cA cB ad σ) sz q) : va_A (mWs h ci N cA cB ad σ') sz q := by
  rcases hq with ⟨k, e, hk⟩ | hq
  · obtain ⟨e', he⟩ := (mWs_at σ σ').mp ⟨e, hk⟩
    exact Or.inl ⟨k, e', he⟩
  · exact Or.inr hq
theorem mWs_D {h : mH} {ci N : Nat} {cA cB : ClassId} {ad : Nat → Nat} (σ σ' : mS) {A : Nat → Prop} (hD : va_D A (mWs h ci N cA cB ad σ)) : va_D A (mWs h ci N cA cB ad σ') := by
  refine ⟨fun i j x y hi hj e => ?_, fun k q hk => ?_⟩
  · obtain ⟨e1, h1⟩ := (mWs_at σ' σ).mp ⟨x.2, hi⟩
    obtain ⟨e2, h2⟩ := (mWs_at σ' σ).mp ⟨y.2, hj⟩
    exact hD.1 i j _ _ h1 h2 e
  · obtain ⟨e1, h1⟩ := (mWs_at σ' σ).mp ⟨q.2, hk⟩
    exact hD.2 k (q.1, e1) h1
theorem mWs_put {h : mH} {ci N : Nat} {cA cB : ClassId} {ad : Nat → Nat} {σ : mS} {s : Nat} {x : Int32} (hs : s < N) (hk : h.1 s = none) : (mWs h ci N cA cB ad σ).set 0 (ad 0, .inr (ci, ((List.range N).map (mFc h ad σ)).set s (.int x))) = mWs h ci N cA cB ad (upd σ.1 s x, σ.2) := by
  have e1 : ((List.range N).map (mFc h ad σ)).set s (.int x) = (List.range N).map (mFc h ad (upd σ.1 s x, σ.2)) := by
    apply List.ext_getElem?
    intro j
    by_cases hj : j = s
    · subst hj
      rw [List.getElem?_set_self (by simpa using hs)]
      simp [hs, mFc, mFv, hk, cv, upd]
    · rw [List.getElem?_set_ne (Ne.symm hj)]
      by_cases hN : j < N
      · simp [hN, mFc, mFv, cv, upd, hj]
      · simp [hN]
  unfold mWs
  rw [List.set_cons_zero, e1]
  rfl
theorem mAe_ne {h : mH} {cA cB : ClassId} {ad : Nat → Nat} {σ : mS} {a b i : Nat} {x : Int32} (hb : b ≠ a) : mAe h cA cB ad (σ.1, up2 σ.2 a i x) b = mAe h cA cB ad σ b := by
  unfold mAe
  simp [up2, hb]
theorem mWs_up {h : mH} {ci N : Nat} {cA cB : ClassId} {ad : Nat → Nat} {σ : mS} {a i : Nat} {x : Int32} (ha : mIsA h a) : (mWs h ci N cA cB ad σ).set a (ad a, .inl (cA, h.2.2.1 a, .inl (upd (σ.2 a) i x))) = mWs h ci N cA cB ad (σ.1, up2 σ.2 a i x) := by
  obtain ⟨⟨h1, h2⟩, h3⟩ := ha
  apply List.ext_getElem?
  intro j
  by_cases hj : j = a
  · subst hj
    rw [List.getElem?_set_self (by simp [mWs]; omega), mWs_arr ⟨h1, h2⟩]
    simp [mAe, h3, up2]
  · rw [List.getElem?_set_ne (Ne.symm hj)]
    cases j with
    | zero =>
      simp only [mWs, List.getElem?_cons_zero, Option.some.injEq, Prod.mk.injEq, true_and, Sum.inr.injEq]
      rfl
    | succ j =>
      by_cases hN : j + 1 ≤ h.2.1
      · rw [mWs_arr ⟨by omega, hN⟩, mWs_arr ⟨by omega, hN⟩, mAe_ne hj]
      · rw [mWs_out (by omega), mWs_out (by omega)]
/-- a store stands in a state's heap -/
def mAtW (h : mH) (ci N : Nat) (cl : List vw_C) (D : va_G) (cA cB : ClassId) (ad : Nat → Nat) (A : Nat → Prop) (σ : mS) (U : State) : Prop := va_P D cl (mWs h ci N cA cB ad σ) U.heap ∧ va_K D cl [(cA, .int), (cB, .array .int)] U ∧ va_D A (mWs h ci N cA cB ad σ)
def mAv (stt : Bool) (ad : Nat → Nat) (xs : List Int32) : List Value := (bif stt then [] else [.ref (ad 0)]) ++ xs.map Value.int
def mQc (vd : Bool) (post : Int32 → mS → Prop) (B : mS → State → Prop) (A : Nat → Prop) : Array Value → State → Outcome → State → Prop := bif vd then va_Qv (post 0) B A else va_Qi post B A
/-- a method's contract: from any store that 'pre' allows it returns, 'post' holds, nothing else is written, nothing is made -/
def mCt (h : mH) (ci N : Nat) (cl : List vw_C) (y : MethodName) (cc : ByteArray) (maxL : Nat) (ret : Option FieldType) (d : Nat) (cs : mC) : Prop :=
  ∀ (l : Launch) (D : va_G) (cA cB : ClassId) (ad : Nat → Nat) (sz : Nat) (σ : mS) (xs : List Int32), xs.length = cs.1 → cs.2.2.2.1 σ xs →
    Met l y (Cond.code y cc maxL ret :: gW) (mRm d) (va_Pc (mAv cs.2.1 ad xs) (fun U => U.heap.size = sz ∧ mAtW h ci N cl D cA cB ad (fun _ => True) σ U))
      (mQc cs.2.2.1 (cs.2.2.2.2 σ xs) (fun u t => mAtW h ci N cl D cA cB ad (va_A (mWs h ci N cA cB ad σ) sz) u t) (va_A (mWs h ci N cA cB ad σ) sz)) 0 0 (va_A (mWs h ci N cA cB ad σ) sz)
/-- a call of pool index j in a method of class own is to a method with this contract, whose depth is under d -/
def mOK (h : mH) (ci N : Nat) (cl : List vw_C) (C own : String) (d j : Nat) (cs : mC) : Prop := ∃ (y : MethodName) (cc : ByteArray) (maxL : Nat) (ret : Option FieldType) (d' : Nat), mCt h ci N cl y cc maxL ret d' cs ∧ d' + 1 ≤ d ∧ maxL ≤ 16 ∧ Cond.code y cc maxL ret ∈ gW ∧ Cond.initialized y.cls ∈ gW ∧ Cond.methodLink own j y ∈ gW ∧ (y.cls ≠ "java/lang/invoke/MethodHandle" ∧ y.cls ≠ "java/lang/invoke/VarHandle" ∧ (parseMethodDescriptor y.desc).map (fun d => d.parameters.length) = some cs.1) ∧ (cs.2.1 = true → Cond.static y ∈ gW) ∧ (cs.2.1 = false → Cond.instanceMethod y ∈ gW ∧ Cond.selects C y y ∈ gW)
theorem mArgs_spec : ∀ (n : Nat) (st : List Value) (acc xs : List Int32) (st' : List Value), mArgs n st acc = some (xs, st') → ∃ ys : List Int32, ys.length = n ∧ xs = ys ++ acc ∧ st = (ys.map Value.int).reverse ++ st'
  | 0, st, acc, xs, st', h => by
    simp only [mArgs, Option.some.injEq, Prod.mk.injEq] at h
    exact ⟨[], rfl, by simp [h.1], by simp [h.2]⟩
  | n + 1, .int x :: st, acc, xs, st', h => by
    simp only [mArgs] at h
    obtain ⟨ys, h1, h2, h3⟩ := mArgs_spec n st (x :: acc) xs st' h
    refine ⟨ys ++ [x], by simp [h1], by simp [h2], ?_⟩
    rw [h3]
    simp
  | n + 1, [], _, _, _, h => by simp [mArgs] at h
  | n + 1, .long _ :: _, _, _, _, h => by simp [mArgs] at h
  | n + 1, .float _ :: _, _, _, _, h => by simp [mArgs] at h
  | n + 1, .double _ :: _, _, _, _, h => by simp [mArgs] at h
  | n + 1, .null :: _, _, _, _, h => by simp [mArgs] at h
  | n + 1, .ref _ :: _, _, _, _, h => by simp [mArgs] at h
  | n + 1, .retAddr _ :: _, _, _, _, h => by simp [mArgs] at h
theorem cv_ints (ad : Nat → Nat) (ys : List Int32) : (ys.map Value.int).map (cv ad) = ys.map Value.int := by
  rw [List.map_map]
  rfl
theorem cv_room (ad : Nat → Nat) (st : List Value) : ((st.map (cv ad)).map fun v => v.category).sum = st.length := by
  induction st with
  | nil => rfl
  | cons a l ih => simp only [List.map_cons, List.sum_cons, cv_cat, ih, List.length_cons]; omega
end
section
section MSOUND
variable {p : Program} {l : Launch} {e : Env} {R : Room} {s : State} {m : MethodId} {args : Array Value} {below : List Frame} {meth : Method} {c : Code}
variable {h : mH} {k : mK} {ci N nL : Nat} {cl : List vw_C} {D : va_G} {cA cB : ClassId} {ad : Nat → Nat} {A : Nat → Prop} {Qf : State → Prop} {cc : ByteArray} {own C : String} {T : u_T} {ty0 : Nat → FieldType} {bl : Nat} {Q : Int32 → mS → Prop}
/-- the JVM's machine, at a state of the abstract one, comes to Qf -/
def mW (p : Program) (l : Launch) (e : Env) (R : Room) (s : State) (m : MethodId) (args : Array Value) (below : List Frame) (meth : Method) (c : Code) (h : mH) (ci N nL : Nat) (cl : List vw_C) (D : va_G) (cA cB : ClassId) (ad : Nat → Nat) (A : Nat → Prop) (Qf : State → Prop) (S : mT) : Prop :=
  ∀ (H : Heap) (locs : List Loc) (ls : Array Slot), va_P D cl (mWs h ci N cA cB ad S.2.2.2) H → va_D A (mWs h ci N cA cB ad S.2.2.2) → va_S A s.heap H locs → mLH ad ls nL S.2.1 → W p l e R s m args below meth c H locs 0 0 Qf (F0 m S.1 ls (S.2.2.1.map (cv ad)))
theorem mW_le {pc : Nat} {lv lv' : List (Option Value)} {st : List Value} {σ : mS} (hl : mLe lv' lv) (hw : mW p l e R s m args below meth c h ci N nL cl D cA cB ad A Qf (pc, lv', st, σ)) : mW p l e R s m args below meth c h ci N nL cl D cA cB ad A Qf (pc, lv, st, σ) :=
  fun H locs ls hP hD hS hl' => hw H locs ls hP hD hS (mLH_le hl' hl)
/-- what a method's body knows -/
def mCtx (p : Program) (s : State) (m : MethodId) (args : Array Value) (c : Code) (h : mH) (k : mK) (ci N nL : Nat) (cl : List vw_C) (D : va_G) (cA cB : ClassId) (A : Nat → Prop) (cc : ByteArray) (own C : String) (T : u_T) (ty0 : Nat → FieldType) : Prop :=
  p.tables.exec = Jvm.exec ∧ c.code = cc ∧ c.maxLocals = nL ∧ s.vm.findClass own = some m.cls ∧ (∀ w ∈ gW, w.before args s = true) ∧ va_K D cl [(cA, .int), (cB, .array .int)] s ∧ cl[ci]? = some (C, T, N) ∧ (∀ w ∈ u_ws C T N, w ∈ gW) ∧ (∀ a, a < N → parseFieldDescriptor (T a).2.2.1 = some (ty0 a)) ∧ (∀ a, a < N → ∀ b, b < N → a ≠ b → (T a).2.1 ≠ (T b).2.1) ∧
  (∀ j sl, k.1 j = some sl → sl < N ∧ (T sl).1 = C ∧ Cond.fieldLink own j C (T sl).2.1 (T sl).2.2.1 ∈ gW) ∧ (∀ sl, sl < N → h.1 sl = none → (T sl).2.2.2 = false ∧ parseFieldDescriptor (T sl).2.2.1 = some .int) ∧ (∀ j v, k.2.1 j = some v → Cond.constant own j v ∈ gW) ∧ (∀ q : Nat, s.heap.size ≤ q → A q)
theorem mTg_eq {pc : Nat} {off : Int} (h : 0 ≤ (pc : Int) + off) : (pc : Int) + off = (mTg pc off : Int) := by
  unfold mTg
  rw [Int.toNat_of_nonneg h]
theorem mS_ldI {pc n j : Nat} {lv : List (Option Value)} {st : List Value} {σ : mS} (hdg : ∀ x (H : Heap) (locs : List Loc) (ls : Array Slot), ls[j]? = some (.val (.int x)) → W p l e R s m args below meth c H locs 0 0 Qf (F0 m n ls (.int x :: st.map (cv ad))) → W p l e R s m args below meth c H locs 0 0 Qf (F0 m pc ls (st.map (cv ad))))
    (hm : mLdI (mW p l e R s m args below meth c h ci N nL cl D cA cB ad A Qf) n lv st σ j) : mW p l e R s m args below meth c h ci N nL cl D cA cB ad A Qf (pc, lv, st, σ) := by
  unfold mLdI at hm
  split at hm
  · next x hx =>
    intro H locs ls hP hD hS hl
    exact hdg x H locs ls (hl.2.2.2 j _ hx) (hm H locs ls hP hD hS hl)
  · exact hm.elim
theorem mS_stI {pc n j : Nat} {lv : List (Option Value)} {st : List Value} {σ : mS} (hdg : ∀ (x : Int32) (st : List Value) (H : Heap) (locs : List Loc) (ls : Array Slot) (lv lv' : List (Nat × Value)), lv_has ls nL lv → j < nL → (j, Value.int x) :: lv.filter (fun q => !(q.1 == j) && !(q.1 + 1 == j && q.2.category == 2)) = lv' → (∀ ls' : Array Slot, lv_has ls' nL lv' → W p l e R s m args below meth c H locs 0 0 Qf (F0 m n ls' st)) → W p l e R s m args below meth c H locs 0 0 Qf (F0 m pc ls (.int x :: st)))
    (hm : mStI (mW p l e R s m args below meth c h ci N nL cl D cA cB ad A Qf) n lv st σ j) : mW p l e R s m args below meth c h ci N nL cl D cA cB ad A Qf (pc, lv, st, σ) := by
  unfold mStI at hm
  split at hm
  · next x st' =>
    split at hm
    · next lv' hs =>
      intro H locs ls hP hD hS hl
      have hj := (mSet_spec lv j _ lv' hs).1
      exact hdg x (st'.map (cv ad)) H locs ls (mPr ad lv) _ (mPr_has hl) (by rw [← hl.1]; exact hj) rfl (fun ls' hl' => hm H locs ls' hP hD hS (mLH_set hl hs hl'))
    · exact hm.elim
  · exact hm.elim
theorem mS_bin {pc n : Nat} {lv : List (Option Value)} {st : List Value} {σ : mS} {f : Int32 → Int32 → Int32} (hdg : ∀ (x y : Int32) (st : List Value) (H : Heap) (locs : List Loc) (ls : Array Slot), W p l e R s m args below meth c H locs 0 0 Qf (F0 m n ls (.int (f x y) :: st)) → W p l e R s m args below meth c H locs 0 0 Qf (F0 m pc ls (.int y :: .int x :: st)))
    (hm : mBin (mW p l e R s m args below meth c h ci N nL cl D cA cB ad A Qf) n lv st σ f) : mW p l e R s m args below meth c h ci N nL cl D cA cB ad A Qf (pc, lv, st, σ) := by
  unfold mBin at hm
  split at hm
  · next y x st' =>
    intro H locs ls hP hD hS hl
    exact hdg x y (st'.map (cv ad)) H locs ls (hm H locs ls hP hD hS hl)
  · exact hm.elim
theorem mS_div {pc n : Nat} {lv : List (Option Value)} {st : List Value} {σ : mS} {f : Int32 → Int32 → Int32} (hdg : ∀ (x y : Int32) (st : List Value) (H : Heap) (locs : List Loc) (ls : Array Slot), ¬ y = 0 → W p l e R s m args below meth c H locs 0 0 Qf (F0 m n ls (.int (f x y) :: st)) → W p l e R s m args below meth c H locs 0 0 Qf (F0 m pc ls (.int y :: .int x :: st)))
    (hm : mDiv (mW p l e R s m args below meth c h ci N nL cl D cA cB ad A Qf) n lv st σ f) : mW p l e R s m args below meth c h ci N nL cl D cA cB ad A Qf (pc, lv, st, σ) := by
  unfold mDiv at hm
  split at hm
  · next y x st' =>
    intro H locs ls hP hD hS hl
    exact hdg x y (st'.map (cv ad)) H locs ls hm.1 (hm.2 H locs ls hP hD hS hl)
  · exact hm.elim
theorem mS_if1 {pc : Nat} {off : Int} {lv : List (Option Value)} {st : List Value} {σ : mS} {f : Int32 → Prop} (hdg : ∀ (x : Int32) (st : List Value) (H : Heap) (locs : List Loc) (ls : Array Slot) (tgt : Nat), (pc : Int) + off = (tgt : Int) → (f x → W p l e R s m args below meth c H locs 0 0 Qf (F0 m tgt ls st)) → (¬ f x → W p l e R s m args below meth c H locs 0 0 Qf (F0 m (pc + 3) ls st)) → W p l e R s m args below meth c H locs 0 0 Qf (F0 m pc ls (.int x :: st)))
    (hm : mIf1 (mW p l e R s m args below meth c h ci N nL cl D cA cB ad A Qf) pc off lv st σ f) : mW p l e R s m args below meth c h ci N nL cl D cA cB ad A Qf (pc, lv, st, σ) := by
  unfold mIf1 at hm
  split at hm
  · next x st' =>
    intro H locs ls hP hD hS hl
    refine hdg x (st'.map (cv ad)) H locs ls (mTg pc off) (mTg_eq hm.1) (fun q => hm.2.1 q H locs ls hP hD hS hl) (fun q => hm.2.2 q H locs ls hP hD hS hl)
  · exact hm.elim
theorem mS_if2 {pc : Nat} {off : Int} {lv : List (Option Value)} {st : List Value} {σ : mS} {f : Int32 → Int32 → Prop} (hdg : ∀ (x y : Int32) (st : List Value) (H : Heap) (locs : List Loc) (ls : Array Slot) (tgt : Nat), (pc : Int) + off = (tgt : Int) → (f x y → W p l e R s m args below meth c H locs 0 0 Qf (F0 m tgt ls st)) → (¬ f x y → W p l e R s m args below meth c H locs 0 0 Qf (F0 m (pc + 3) ls st)) → W p l e R s m args below meth c H locs 0 0 Qf (F0 m pc ls (.int y :: .int x :: st)))
    (hm : mIf2 (mW p l e R s m args below meth c h ci N nL cl D cA cB ad A Qf) pc off lv st σ f) : mW p l e R s m args below meth c h ci N nL cl D cA cB ad A Qf (pc, lv, st, σ) := by
  unfold mIf2 at hm
  split at hm
  · next y x st' =>
    intro H locs ls hP hD hS hl
    refine hdg x y (st'.map (cv ad)) H locs ls (mTg pc off) (mTg_eq hm.1) (fun q => hm.2.1 q H locs ls hP hD hS hl) (fun q => hm.2.2 q H locs ls hP hD hS hl)
  · exact hm.elim
theorem mS_ifN1 {pc : Nat} {off : Int} {lv : List (Option Value)} {st : List Value} {σ : mS} (hdg : ∀ (x : Int32) (st : List Value) (H : Heap) (locs : List Loc) (ls : Array Slot) (tgt : Nat), (pc : Int) + off = (tgt : Int) → (¬ x = 0 → W p l e R s m args below meth c H locs 0 0 Qf (F0 m tgt ls st)) → (x = 0 → W p l e R s m args below meth c H locs 0 0 Qf (F0 m (pc + 3) ls st)) → W p l e R s m args below meth c H locs 0 0 Qf (F0 m pc ls (.int x :: st)))
    (hm : mIfN1 (mW p l e R s m args below meth c h ci N nL cl D cA cB ad A Qf) pc off lv st σ) : mW p l e R s m args below meth c h ci N nL cl D cA cB ad A Qf (pc, lv, st, σ) := by
  unfold mIfN1 at hm
  split at hm
  · next x st' =>
    intro H locs ls hP hD hS hl
    exact hdg x (st'.map (cv ad)) H locs ls (mTg pc off) (mTg_eq hm.1) (fun q => hm.2.2 q H locs ls hP hD hS hl) (fun q => hm.2.1 q H locs ls hP hD hS hl)
  · exact hm.elim
theorem mS_ifN2 {pc : Nat} {off : Int} {lv : List (Option Value)} {st : List Value} {σ : mS} (hdg : ∀ (x y : Int32) (st : List Value) (H : Heap) (locs : List Loc) (ls : Array Slot) (tgt : Nat), (pc : Int) + off = (tgt : Int) → (¬ x = y → W p l e R s m args below meth c H locs 0 0 Qf (F0 m tgt ls st)) → (x = y → W p l e R s m args below meth c H locs 0 0 Qf (F0 m (pc + 3) ls st)) → W p l e R s m args below meth c H locs 0 0 Qf (F0 m pc ls (.int y :: .int x :: st)))
    (hm : mIfN2 (mW p l e R s m args below meth c h ci N nL cl D cA cB ad A Qf) pc off lv st σ) : mW p l e R s m args below meth c h ci N nL cl D cA cB ad A Qf (pc, lv, st, σ) := by
  unfold mIfN2 at hm
  split at hm
  · next y x st' =>
    intro H locs ls hP hD hS hl
    exact hdg x y (st'.map (cv ad)) H locs ls (mTg pc off) (mTg_eq hm.1) (fun q => hm.2.2 q H locs ls hP hD hS hl) (fun q => hm.2.1 q H locs ls hP hD hS hl)
  · exact hm.elim
theorem mS_j {pc : Nat} {off : Int} {lv : List (Option Value)} {st : List Value} {σ : mS} (hdg : decode cc pc = .ok (.goto off, 3)) (X : mCtx p s m args c h k ci N nL cl D cA cB A cc own C T ty0)
    (hm : mJ (mW p l e R s m args below meth c h ci N nL cl D cA cB ad A Qf) pc off lv st σ) : mW p l e R s m args below meth c h ci N nL cl D cA cB ad A Qf (pc, lv, st, σ) := by
  intro H locs ls hP hD hS hl
  exact lv_goto X.1 X.2.1 hdg (mTg_eq hm.1) (hm.2 H locs ls hP hD hS hl)
theorem mS_get {pc j : Nat} {lv : List (Option Value)} {st : List Value} {σ : mS} (hdg : decode cc pc = .ok (.getfield j, 3)) (X : mCtx p s m args c h k ci N nL cl D cA cB A cc own C T ty0)
    (hm : mGet h k (mW p l e R s m args below meth c h ci N nL cl D cA cB ad A Qf) (pc + 3) lv st σ j) : mW p l e R s m args below meth c h ci N nL cl D cA cB ad A Qf (pc, lv, st, σ) := by
  obtain ⟨hx, hb, hml, hown, hts, hK, hc, hin, hty, hnm, hfl, hkd, hko, hA⟩ := X
  unfold mGet at hm
  split at hm
  · next st' =>
    split at hm
    · next sl hsl =>
      intro H locs ls hP hD hS hl
      obtain ⟨h1, h2, h3⟩ := hfl j sl hsl
      exact va_get (D := D) (ci := ci) (v := mFc h ad σ sl) (C := C) (T := T) (N := N) hx hb hts hin hown hK hP 0 rfl hc sl h1 (hts _ h3) (fun _ h9 => by rw [← h2]; exact h9) (by simp [h1]) hdg (hm H locs ls hP hD hS hl)
    · exact hm.elim
  · exact hm.elim
theorem mS_put {pc j : Nat} {lv : List (Option Value)} {st : List Value} {σ : mS} (hdg : decode cc pc = .ok (.putfield j, 3)) (X : mCtx p s m args c h k ci N nL cl D cA cB A cc own C T ty0)
    (hm : mPut h k (mW p l e R s m args below meth c h ci N nL cl D cA cB ad A Qf) (pc + 3) lv st σ j) : mW p l e R s m args below meth c h ci N nL cl D cA cB ad A Qf (pc, lv, st, σ) := by
  obtain ⟨hx, hb, hml, hown, hts, hK, hc, hin, hty, hnm, hfl, hkd, hko, hA⟩ := X
  unfold mPut at hm
  split at hm
  · next x st' =>
    split at hm
    · next sl hsl =>
      intro H locs ls hP hD hS hl
      obtain ⟨h1, h2, h3⟩ := hfl j sl hsl
      obtain ⟨g1, g2⟩ := hkd sl h1 hm.1
      refine va_put (D := D) (ci := ci) (v := .int x) (ty := .int) (C := C) (T := T) (N := N) hx hb hts hin ty0 hty hnm hown hK hP hD hS 0 rfl hc sl h1 (hts _ h3) (fun _ h9 => by rw [← h2]; exact h9) g1 g2 rfl rfl (by simp [h1]) hdg (fun H1 locs1 hP1 hD1 hS1 => ?_)
      rw [mWs_put h1 hm.1] at hP1 hD1
      exact hm.2 H1 locs1 ls hP1 hD1 hS1 hl
    · exact hm.elim
  · exact hm.elim
theorem mS_ldE {pc : Nat} {lv : List (Option Value)} {st : List Value} {σ : mS} (hdg : decode cc pc = .ok (.iaload, 1)) (X : mCtx p s m args c h k ci N nL cl D cA cB A cc own C T ty0)
    (hm : mLdE h (mW p l e R s m args below meth c h ci N nL cl D cA cB ad A Qf) (pc + 1) lv st σ) : mW p l e R s m args below meth c h ci N nL cl D cA cB ad A Qf (pc, lv, st, σ) := by
  obtain ⟨hx, hb, hml, hown, hts, hK, hc, hin, hty, hnm, hfl, hkd, hko, hA⟩ := X
  unfold mLdE at hm
  split at hm
  · next i a st' =>
    intro H locs ls hP hD hS hl
    have ha : (mWs h ci N cA cB ad σ)[a]? = some (ad a, .inl (cA, h.2.2.1 a, .inl (σ.2 a))) := by rw [mWs_arr hm.1.1]; simp [mAe, hm.1.2]
    exact va_iald hx hb hK hP a 0 ha rfl hm.2.1 hdg (hm.2.2 H locs ls hP hD hS hl)
  · exact hm.elim
theorem mS_stE {pc : Nat} {lv : List (Option Value)} {st : List Value} {σ : mS} (hdg : decode cc pc = .ok (.iastore, 1)) (X : mCtx p s m args c h k ci N nL cl D cA cB A cc own C T ty0)
    (hm : mStE h (mW p l e R s m args below meth c h ci N nL cl D cA cB ad A Qf) (pc + 1) lv st σ) : mW p l e R s m args below meth c h ci N nL cl D cA cB ad A Qf (pc, lv, st, σ) := by
  obtain ⟨hx, hb, hml, hown, hts, hK, hc, hin, hty, hnm, hfl, hkd, hko, hA⟩ := X
  unfold mStE at hm
  split at hm
  · next x i a st' =>
    intro H locs ls hP hD hS hl
    have ha : (mWs h ci N cA cB ad σ)[a]? = some (ad a, .inl (cA, h.2.2.1 a, .inl (σ.2 a))) := by rw [mWs_arr hm.1.1]; simp [mAe, hm.1.2]
    refine va_iast hx hb hK hP hD hS a 0 ha rfl hm.2.1 hdg (fun H1 locs1 hP1 hD1 hS1 => ?_)
    rw [mWs_up hm.1] at hP1 hD1
    exact hm.2.2 H1 locs1 ls hP1 hD1 hS1 hl
  · exact hm.elim
theorem mS_ldR {pc : Nat} {lv : List (Option Value)} {st : List Value} {σ : mS} (hdg : decode cc pc = .ok (.aaload, 1)) (X : mCtx p s m args c h k ci N nL cl D cA cB A cc own C T ty0)
    (hm : mLdR h (mW p l e R s m args below meth c h ci N nL cl D cA cB ad A Qf) (pc + 1) lv st σ) : mW p l e R s m args below meth c h ci N nL cl D cA cB ad A Qf (pc, lv, st, σ) := by
  obtain ⟨hx, hb, hml, hown, hts, hK, hc, hin, hty, hnm, hfl, hkd, hko, hA⟩ := X
  unfold mLdR at hm
  split at hm
  · next i a st' =>
    split at hm
    · next b hb2 =>
      intro H locs ls hP hD hS hl
      have ha : (mWs h ci N cA cB ad σ)[a]? = some (ad a, .inl (cB, h.2.2.1 a, .inr (.inr (.inr (.inr (fun i => some (ad (b + i)))))))) := by rw [mWs_arr hm.1]; simp [mAe, hb2]
      have hlt : i.toNatClampNeg < h.2.2.1 a := Nat.not_le.mp fun q => hm.2.1 (Or.inr q)
      exact W.aald (v := .ref (ad (b + i.toNatClampNeg))) (ty := .array .int) hx hb (hP a _ ha) ((hK.2 1 _ rfl).1 (h.2.2.1 a) (fun j => va_rf (some (ad (b + j))))) rfl (fun q => by cases q) (by show ¬ (i < 0 ∨ (arrV _ _ _).slots.size ≤ _); rw [arrV_size]; exact hm.2.1) (by show (arrV _ _ _).slots[_]? = _; rw [arrV_read _ _ hlt]; rfl) rfl rfl hdg (hm.2.2 H locs ls hP hD hS hl)
    · exact hm.elim
  · exact hm.elim
theorem mS_tsw {pc n : Nat} {d lo hi : Int} {os : Array Int} {lv : List (Option Value)} {st : List Value} {σ : mS} (hdg : decode cc pc = .ok (.tableswitch d lo hi os, n)) (X : mCtx p s m args c h k ci N nL cl D cA cB A cc own C T ty0)
    (hm : mTsw (mW p l e R s m args below meth c h ci N nL cl D cA cB ad A Qf) pc lv st σ d lo hi os.toList) : mW p l e R s m args below meth c h ci N nL cl D cA cB ad A Qf (pc, lv, st, σ) := by
  have key : ∀ (os : List Int) (st : List Value) (x : Int32) (lo : Int), mTab (mW p l e R s m args below meth c h ci N nL cl D cA cB ad A Qf) pc lv st σ x lo os → ∀ (j : Nat) (o : Int), os[j]? = some o → x.toInt = lo + j → mJ (mW p l e R s m args below meth c h ci N nL cl D cA cB ad A Qf) pc o lv st σ := by
    intro os
    induction os with
    | nil => intro st x lo _ j o ho; simp at ho
    | cons a os ih =>
      intro st x lo hm j o ho hxj
      cases j with
      | zero =>
        simp only [List.getElem?_cons_zero, Option.some.injEq] at ho
        subst ho
        exact hm.1 (by simpa using hxj)
      | succ j =>
        rw [List.getElem?_cons_succ] at ho
        exact ih st x (lo + 1) hm.2 j o ho (by rw [hxj]; push_cast; omega)
  unfold mTsw at hm
  split at hm
  · next x st' =>
    obtain ⟨hlen, hd, ht⟩ := hm
    intro H locs ls hP hD hS hl
    by_cases hout : x.toInt < lo ∨ hi < x.toInt
    · exact lv_tableOut X.1 X.2.1 hdg hout (mTg_eq (hd hout).1) ((hd hout).2 H locs ls hP hD hS hl)
    · have h1 : ¬ x.toInt < lo := fun q => hout (Or.inl q)
      have h2 : ¬ hi < x.toInt := fun q => hout (Or.inr q)
      have hj : (x.toInt - lo).toNat < os.toList.length := by omega
      have hj2 : os.toList[(x.toInt - lo).toNat]? = some (os.toList[(x.toInt - lo).toNat]) := List.getElem?_eq_getElem hj
      have hq := key os.toList st' x lo ht _ _ hj2 (by omega)
      exact lv_tableIn X.1 X.2.1 hdg h1 h2 (by rw [← Array.getElem?_toList]; exact hj2) (mTg_eq hq.1) (hq.2 H locs ls hP hD hS hl)
  · exact hm.elim
theorem mS_lsw {pc n : Nat} {d : Int} {ps : Array (Int × Int)} {lv : List (Option Value)} {st : List Value} {σ : mS} (hdg : decode cc pc = .ok (.lookupswitch d ps, n)) (X : mCtx p s m args c h k ci N nL cl D cA cB A cc own C T ty0)
    (hm : mLsw (mW p l e R s m args below meth c h ci N nL cl D cA cB ad A Qf) pc lv st σ d ps.toList) : mW p l e R s m args below meth c h ci N nL cl D cA cB ad A Qf (pc, lv, st, σ) := by
  have key : ∀ (ps : List (Int × Int)) (st : List Value) (x : Int32), mLk (mW p l e R s m args below meth c h ci N nL cl D cA cB ad A Qf) pc lv st σ x d ps → mJ (mW p l e R s m args below meth c h ci N nL cl D cA cB ad A Qf) pc (Op.lookupswitch.offset ps d x.toInt) lv st σ := by
    intro ps
    induction ps with
    | nil => intro st x hm; exact hm
    | cons a ps ih =>
      intro st x hm
      obtain ⟨a, o⟩ := a
      rw [Op.lookupswitch.offset_cons]
      by_cases q : x.toInt = a
      · rw [if_pos q.symm]; exact hm.1 q
      · rw [if_neg (fun z => q z.symm)]; exact ih st x (hm.2 q)
  unfold mLsw at hm
  split at hm
  · next x st' =>
    obtain ⟨hp, ht⟩ := hm
    intro H locs ls hP hD hS hl
    have hq := key ps.toList st' x ht
    exact lv_lookup X.1 X.2.1 hdg hp rfl (mTg_eq hq.1) (hq.2 H locs ls hP hD hS hl)
  · exact hm.elim
end MSOUND
end
section
section MMEET
variable {p : Program} {l : Launch} {e : Env} {R : Room} {s : State} {m : MethodId} {args : Array Value} {below : List Frame} {meth : Method} {c : Code}
variable {h : mH} {k : mK} {ci N nL d : Nat} {cl : List vw_C} {D : va_G} {cA cB : ClassId} {ad : Nat → Nat} {A : Nat → Prop} {Qf : State → Prop} {cc : ByteArray} {own C : String} {T : u_T} {ty0 : Nat → FieldType} {bl : Nat} {Q : Int32 → mS → Prop}
theorem gW_cons {w : Cond} (h : w ∈ gW) : GoodIn gW (w :: gW) := fun q hq => by
  rcases List.mem_cons.mp hq with rfl | hq
  · exact gW_good _ h
  · exact gW_good _ hq
theorem mBlind {h : mH} {ci N sz : Nat} {cl : List vw_C} {D : va_G} {cA cB : ClassId} {ad : Nat → Nat} {A : Nat → Prop} {σ : mS} {av : List Value} : FrameBlind (va_Pc av (fun U => U.heap.size = sz ∧ mAtW h ci N cl D cA cB ad A σ U)) := fun a U g mk q => by
  obtain ⟨q0, q1, qP, qK, qD⟩ := q
  exact ⟨q0, q1, qP, va_K.moved (u := U) (U := U.calling g mk a) (Vm.Alike.refl U.vm) qK, qD⟩
theorem mFree {H : Heap} {locs : List Loc} {σ : mS} (hA : ∀ q : Nat, s.heap.size ≤ q → A q) (hD : va_D A (mWs h ci N cA cB ad σ)) (hS : va_S A s.heap H locs) : ∀ q, va_A (mWs h ci N cA cB ad σ) H.size q → A q := fun q hq => by
  rcases hq with ⟨i, e, hi⟩ | hq
  · exact hD.2 i _ hi
  · exact hA q (Nat.le_trans hS.1 hq)
theorem mS_aft {pc : Nat} {vd : Bool} {lv : List (Option Value)} {σ : mS} {st' st0 : List Value} {post : mS → List Int32 → Int32 → mS → Prop} {xs : List Int32} {H : Heap} {locs : List Loc} {ls : Array Slot} (a : Array Value) (X : mCtx p s m args c h k ci N nL cl D cA cB A cc own C T ty0)
    (hk : ∀ r σ', post σ xs r σ' → mAft (mW p l e R s m args below meth c h ci N nL cl D cA cB ad A Qf) (pc + 3) lv st' vd r σ') (hD : va_D A (mWs h ci N cA cB ad σ)) (hS : va_S A s.heap H locs) (hl : mLH ad ls nL lv)
    (hr : va_Run p l e R s m args below meth c H locs 0 0 0 0 (F0 m pc ls st0) (st'.map (cv ad)) (mQc vd (post σ xs) (fun u t => mAtW h ci N cl D cA cB ad (va_A (mWs h ci N cA cB ad σ) H.size) u t) (va_A (mWs h ci N cA cB ad σ) H.size) a) (va_A (mWs h ci N cA cB ad σ) H.size)) : W p l e R s m args below meth c H locs 0 0 Qf (F0 m pc ls st0) := by
  have hF := mFree X.2.2.2.2.2.2.2.2.2.2.2.2.2 hD hS
  cases vd with
  | false =>
    refine va_calli (a := a) (post := post σ xs) (B := fun u t => mAtW h ci N cl D cA cB ad (va_A (mWs h ci N cA cB ad σ) H.size) u t) hr hS (fun q _ hq => hF q hq) hF (fun r u t H1 locs1 ht hvm hpo hB hz hk1 hS1 => ?_)
    obtain ⟨hP1, -, -⟩ := hB
    rw [ht] at hP1
    exact hk r u hpo H1 locs1 ls hP1 (mWs_D σ u hD) hS1 hl
  | true =>
    refine va_callv (a := a) (post := post σ xs 0) (B := fun u t => mAtW h ci N cl D cA cB ad (va_A (mWs h ci N cA cB ad σ) H.size) u t) hr hS (fun q _ hq => hF q hq) hF (fun u t H1 locs1 ht hvm hpo hB hz hk1 hS1 => ?_)
    obtain ⟨hP1, -, -⟩ := hB
    rw [ht] at hP1
    exact hk 0 u hpo H1 locs1 ls hP1 (mWs_D σ u hD) hS1 hl
theorem mS_caV {pc j : Nat} {lv : List (Option Value)} {st : List Value} {σ : mS} (hdg : decode cc pc = .ok (.invokevirtual j, 3)) (X : mCtx p s m args c h k ci N nL cl D cA cB A cc own C T ty0) (hca : ∀ j cs, mFind k.2.2 j = some cs → mOK h ci N cl C own d j cs) (hR : R = mRm d)
    (hm : mCaV k (mW p l e R s m args below meth c h ci N nL cl D cA cB ad A Qf) (pc + 3) lv st σ j) : mW p l e R s m args below meth c h ci N nL cl D cA cB ad A Qf (pc, lv, st, σ) := by
  obtain ⟨hx, hb, hml, hown, hts, hK, hc, hin, hty, hnm, hfl, hkd, hko, hA⟩ := id X
  unfold mCaV at hm
  split at hm
  · next np vd pre post hfi =>
    split at hm
    · next xs st' hxs =>
      obtain ⟨hst, hpre, hk⟩ := hm
      obtain ⟨y, cc', maxL, ret, d', hct, hd, hmx, w1, w2, w3, hdd, -, hv⟩ := hca j _ hfi
      obtain ⟨w4, w5⟩ := hv rfl
      obtain ⟨ys, e1, e2, e3⟩ := mArgs_spec _ _ _ _ _ hxs
      rw [List.append_nil] at e2
      subst e2
      intro H locs ls hP hD hS hl
      refine mS_aft (vd := vd) (Value.ref (ad 0) :: xs.map Value.int).toArray X hk hD hS hl ?_
      refine va_runV (Ts := gW) (own := own) (C := C) (index := j) (n := np) (bytes := cc') (maxL := maxL) (ret := ret) (cc := cc) (nL := nL) (b := ad 0) (As := xs.map Value.int) ⟨hx, hb, hml, hown, hts⟩ (hct l D cA cB ad H.size σ xs e1 hpre) ⟨callB_of np hts (gW_cons w1) rfl rfl rfl (hts _ w2) (hts _ w3) hdd (by subst hR; refine ⟨hd, ?_⟩; show 8 + (maxL + 11) + 35 * d' ≤ 35 * d; omega), hts _ w4, hts _ w5⟩ ⟨mBlind, va_recv hK hP (ci := ci) (q0 := 0) hc rfl, fun U hU hW => ⟨rfl, by rw [hU], by rw [hU]; exact hP, va_K.moved hW.alike hK, hD.weaken (fun _ _ _ _ => trivial)⟩⟩ rfl (by rw [List.length_map]; exact e1) hl.2.1 ?_ (lv_room (by rw [cv_room]; exact hst)) hdg ⟨Nat.zero_le _, Nat.zero_le _⟩
      show List.map (cv ad) st = _
      rw [e3, List.map_append, List.map_reverse, cv_ints]
      rfl
    · exact hm.elim
  · exact hm.elim
theorem mS_caS {pc j : Nat} {lv : List (Option Value)} {st : List Value} {σ : mS} (hdg : decode cc pc = .ok (.invokestatic j, 3)) (X : mCtx p s m args c h k ci N nL cl D cA cB A cc own C T ty0) (hca : ∀ j cs, mFind k.2.2 j = some cs → mOK h ci N cl C own d j cs) (hR : R = mRm d)
    (hm : mCaS k (mW p l e R s m args below meth c h ci N nL cl D cA cB ad A Qf) (pc + 3) lv st σ j) : mW p l e R s m args below meth c h ci N nL cl D cA cB ad A Qf (pc, lv, st, σ) := by
  obtain ⟨hx, hb, hml, hown, hts, hK, hc, hin, hty, hnm, hfl, hkd, hko, hA⟩ := id X
  unfold mCaS at hm
  split at hm
  · next np vd pre post hfi =>
    split at hm
    · next xs st' hxs =>
      obtain ⟨hst, hpre, hk⟩ := hm
      obtain ⟨y, cc', maxL, ret, d', hct, hd, hmx, w1, w2, w3, hdd, hv, -⟩ := hca j _ hfi
      have w4 := hv rfl
      obtain ⟨ys, e1, e2, e3⟩ := mArgs_spec _ _ _ _ _ hxs
      rw [List.append_nil] at e2
      subst e2
      intro H locs ls hP hD hS hl
      refine mS_aft (vd := vd) (xs.map Value.int).toArray X hk hD hS hl ?_
      refine va_runS (Ts := gW) (own := own) (index := j) (n := np) (bytes := cc') (maxL := maxL) (ret := ret) (cc := cc) (nL := nL) (As := xs.map Value.int) ⟨hx, hb, hml, hown, hts⟩ (hct l D cA cB ad H.size σ xs e1 hpre) ⟨callB_of np hts (gW_cons w1) rfl rfl rfl (hts _ w2) (hts _ w3) hdd (by subst hR; refine ⟨hd, ?_⟩; show 8 + (maxL + 11) + 35 * d' ≤ 35 * d; omega), hts _ w4⟩ ⟨mBlind, fun U hU hW => ⟨rfl, by rw [hU], by rw [hU]; exact hP, va_K.moved hW.alike hK, hD.weaken (fun _ _ _ _ => trivial)⟩⟩ rfl (by rw [List.length_map]; exact e1) hl.2.1 ?_ (lv_room (by rw [cv_room]; exact hst)) hdg ⟨Nat.zero_le _, Nat.zero_le _⟩
      show List.map (cv ad) st = _
      rw [e3, List.map_append, List.map_reverse, cv_ints]
    · exact hm.elim
  · exact hm.elim
set_option maxHeartbeats 4000000 in
/-- one step is sound -/
theorem mSound (X : mCtx p s m args c h k ci N nL cl D cA cB A cc own C T ty0) (hca : ∀ j cs, mFind k.2.2 j = some cs → mOK h ci N cl C own d j cs) (hR : R = mRm d)
    (hri : ∀ (v : Int32) (σ : mS) (H : Heap) (locs : List Loc) (ls : Array Slot) (pc : Nat), decode cc pc = .ok (.ireturn, 1) → (bl = 0 ∨ bl = 1 ∧ (v = 0 ∨ v = 1)) → Q v σ → va_P D cl (mWs h ci N cA cB ad σ) H → va_D A (mWs h ci N cA cB ad σ) → va_S A s.heap H locs → W p l e R s m args below meth c H locs 0 0 Qf (F0 m pc ls [.int v]))
    (hrv : ∀ (σ : mS) (H : Heap) (locs : List Loc) (ls : Array Slot) (pc : Nat), decode cc pc = .ok (.return_, 1) → bl = 2 → Q 0 σ → va_P D cl (mWs h ci N cA cB ad σ) H → va_D A (mWs h ci N cA cB ad σ) → va_S A s.heap H locs → W p l e R s m args below meth c H locs 0 0 Qf (F0 m pc ls [])) (S : mT)
    (hm : mStep h k cc bl Q (mW p l e R s m args below meth c h ci N nL cl D cA cB ad A Qf) S) : mW p l e R s m args below meth c h ci N nL cl D cA cB ad A Qf S := by
  obtain ⟨pc, lv, st, σ⟩ := S
  have hx := X.1
  have hb := X.2.1
  unfold mStep at hm
  split at hm
  case h_2 => exact hm.elim
  next i n hdg =>
  dsimp only at hm hdg
  unfold mIns at hm
  split at hm
  · next v => exact fun H locs ls hP hD hS hl => lv_iconst hx hb hdg rfl (hm H locs ls hP hD hS hl)
  · next v => exact fun H locs ls hP hD hS hl => lv_bipush hx hb hdg rfl (hm H locs ls hP hD hS hl)
  · next v => exact fun H locs ls hP hD hS hl => lv_sipush hx hb hdg rfl (hm H locs ls hP hD hS hl)
  · next j =>
    unfold mKon at hm
    split at hm
    · next v hv => exact fun H locs ls hP hD hS hl => lv_ldc hx hb X.2.2.2.1 (X.2.2.2.2.1 _ (X.2.2.2.2.2.2.2.2.2.2.2.2.1 j v hv)) hdg (hm H locs ls hP hD hS hl)
    · exact hm.elim
  · next j =>
    unfold mKon at hm
    split at hm
    · next v hv => exact fun H locs ls hP hD hS hl => lv_ldcw hx hb X.2.2.2.1 (X.2.2.2.2.1 _ (X.2.2.2.2.2.2.2.2.2.2.2.2.1 j v hv)) hdg (hm H locs ls hP hD hS hl)
    · exact hm.elim
  · next j => exact mS_ldI (fun x H locs ls h1 h2 => lv_iload_n hx hb hdg rfl h1 h2) hm
  · next j => exact mS_ldI (fun x H locs ls h1 h2 => lv_iload hx hb hdg h1 h2) hm
  · next j =>
    unfold mLdA at hm
    split at hm
    · next x hv => exact fun H locs ls hP hD hS hl => lv_aload_n hx hb hdg rfl (hl.2.2.2 _ _ hv) (hm H locs ls hP hD hS hl)
    · exact hm.elim
  · next j => exact mS_stI (fun x st H locs ls lv lv' h1 h2 h3 h4 => lv_istore_n hx hb hdg rfl h1 h2 h3 h4) hm
  · next j => exact mS_stI (fun x st H locs ls lv lv' h1 h2 h3 h4 => lv_istore hx hb hdg h1 h2 h3 h4) hm
  · next j v =>
    unfold mInc at hm
    split at hm
    · next x hv =>
      split at hm
      · next lv' hs =>
        intro H locs ls hP hD hS hl
        obtain ⟨q, hq⟩ := List.getElem?_of_mem (mPr_in (ad := ad) hv)
        exact lv_iinc hx hb hdg (mPr_has hl) hq rfl (by rw [← hl.1]; exact (mSet_spec _ _ _ _ hs).1) rfl (fun ls' hl' => hm H locs ls' hP hD hS (mLH_set hl hs hl'))
      · exact hm.elim
    · exact hm.elim
  · exact mS_bin (fun x y st H locs ls h1 => lv_iadd hx hb hdg h1) hm
  · exact mS_bin (fun x y st H locs ls h1 => lv_isub hx hb hdg h1) hm
  · exact mS_bin (fun x y st H locs ls h1 => lv_imul hx hb hdg h1) hm
  · exact mS_bin (fun x y st H locs ls h1 => lv_iand hx hb hdg h1) hm
  · exact mS_bin (fun x y st H locs ls h1 => lv_ior hx hb hdg h1) hm
  · exact mS_bin (fun x y st H locs ls h1 => lv_ixor hx hb hdg h1) hm
  · exact mS_bin (fun x y st H locs ls h1 => lv_ishl hx hb hdg h1) hm
  · exact mS_bin (fun x y st H locs ls h1 => lv_ishr hx hb hdg h1) hm
  · exact mS_bin (fun x y st H locs ls h1 => lv_iushr hx hb hdg rfl h1) hm
  · exact mS_div (fun x y st H locs ls h0 h1 => lv_idiv hx hb hdg h0 h1) hm
  · exact mS_div (fun x y st H locs ls h0 h1 => lv_irem hx hb hdg h0 h1) hm
  · exact mS_if1 (fun x st H locs ls tgt h0 h1 h2 => lv_if_eq hx hb hdg h0 h1 h2) hm
  · exact mS_ifN1 (fun x st H locs ls tgt h0 h1 h2 => lv_if_ne hx hb hdg h0 h1 h2) hm
  · exact mS_if1 (fun x st H locs ls tgt h0 h1 h2 => lv_if_lt hx hb hdg h0 h1 h2) hm
  · exact mS_if1 (fun x st H locs ls tgt h0 h1 h2 => lv_if_ge hx hb hdg h0 h1 h2) hm
  · exact mS_if1 (fun x st H locs ls tgt h0 h1 h2 => lv_if_gt hx hb hdg h0 h1 h2) hm
  · exact mS_if1 (fun x st H locs ls tgt h0 h1 h2 => lv_if_le hx hb hdg h0 h1 h2) hm
  · exact mS_if2 (fun x y st H locs ls tgt h0 h1 h2 => lv_icmp_eq hx hb hdg h0 h1 h2) hm
  · exact mS_ifN2 (fun x y st H locs ls tgt h0 h1 h2 => lv_icmp_ne hx hb hdg h0 h1 h2) hm
  · exact mS_if2 (fun x y st H locs ls tgt h0 h1 h2 => lv_icmp_lt hx hb hdg h0 h1 h2) hm
  · exact mS_if2 (fun x y st H locs ls tgt h0 h1 h2 => lv_icmp_ge hx hb hdg h0 h1 h2) hm
  · exact mS_if2 (fun x y st H locs ls tgt h0 h1 h2 => lv_icmp_gt hx hb hdg h0 h1 h2) hm
  · exact mS_if2 (fun x y st H locs ls tgt h0 h1 h2 => lv_icmp_le hx hb hdg h0 h1 h2) hm
  · exact mS_j hdg X hm
  · unfold mDup at hm
    split at hm
    · next v st' => exact fun H locs ls hP hD hS hl => lv_dup hx hb hdg (cv_cat _ _) (hm H locs ls hP hD hS hl)
    · exact hm.elim
  · unfold mDup2 at hm
    split at hm
    · next v w st' => exact fun H locs ls hP hD hS hl => lv_dup2_11 hx hb hdg (cv_cat _ _) (cv_cat _ _) (hm H locs ls hP hD hS hl)
    · exact hm.elim
  · exact mS_get hdg X hm
  · exact mS_put hdg X hm
  · exact mS_ldE hdg X hm
  · exact mS_stE hdg X hm
  · exact mS_ldR hdg X hm
  · exact mS_tsw hdg X hm
  · exact mS_lsw hdg X hm
  · exact mS_caV hdg X hca hR hm
  · exact mS_caS hdg X hca hR hm
  · unfold mRetI at hm
    split at hm
    · next v => exact fun H locs ls hP hD hS hl => hri v σ H locs ls pc hdg hm.1 hm.2 hP hD hS
    · exact hm.elim
  · unfold mRetV at hm
    split at hm
    · exact fun H locs ls hP hD hS hl => hrv σ H locs ls pc hdg hm.1 hm.2 hP hD hS
    · exact hm.elim
  · exact hm.elim
def mA0 (stt : Bool) (xs : List Int32) : List Value := (bif stt then [] else [.ref 0]) ++ xs.map Value.int
def mEn (stt : Bool) (maxL : Nat) (xs : List Int32) : List (Option Value) := (mA0 stt xs).map some ++ List.replicate (maxL - (mA0 stt xs).length) none
theorem mA0_cv (stt : Bool) (ad : Nat → Nat) (xs : List Int32) : (mA0 stt xs).map (cv ad) = mAv stt ad xs := by
  unfold mA0 mAv
  rw [List.map_append, cv_ints]
  cases stt <;> rfl
theorem mAt_en : ∀ (vs : List Value) (n i : Nat) (v : Value), mAt (vs.map some ++ List.replicate n none) i = some v → vs[i]? = some v
  | [], n, i, v, hi => by
    exfalso
    simp only [List.map_nil, List.nil_append] at hi
    induction n generalizing i with
    | zero => simp [mAt] at hi
    | succ n ih =>
      rw [List.replicate_succ] at hi
      cases i with
      | zero => simp [mAt] at hi
      | succ i => exact ih i (by simpa [mAt] using hi)
  | a :: vs, n, 0, v, hi => by simpa [mAt] using hi
  | a :: vs, n, i + 1, v, hi => by
    rw [List.getElem?_cons_succ]
    exact mAt_en vs n i v (by simpa [mAt] using hi)
theorem mSl (ad : Nat → Nat) : ∀ vs : List Value, lg_sl (vs.map (cv ad)) = vs.map (fun v => Slot.val (cv ad v))
  | [] => rfl
  | a :: vs => by
    have ih := mSl ad vs
    unfold lg_sl at ih ⊢
    rw [List.map_cons, List.flatMap_cons, ih, if_neg (by rw [cv_cat]; decide)]
    rfl
/-- a class's tables are as the claim's tables have them -/
def mTb (h : mH) (k : mK) (ci N : Nat) (cl : List vw_C) (own C : String) (T : u_T) (ty0 : Nat → FieldType) : Prop :=
  cl[ci]? = some (C, T, N) ∧ (∀ w ∈ u_ws C T N, w ∈ gW) ∧ (∀ a, a < N → parseFieldDescriptor (T a).2.2.1 = some (ty0 a)) ∧ (∀ a, a < N → ∀ b, b < N → a ≠ b → (T a).2.1 ≠ (T b).2.1) ∧
  (∀ j sl, k.1 j = some sl → sl < N ∧ (T sl).1 = C ∧ Cond.fieldLink own j C (T sl).2.1 (T sl).2.2.1 ∈ gW) ∧ (∀ sl, sl < N → h.1 sl = none → (T sl).2.2.2 = false ∧ parseFieldDescriptor (T sl).2.2.1 = some .int) ∧ (∀ j v, k.2.1 j = some v → Cond.constant own j v ∈ gW)
/-- X goes back over the steps of the machine, and over locals that nobody asks for -/
def mGo (h : mH) (k : mK) (cc : ByteArray) (bl : Nat) (Q : Int32 → mS → Prop) (X : mT → Prop) : Prop := (∀ S, mStep h k cc bl Q X S → X S) ∧ ∀ (pc : Nat) (lv lv' : List (Option Value)) (st : List Value) (σ : mS), mLe lv' lv → X (pc, lv', st, σ) → X (pc, lv, st, σ)
set_option maxHeartbeats 4000000 in
theorem mMeet {y : MethodName} {maxL : Nat} {ret : Option FieldType} {cs : mC} (hy : plainName y.cls = true) (hyo : y.cls = own) (hT : mTb h k ci N cl own C T ty0) (hca : ∀ j cs, mFind k.2.2 j = some cs → mOK h ci N cl C own d j cs)
    (hret : (bl = 0 ∧ cs.2.2.1 = false ∧ ret = some .int) ∨ (bl = 1 ∧ cs.2.2.1 = false ∧ ret = some .boolean) ∨ (bl = 2 ∧ cs.2.2.1 = true ∧ ret = none)) (hmx : cs.1 + (bif cs.2.1 then 0 else 1) ≤ maxL)
    (pure : ∀ (σ : mS) (xs : List Int32), xs.length = cs.1 → cs.2.2.2.1 σ xs → ∀ X : mT → Prop, mGo h k cc bl (cs.2.2.2.2 σ xs) X → X (0, mEn cs.2.1 maxL xs, [], σ)) : mCt h ci N cl y cc maxL ret d cs := by
  intro l D cA cB ad sz σ xs hlen hpre
  refine Met.ofW (cc := cc) (maxL := maxL) (ret := ret) hy rfl ?_
  intro p e s m args below meth c s₁ B hml hv
  obtain ⟨rfl, hsz, hP, hK, hD0⟩ := hv
  have hx := B.exec
  have hb := B.bytes
  have hr := B.returns
  have hts := atoms_spec (ws := Cond.code y cc maxL ret :: gW) B.pre
  have hown : s.vm.findClass own = some m.cls := hyo ▸ findClass_of_methodNamed B.named
  have hlocks := B.notSynchronized
  subst hsz
  have hD := hD0.self (sz := s.heap.size)
  have hS : va_S (va_A (mWs h ci N cA cB ad σ) s.heap.size) s.heap s.heap [] := va_S.rf
  have hA : ∀ q : Nat, s.heap.size ≤ q → va_A (mWs h ci N cA cB ad σ) s.heap.size q := fun q hq => Or.inr hq
  obtain ⟨t1, t2, t3, t4, t5, t6, t7⟩ := hT
  have X : mCtx p s m (mAv cs.2.1 ad xs).toArray c h k ci N maxL cl D cA cB (va_A (mWs h ci N cA cB ad σ) s.heap.size) cc own C T ty0 := ⟨hx, hb, hml, hown, fun w hw => hts w (List.mem_cons_of_mem _ hw), hK, t1, t2, t3, t4, t5, t6, t7, hA⟩
  have hgo : mGo h k cc bl (cs.2.2.2.2 σ xs) (mW p l e (headSpec (Cond.code y cc maxL ret :: gW) (mRm d)).room s m (mAv cs.2.1 ad xs).toArray below meth c h ci N maxL cl D cA cB ad (va_A (mWs h ci N cA cB ad σ) s.heap.size) (MQ below (mQc cs.2.2.1 (cs.2.2.2.2 σ xs) (fun u t => mAtW h ci N cl D cA cB ad (va_A (mWs h ci N cA cB ad σ) s.heap.size) u t) (va_A (mWs h ci N cA cB ad σ) s.heap.size)) (mAv cs.2.1 ad xs).toArray s 0 0 (va_A (mWs h ci N cA cB ad σ) s.heap.size))) := by
    refine ⟨fun S hS => mSound X hca rfl ?_ ?_ S hS, fun pc lv lv' st σ hle hw => mW_le hle hw⟩
    · intro v u H locs ls pc hdg hv hq hP1 hD1 hS1
      rcases hret with ⟨e1, e2, e3⟩ | ⟨e1, e2, e3⟩ | ⟨e1, e2, e3⟩
      · refine W.zret (ty := .int) hx hb (hr.trans e3) rfl (fun t ht hW => ?_) hS1.2.2 hdg
        rw [e2]
        exact ⟨⟨v, u, rfl, hq, by rw [ht]; exact hP1, va_K.moved hW.alike hK, hD1⟩, hS1.F ht⟩
      · refine W.zret (ty := .boolean) hx hb (hr.trans e3) ?_ (fun t ht hW => ?_) hS1.2.2 hdg
        · rcases hv with hv | hv
          · omega
          · rcases hv.2 with rfl | rfl <;> rfl
        · rw [e2]
          exact ⟨⟨v, u, rfl, hq, by rw [ht]; exact hP1, va_K.moved hW.alike hK, hD1⟩, hS1.F ht⟩
      · exfalso
        rcases hv with hv | hv <;> omega
    · intro u H locs ls pc hdg hv hq hP1 hD1 hS1
      rcases hret with ⟨e1, e2, e3⟩ | ⟨e1, e2, e3⟩ | ⟨e1, e2, e3⟩
      · omega
      · omega
      · refine W.vret hx hb (hr.trans e3) (fun t ht hW => ?_) hS1.2.2 hdg
        rw [e2]
        exact ⟨⟨u, rfl, hq, by rw [ht]; exact hP1, va_K.moved hW.alike hK, hD1⟩, hS1.F ht⟩
  have hfin := pure σ xs hlen hpre _ hgo
  have hlA : (mA0 cs.2.1 xs).length ≤ maxL := by
    unfold mA0
    rw [List.length_append, List.length_map, hlen]
    cases hq : cs.2.1 <;> rw [hq] at hmx <;> simp at hmx ⊢ <;> omega
  have hl := lv_entry (mAv cs.2.1 ad xs) (n := maxL) (by rw [← mA0_cv, mSl, List.length_map]; exact hlA)
  have hls : mLH ad ((lg_sl (mAv cs.2.1 ad xs) ++ List.replicate (maxL - (lg_sl (mAv cs.2.1 ad xs)).length) Slot.unset).toArray) maxL (mEn cs.2.1 maxL xs) := by
    refine ⟨?_, hl.1, hl.2.1, fun i v hi => ?_⟩
    · unfold mEn
      rw [List.length_append, List.length_map, List.length_replicate]
      omega
    · have hv := mAt_en _ _ i v hi
      rw [← mA0_cv, mSl]
      have hil : i < (mA0 cs.2.1 xs).length := (List.getElem?_eq_some_iff.mp hv).1
      rw [List.getElem?_toArray, List.getElem?_append_left (by rw [List.length_map]; exact hil), List.getElem?_map, hv]
      rfl
  rw [lg_entry_eq]
  exact hfin s.heap [] _ hP hD hS hls
end MMEET
end
section
section MRUN
variable {h : mH} {k : mK} {bl : Nat} {cc : ByteArray} {Q : Int32 → mS → Prop} {X Y : mT → Prop} {pc : Nat} {off : Int} {lv : List (Option Value)} {st : List Value} {σ : mS}
theorem mJ_mono (f : ∀ S, Y S → X S) : mJ Y pc off lv st σ → mJ X pc off lv st σ := fun q => ⟨q.1, f _ q.2⟩
theorem mLdI_mono (f : ∀ S, Y S → X S) {j : Nat} : mLdI Y pc lv st σ j → mLdI X pc lv st σ j := by
  unfold mLdI; split
  · exact f _
  · exact id
theorem mLdA_mono (f : ∀ S, Y S → X S) {j : Nat} : mLdA Y pc lv st σ j → mLdA X pc lv st σ j := by
  unfold mLdA; split
  · exact f _
  · exact id
theorem mStI_mono (f : ∀ S, Y S → X S) {j : Nat} : mStI Y pc lv st σ j → mStI X pc lv st σ j := by
  unfold mStI; split
  · split
    · exact f _
    · exact id
  · exact id
theorem mInc_mono (f : ∀ S, Y S → X S) {j : Nat} {v : Int32} : mInc Y pc lv st σ j v → mInc X pc lv st σ j v := by
  unfold mInc; split
  · split
    · exact f _
    · exact id
  · exact id
theorem mBin_mono (f : ∀ S, Y S → X S) {g : Int32 → Int32 → Int32} : mBin Y pc lv st σ g → mBin X pc lv st σ g := by
  unfold mBin; split
  · exact f _
  · exact id
theorem mDiv_mono (f : ∀ S, Y S → X S) {g : Int32 → Int32 → Int32} : mDiv Y pc lv st σ g → mDiv X pc lv st σ g := by
  unfold mDiv; split
  · exact fun q => ⟨q.1, f _ q.2⟩
  · exact id
theorem mIf1_mono (f : ∀ S, Y S → X S) {g : Int32 → Prop} : mIf1 Y pc off lv st σ g → mIf1 X pc off lv st σ g := by
  unfold mIf1; split
  · exact fun q => ⟨q.1, fun z => f _ (q.2.1 z), fun z => f _ (q.2.2 z)⟩
  · exact id
theorem mIf2_mono (f : ∀ S, Y S → X S) {g : Int32 → Int32 → Prop} : mIf2 Y pc off lv st σ g → mIf2 X pc off lv st σ g := by
  unfold mIf2; split
  · exact fun q => ⟨q.1, fun z => f _ (q.2.1 z), fun z => f _ (q.2.2 z)⟩
  · exact id
theorem mIfN1_mono (f : ∀ S, Y S → X S) : mIfN1 Y pc off lv st σ → mIfN1 X pc off lv st σ := by
  unfold mIfN1; split
  · exact fun q => ⟨q.1, fun z => f _ (q.2.1 z), fun z => f _ (q.2.2 z)⟩
  · exact id
theorem mIfN2_mono (f : ∀ S, Y S → X S) : mIfN2 Y pc off lv st σ → mIfN2 X pc off lv st σ := by
  unfold mIfN2; split
  · exact fun q => ⟨q.1, fun z => f _ (q.2.1 z), fun z => f _ (q.2.2 z)⟩
  · exact id
theorem mGet_mono (f : ∀ S, Y S → X S) {j : Nat} : mGet h k Y pc lv st σ j → mGet h k X pc lv st σ j := by
  unfold mGet; split
  · split
    · exact f _
    · exact id
  · exact id
theorem mPut_mono (f : ∀ S, Y S → X S) {j : Nat} : mPut h k Y pc lv st σ j → mPut h k X pc lv st σ j := by
  unfold mPut; split
  · split
    · exact fun q => ⟨q.1, f _ q.2⟩
    · exact id
  · exact id
theorem mLdE_mono (f : ∀ S, Y S → X S) : mLdE h Y pc lv st σ → mLdE h X pc lv st σ := by
  unfold mLdE; split
  · exact fun q => ⟨q.1, q.2.1, f _ q.2.2⟩
  · exact id
theorem mStE_mono (f : ∀ S, Y S → X S) : mStE h Y pc lv st σ → mStE h X pc lv st σ := by
  unfold mStE; split
  · exact fun q => ⟨q.1, q.2.1, f _ q.2.2⟩
  · exact id
theorem mLdR_mono (f : ∀ S, Y S → X S) : mLdR h Y pc lv st σ → mLdR h X pc lv st σ := by
  unfold mLdR; split
  · split
    · exact fun q => ⟨q.1, q.2.1, f _ q.2.2⟩
    · exact id
  · exact id
theorem mKon_mono (f : ∀ S, Y S → X S) {j : Nat} : mKon k Y pc lv st σ j → mKon k X pc lv st σ j := by
  unfold mKon; split
  · exact f _
  · exact id
theorem mDup_mono (f : ∀ S, Y S → X S) : mDup Y pc lv st σ → mDup X pc lv st σ := by
  unfold mDup; split
  · exact f _
  · exact id
theorem mDup2_mono (f : ∀ S, Y S → X S) : mDup2 Y pc lv st σ → mDup2 X pc lv st σ := by
  unfold mDup2; split
  · exact f _
  · exact id
theorem mTab_mono (f : ∀ S, Y S → X S) {x : Int32} : ∀ (os : List Int) (lo : Int), mTab Y pc lv st σ x lo os → mTab X pc lv st σ x lo os
  | [], _, q => q
  | _ :: os, lo, q => ⟨fun z => mJ_mono f (q.1 z), mTab_mono f os (lo + 1) q.2⟩
theorem mTsw_mono (f : ∀ S, Y S → X S) {d lo hi : Int} {os : List Int} : mTsw Y pc lv st σ d lo hi os → mTsw X pc lv st σ d lo hi os := by
  unfold mTsw; split
  · exact fun q => ⟨q.1, fun z => mJ_mono f (q.2.1 z), mTab_mono f _ _ q.2.2⟩
  · exact id
theorem mLk_mono (f : ∀ S, Y S → X S) {x : Int32} {d : Int} : ∀ (ps : List (Int × Int)), mLk Y pc lv st σ x d ps → mLk X pc lv st σ x d ps
  | [], q => mJ_mono f q
  | _ :: ps, q => ⟨fun z => mJ_mono f (q.1 z), fun z => mLk_mono f ps (q.2 z)⟩
theorem mLsw_mono (f : ∀ S, Y S → X S) {d : Int} {ps : List (Int × Int)} : mLsw Y pc lv st σ d ps → mLsw X pc lv st σ d ps := by
  unfold mLsw; split
  · exact fun q => ⟨q.1, mLk_mono f _ q.2⟩
  · exact id
theorem mCaV_mono (f : ∀ S, Y S → X S) {j : Nat} : mCaV k Y pc lv st σ j → mCaV k X pc lv st σ j := by
  unfold mCaV; split
  · split
    · exact fun q => ⟨q.1, q.2.1, fun r u z => f _ (q.2.2 r u z)⟩
    · exact id
  · exact id
theorem mCaS_mono (f : ∀ S, Y S → X S) {j : Nat} : mCaS k Y pc lv st σ j → mCaS k X pc lv st σ j := by
  unfold mCaS; split
  · split
    · exact fun q => ⟨q.1, q.2.1, fun r u z => f _ (q.2.2 r u z)⟩
    · exact id
  · exact id
set_option maxHeartbeats 4000000 in
theorem mIns_mono (f : ∀ S, Y S → X S) {i : Instr} {n : Nat} : mIns h k bl Q Y pc lv st σ i n → mIns h k bl Q X pc lv st σ i n := by
  unfold mIns
  split <;> first | exact f _ | exact mKon_mono f | exact mLdI_mono f | exact mLdA_mono f | exact mStI_mono f | exact mInc_mono f | exact mBin_mono f | exact mDiv_mono f | exact mIf1_mono f | exact mIf2_mono f | exact mIfN1_mono f | exact mIfN2_mono f | exact mJ_mono f | exact mDup_mono f | exact mDup2_mono f | exact mGet_mono f | exact mPut_mono f | exact mLdE_mono f | exact mStE_mono f | exact mLdR_mono f | exact mTsw_mono f | exact mLsw_mono f | exact mCaV_mono f | exact mCaS_mono f | exact id
theorem mStep_mono (f : ∀ S, Y S → X S) {S : mT} : mStep h k cc bl Q Y S → mStep h k cc bl Q X S := by
  unfold mStep
  split
  · exact mIns_mono f
  · exact id
theorem mRun_go (hX : mGo h k cc bl Q X) (cuts : List Nat) : ∀ (n : Nat) (S : mT), mRun h k cc bl Q X cuts n S → X S
  | 0, _, q => q
  | n + 1, S, q => by
    unfold mRun at q
    cases hc : mCut cuts S.1 with
    | true => rw [hc] at q; exact q
    | false =>
      rw [hc] at q
      exact hX.1 S (mStep_mono (mRun_go hX cuts n) q)
/-- walk on: a step, then n more, up to the cuts -/
theorem mWalk (hX : mGo h k cc bl Q X) (cuts : List Nat) (n : Nat) {S : mT} (q : mStep h k cc bl Q (mRun h k cc bl Q X cuts n) S) : X S := hX.1 S (mStep_mono (mRun_go hX cuts n) q)
end MRUN
theorem mCal_nil {h : mH} {ci N : Nat} {cl : List vw_C} {C own : String} {d : Nat} : ∀ j cs, mFind [] j = some cs → mOK h ci N cl C own d j cs := fun j cs q => by simp [mFind] at q
theorem mCal_cons {h : mH} {ci N : Nat} {cl : List vw_C} {C own : String} {d j0 : Nat} {c0 : mC} {r : List (Nat × mC)} (h0 : mOK h ci N cl C own d j0 c0) (hr : ∀ j cs, mFind r j = some cs → mOK h ci N cl C own d j cs) : ∀ j cs, mFind ((j0, c0) :: r) j = some cs → mOK h ci N cl C own d j cs := fun j cs q => by
  unfold mFind at q
  by_cases e : j = j0
  · subst e
    rw [if_pos rfl] at q
    cases q
    exact h0
  · rw [if_neg e] at q
    exact hr j cs q
/-- a loop whose head's state is known by its counter -/
theorem mFor {X : mT → Prop} (n : Nat) (S : Nat → mT) (hend : X (S n)) (hstep : ∀ i, i < n → X (S (i + 1)) → X (S i)) : ∀ i, i ≤ n → X (S i) := by
  have key : ∀ (d i : Nat), i + d = n → X (S i) := by
    intro d
    induction d with
    | zero => intro i hi; rw [show i = n by omega]; exact hend
    | succ d ih => intro i hi; exact hstep i (by omega) (ih (i + 1) (by omega))
  intro i hi
  exact key (n - i) i (by omega)
end
section
def kindX0 : Nat → Option Nat := fun k => match k with
  | 1 => some 1
  | 4 => some 2
  | 5 => some 3
  | 6 => some 4
  | 8 => some 5
  | 9 => some 6
  | 10 => some 7
  | 11 => some 8
  | 12 => some 9
  | 13 => some 10
  | 14 => some 11
  | _ => none
def lenX0 : Nat → Nat := fun k => match k with
  | 1 => 4
  | 2 => 12
  | 3 => 4
  | 4 => 12
  | 5 => 60
  | 6 => 60
  | 7 => 60
  | 8 => 8
  | 9 => 8
  | 10 => 8
  | 11 => 12
  | _ => 12
def outX0 : Nat → Option Nat := fun k => match k with
  | 9 => some 12
  | 10 => some 20
  | _ => none
def hX0 : mH := (kindX0, 27, lenX0, outX0)
def fldX0 : Nat → Option Nat := fun k => match k with
  | 18 => some 1
  | 21 => some 4
  | 24 => some 5
  | 27 => some 6
  | 30 => some 8
  | 33 => some 9
  | 36 => some 10
  | 39 => some 11
  | 44 => some 12
  | 47 => some 13
  | 50 => some 14
  | 53 => some 2
  | 57 => some 0
  | 60 => some 3
  | 83 => some 7
  | _ => none
def konX0 : Nat → Option Int32 := fun k => match k with
  | 117 => some (-1000001)
  | _ => none
def kX0 (cal : List (Nat × mC)) : mK := (fldX0, konX0, cal)
theorem fX0_18 (cal : List (Nat × mC)) : (kX0 cal).1 18 = some 1 := rfl
theorem fX0_21 (cal : List (Nat × mC)) : (kX0 cal).1 21 = some 4 := rfl
theorem fX0_24 (cal : List (Nat × mC)) : (kX0 cal).1 24 = some 5 := rfl
theorem fX0_27 (cal : List (Nat × mC)) : (kX0 cal).1 27 = some 6 := rfl
theorem fX0_30 (cal : List (Nat × mC)) : (kX0 cal).1 30 = some 8 := rfl
theorem fX0_33 (cal : List (Nat × mC)) : (kX0 cal).1 33 = some 9 := rfl
theorem fX0_36 (cal : List (Nat × mC)) : (kX0 cal).1 36 = some 10 := rfl
theorem fX0_39 (cal : List (Nat × mC)) : (kX0 cal).1 39 = some 11 := rfl
theorem fX0_44 (cal : List (Nat × mC)) : (kX0 cal).1 44 = some 12 := rfl
theorem fX0_47 (cal : List (Nat × mC)) : (kX0 cal).1 47 = some 13 := rfl
theorem fX0_50 (cal : List (Nat × mC)) : (kX0 cal).1 50 = some 14 := rfl
theorem fX0_53 (cal : List (Nat × mC)) : (kX0 cal).1 53 = some 2 := rfl
theorem fX0_57 (cal : List (Nat × mC)) : (kX0 cal).1 57 = some 0 := rfl
theorem fX0_60 (cal : List (Nat × mC)) : (kX0 cal).1 60 = some 3 := rfl
theorem fX0_83 (cal : List (Nat × mC)) : (kX0 cal).1 83 = some 7 := rfl
theorem oX0_117 (cal : List (Nat × mC)) : (kX0 cal).2.1 117 = some (-1000001) := rfl
theorem cX0_c (cal : List (Nat × mC)) : (kX0 cal).2.2 = cal := rfl
theorem vX0_0 (σ : mS) : mFv hX0 σ 0 = .int (σ.1 0) := rfl
theorem nX0_0 : hX0.1 0 = none := rfl
theorem vX0_1 (σ : mS) : mFv hX0 σ 1 = .ref 1 := rfl
theorem vX0_2 (σ : mS) : mFv hX0 σ 2 = .int (σ.1 2) := rfl
theorem nX0_2 : hX0.1 2 = none := rfl
theorem vX0_3 (σ : mS) : mFv hX0 σ 3 = .int (σ.1 3) := rfl
theorem nX0_3 : hX0.1 3 = none := rfl
theorem vX0_4 (σ : mS) : mFv hX0 σ 4 = .ref 2 := rfl
theorem vX0_5 (σ : mS) : mFv hX0 σ 5 = .ref 3 := rfl
theorem vX0_6 (σ : mS) : mFv hX0 σ 6 = .ref 4 := rfl
theorem vX0_7 (σ : mS) : mFv hX0 σ 7 = .int (σ.1 7) := rfl
theorem nX0_7 : hX0.1 7 = none := rfl
theorem vX0_8 (σ : mS) : mFv hX0 σ 8 = .ref 5 := rfl
theorem vX0_9 (σ : mS) : mFv hX0 σ 9 = .ref 6 := rfl
theorem vX0_10 (σ : mS) : mFv hX0 σ 10 = .ref 7 := rfl
theorem vX0_11 (σ : mS) : mFv hX0 σ 11 = .ref 8 := rfl
theorem vX0_12 (σ : mS) : mFv hX0 σ 12 = .ref 9 := rfl
theorem vX0_13 (σ : mS) : mFv hX0 σ 13 = .ref 10 := rfl
theorem vX0_14 (σ : mS) : mFv hX0 σ 14 = .ref 11 := rfl
theorem lX0_1 : hX0.2.2.1 1 = 4 := rfl
theorem aX0_1 : mIsA hX0 1 := ⟨by decide, rfl⟩
theorem lX0_2 : hX0.2.2.1 2 = 12 := rfl
theorem aX0_2 : mIsA hX0 2 := ⟨by decide, rfl⟩
theorem lX0_3 : hX0.2.2.1 3 = 4 := rfl
theorem aX0_3 : mIsA hX0 3 := ⟨by decide, rfl⟩
theorem lX0_4 : hX0.2.2.1 4 = 12 := rfl
theorem aX0_4 : mIsA hX0 4 := ⟨by decide, rfl⟩
theorem lX0_5 : hX0.2.2.1 5 = 60 := rfl
theorem aX0_5 : mIsA hX0 5 := ⟨by decide, rfl⟩
theorem lX0_6 : hX0.2.2.1 6 = 60 := rfl
theorem aX0_6 : mIsA hX0 6 := ⟨by decide, rfl⟩
theorem lX0_7 : hX0.2.2.1 7 = 60 := rfl
theorem aX0_7 : mIsA hX0 7 := ⟨by decide, rfl⟩
theorem lX0_8 : hX0.2.2.1 8 = 8 := rfl
theorem aX0_8 : mIsA hX0 8 := ⟨by decide, rfl⟩
theorem lX0_9 : hX0.2.2.1 9 = 8 := rfl
theorem rX0_9 : hX0.2.2.2 9 = some 12 := rfl
theorem lX0_10 : hX0.2.2.1 10 = 8 := rfl
theorem rX0_10 : hX0.2.2.2 10 = some 20 := rfl
theorem lX0_11 : hX0.2.2.1 11 = 12 := rfl
theorem aX0_11 : mIsA hX0 11 := ⟨by decide, rfl⟩
theorem gX0_n : hX0.2.1 = 27 := rfl
def kindX1 : Nat → Option Nat := fun k => match k with
  | 8 => some 1
  | 9 => some 2
  | 10 => some 3
  | 11 => some 4
  | 12 => some 5
  | 13 => some 6
  | 14 => some 7
  | 15 => some 8
  | 16 => some 9
  | 17 => some 10
  | _ => none
def lenX1 : Nat → Nat := fun k => match k with
  | 1 => 12
  | 2 => 12
  | 3 => 12
  | 4 => 60
  | 5 => 60
  | 6 => 60
  | 7 => 8
  | 8 => 96
  | 9 => 96
  | 10 => 12
  | _ => 0
def outX1 : Nat → Option Nat := fun k => match k with
  | _ => none
def hX1 : mH := (kindX1, 10, lenX1, outX1)
def fldX1 : Nat → Option Nat := fun k => match k with
  | 7 => some 3
  | 13 => some 4
  | 16 => some 5
  | 19 => some 6
  | 22 => some 8
  | 26 => some 9
  | 29 => some 10
  | 32 => some 11
  | 35 => some 12
  | 38 => some 13
  | 41 => some 14
  | 44 => some 15
  | 47 => some 16
  | 50 => some 17
  | 53 => some 0
  | 60 => some 1
  | 63 => some 7
  | 73 => some 2
  | 105 => some 18
  | 108 => some 19
  | _ => none
def konX1 : Nat → Option Int32 := fun k => match k with
  | 94 => some (-1000001)
  | _ => none
def kX1 (cal : List (Nat × mC)) : mK := (fldX1, konX1, cal)
theorem fX1_7 (cal : List (Nat × mC)) : (kX1 cal).1 7 = some 3 := rfl
theorem fX1_13 (cal : List (Nat × mC)) : (kX1 cal).1 13 = some 4 := rfl
theorem fX1_16 (cal : List (Nat × mC)) : (kX1 cal).1 16 = some 5 := rfl
theorem fX1_19 (cal : List (Nat × mC)) : (kX1 cal).1 19 = some 6 := rfl
theorem fX1_22 (cal : List (Nat × mC)) : (kX1 cal).1 22 = some 8 := rfl
theorem fX1_26 (cal : List (Nat × mC)) : (kX1 cal).1 26 = some 9 := rfl
theorem fX1_29 (cal : List (Nat × mC)) : (kX1 cal).1 29 = some 10 := rfl
theorem fX1_32 (cal : List (Nat × mC)) : (kX1 cal).1 32 = some 11 := rfl
theorem fX1_35 (cal : List (Nat × mC)) : (kX1 cal).1 35 = some 12 := rfl
theorem fX1_38 (cal : List (Nat × mC)) : (kX1 cal).1 38 = some 13 := rfl
theorem fX1_41 (cal : List (Nat × mC)) : (kX1 cal).1 41 = some 14 := rfl
theorem fX1_44 (cal : List (Nat × mC)) : (kX1 cal).1 44 = some 15 := rfl
theorem fX1_47 (cal : List (Nat × mC)) : (kX1 cal).1 47 = some 16 := rfl
theorem fX1_50 (cal : List (Nat × mC)) : (kX1 cal).1 50 = some 17 := rfl
theorem fX1_53 (cal : List (Nat × mC)) : (kX1 cal).1 53 = some 0 := rfl
theorem fX1_60 (cal : List (Nat × mC)) : (kX1 cal).1 60 = some 1 := rfl
theorem fX1_63 (cal : List (Nat × mC)) : (kX1 cal).1 63 = some 7 := rfl
theorem fX1_73 (cal : List (Nat × mC)) : (kX1 cal).1 73 = some 2 := rfl
theorem fX1_105 (cal : List (Nat × mC)) : (kX1 cal).1 105 = some 18 := rfl
theorem fX1_108 (cal : List (Nat × mC)) : (kX1 cal).1 108 = some 19 := rfl
theorem oX1_94 (cal : List (Nat × mC)) : (kX1 cal).2.1 94 = some (-1000001) := rfl
theorem cX1_c (cal : List (Nat × mC)) : (kX1 cal).2.2 = cal := rfl
theorem vX1_0 (σ : mS) : mFv hX1 σ 0 = .int (σ.1 0) := rfl
theorem nX1_0 : hX1.1 0 = none := rfl
theorem vX1_1 (σ : mS) : mFv hX1 σ 1 = .int (σ.1 1) := rfl
theorem nX1_1 : hX1.1 1 = none := rfl
theorem vX1_2 (σ : mS) : mFv hX1 σ 2 = .int (σ.1 2) := rfl
theorem nX1_2 : hX1.1 2 = none := rfl
theorem vX1_3 (σ : mS) : mFv hX1 σ 3 = .int (σ.1 3) := rfl
theorem nX1_3 : hX1.1 3 = none := rfl
theorem vX1_4 (σ : mS) : mFv hX1 σ 4 = .int (σ.1 4) := rfl
theorem nX1_4 : hX1.1 4 = none := rfl
theorem vX1_5 (σ : mS) : mFv hX1 σ 5 = .int (σ.1 5) := rfl
theorem nX1_5 : hX1.1 5 = none := rfl
theorem vX1_6 (σ : mS) : mFv hX1 σ 6 = .int (σ.1 6) := rfl
theorem nX1_6 : hX1.1 6 = none := rfl
theorem vX1_7 (σ : mS) : mFv hX1 σ 7 = .int (σ.1 7) := rfl
theorem nX1_7 : hX1.1 7 = none := rfl
theorem vX1_8 (σ : mS) : mFv hX1 σ 8 = .ref 1 := rfl
theorem vX1_9 (σ : mS) : mFv hX1 σ 9 = .ref 2 := rfl
theorem vX1_10 (σ : mS) : mFv hX1 σ 10 = .ref 3 := rfl
theorem vX1_11 (σ : mS) : mFv hX1 σ 11 = .ref 4 := rfl
theorem vX1_12 (σ : mS) : mFv hX1 σ 12 = .ref 5 := rfl
theorem vX1_13 (σ : mS) : mFv hX1 σ 13 = .ref 6 := rfl
theorem vX1_14 (σ : mS) : mFv hX1 σ 14 = .ref 7 := rfl
theorem vX1_15 (σ : mS) : mFv hX1 σ 15 = .ref 8 := rfl
theorem vX1_16 (σ : mS) : mFv hX1 σ 16 = .ref 9 := rfl
theorem vX1_17 (σ : mS) : mFv hX1 σ 17 = .ref 10 := rfl
theorem vX1_18 (σ : mS) : mFv hX1 σ 18 = .int (σ.1 18) := rfl
theorem nX1_18 : hX1.1 18 = none := rfl
theorem vX1_19 (σ : mS) : mFv hX1 σ 19 = .int (σ.1 19) := rfl
theorem nX1_19 : hX1.1 19 = none := rfl
theorem lX1_1 : hX1.2.2.1 1 = 12 := rfl
theorem aX1_1 : mIsA hX1 1 := ⟨by decide, rfl⟩
theorem lX1_2 : hX1.2.2.1 2 = 12 := rfl
theorem aX1_2 : mIsA hX1 2 := ⟨by decide, rfl⟩
theorem lX1_3 : hX1.2.2.1 3 = 12 := rfl
theorem aX1_3 : mIsA hX1 3 := ⟨by decide, rfl⟩
theorem lX1_4 : hX1.2.2.1 4 = 60 := rfl
theorem aX1_4 : mIsA hX1 4 := ⟨by decide, rfl⟩
theorem lX1_5 : hX1.2.2.1 5 = 60 := rfl
theorem aX1_5 : mIsA hX1 5 := ⟨by decide, rfl⟩
theorem lX1_6 : hX1.2.2.1 6 = 60 := rfl
theorem aX1_6 : mIsA hX1 6 := ⟨by decide, rfl⟩
theorem lX1_7 : hX1.2.2.1 7 = 8 := rfl
theorem aX1_7 : mIsA hX1 7 := ⟨by decide, rfl⟩
theorem lX1_8 : hX1.2.2.1 8 = 96 := rfl
theorem aX1_8 : mIsA hX1 8 := ⟨by decide, rfl⟩
theorem lX1_9 : hX1.2.2.1 9 = 96 := rfl
theorem aX1_9 : mIsA hX1 9 := ⟨by decide, rfl⟩
theorem lX1_10 : hX1.2.2.1 10 = 12 := rfl
theorem aX1_10 : mIsA hX1 10 := ⟨by decide, rfl⟩
theorem gX1_n : hX1.2.1 = 10 := rfl
abbrev vwC : List vw_C := [(RX0, TX0, 15), (RX1, TX1, 20)]
theorem aX0_row {i : Nat} (h : 12 ≤ i ∧ i ≤ 27) : mIsA hX0 i := by
  refine ⟨⟨by omega, h.2⟩, ?_⟩
  show outX0 i = none
  unfold outX0
  split
  · omega
  · omega
  · rfl
theorem lX0_row {i : Nat} (h : 12 ≤ i ∧ i ≤ 27) : hX0.2.2.1 i = 12 := by
  show lenX0 i = 12
  unfold lenX0
  split <;> first | omega | rfl
set_option maxRecDepth 100000 in
theorem usX0 : ∀ w ∈ u_ws RX0 TX0 15, w ∈ gW := by decide +kernel
set_option maxRecDepth 100000 in
theorem fwX0_18 : Cond.fieldLink RX0 18 RX0 (TX0 1).2.1 (TX0 1).2.2.1 ∈ gW := by decide +kernel
set_option maxRecDepth 100000 in
theorem fwX0_21 : Cond.fieldLink RX0 21 RX0 (TX0 4).2.1 (TX0 4).2.2.1 ∈ gW := by decide +kernel
set_option maxRecDepth 100000 in
theorem fwX0_24 : Cond.fieldLink RX0 24 RX0 (TX0 5).2.1 (TX0 5).2.2.1 ∈ gW := by decide +kernel
set_option maxRecDepth 100000 in
theorem fwX0_27 : Cond.fieldLink RX0 27 RX0 (TX0 6).2.1 (TX0 6).2.2.1 ∈ gW := by decide +kernel
set_option maxRecDepth 100000 in
theorem fwX0_30 : Cond.fieldLink RX0 30 RX0 (TX0 8).2.1 (TX0 8).2.2.1 ∈ gW := by decide +kernel
set_option maxRecDepth 100000 in
theorem fwX0_33 : Cond.fieldLink RX0 33 RX0 (TX0 9).2.1 (TX0 9).2.2.1 ∈ gW := by decide +kernel
set_option maxRecDepth 100000 in
theorem fwX0_36 : Cond.fieldLink RX0 36 RX0 (TX0 10).2.1 (TX0 10).2.2.1 ∈ gW := by decide +kernel
set_option maxRecDepth 100000 in
theorem fwX0_39 : Cond.fieldLink RX0 39 RX0 (TX0 11).2.1 (TX0 11).2.2.1 ∈ gW := by decide +kernel
set_option maxRecDepth 100000 in
theorem fwX0_44 : Cond.fieldLink RX0 44 RX0 (TX0 12).2.1 (TX0 12).2.2.1 ∈ gW := by decide +kernel
set_option maxRecDepth 100000 in
theorem fwX0_47 : Cond.fieldLink RX0 47 RX0 (TX0 13).2.1 (TX0 13).2.2.1 ∈ gW := by decide +kernel
set_option maxRecDepth 100000 in
theorem fwX0_50 : Cond.fieldLink RX0 50 RX0 (TX0 14).2.1 (TX0 14).2.2.1 ∈ gW := by decide +kernel
set_option maxRecDepth 100000 in
theorem fwX0_53 : Cond.fieldLink RX0 53 RX0 (TX0 2).2.1 (TX0 2).2.2.1 ∈ gW := by decide +kernel
set_option maxRecDepth 100000 in
theorem fwX0_57 : Cond.fieldLink RX0 57 RX0 (TX0 0).2.1 (TX0 0).2.2.1 ∈ gW := by decide +kernel
set_option maxRecDepth 100000 in
theorem fwX0_60 : Cond.fieldLink RX0 60 RX0 (TX0 3).2.1 (TX0 3).2.2.1 ∈ gW := by decide +kernel
set_option maxRecDepth 100000 in
theorem fwX0_83 : Cond.fieldLink RX0 83 RX0 (TX0 7).2.1 (TX0 7).2.2.1 ∈ gW := by decide +kernel
set_option maxRecDepth 100000 in
theorem owX0_117 : Cond.constant RX0 117 (-1000001) ∈ gW := by decide +kernel
theorem tbX0 (cal : List (Nat × mC)) : mTb hX0 (kX0 cal) 0 15 vwC RX0 RX0 TX0 tyX0 := by
  refine ⟨rfl, usX0, tyX0_ok, nmX0, ?_, ?_, ?_⟩
  · intro j sl hj
    change fldX0 j = some sl at hj
    unfold fldX0 at hj
    split at hj
    · cases hj; exact ⟨by decide, rfl, fwX0_18⟩
    · cases hj; exact ⟨by decide, rfl, fwX0_21⟩
    · cases hj; exact ⟨by decide, rfl, fwX0_24⟩
    · cases hj; exact ⟨by decide, rfl, fwX0_27⟩
    · cases hj; exact ⟨by decide, rfl, fwX0_30⟩
    · cases hj; exact ⟨by decide, rfl, fwX0_33⟩
    · cases hj; exact ⟨by decide, rfl, fwX0_36⟩
    · cases hj; exact ⟨by decide, rfl, fwX0_39⟩
    · cases hj; exact ⟨by decide, rfl, fwX0_44⟩
    · cases hj; exact ⟨by decide, rfl, fwX0_47⟩
    · cases hj; exact ⟨by decide, rfl, fwX0_50⟩
    · cases hj; exact ⟨by decide, rfl, fwX0_53⟩
    · cases hj; exact ⟨by decide, rfl, fwX0_57⟩
    · cases hj; exact ⟨by decide, rfl, fwX0_60⟩
    · cases hj; exact ⟨by decide, rfl, fwX0_83⟩
    · cases hj
  · have key : ∀ sl, sl < 15 → kindX0 sl = none → (TX0 sl).2.2.2 = false ∧ parseFieldDescriptor (TX0 sl).2.2.1 = some .int := by decide +kernel
    exact key
  · intro j v hj
    change konX0 j = some v at hj
    unfold konX0 at hj
    split at hj
    · cases hj; exact owX0_117
    · cases hj
set_option maxRecDepth 100000 in
theorem usX1 : ∀ w ∈ u_ws RX1 TX1 20, w ∈ gW := by decide +kernel
set_option maxRecDepth 100000 in
theorem fwX1_7 : Cond.fieldLink RX1 7 RX1 (TX1 3).2.1 (TX1 3).2.2.1 ∈ gW := by decide +kernel
set_option maxRecDepth 100000 in
theorem fwX1_13 : Cond.fieldLink RX1 13 RX1 (TX1 4).2.1 (TX1 4).2.2.1 ∈ gW := by decide +kernel
set_option maxRecDepth 100000 in
theorem fwX1_16 : Cond.fieldLink RX1 16 RX1 (TX1 5).2.1 (TX1 5).2.2.1 ∈ gW := by decide +kernel
set_option maxRecDepth 100000 in
theorem fwX1_19 : Cond.fieldLink RX1 19 RX1 (TX1 6).2.1 (TX1 6).2.2.1 ∈ gW := by decide +kernel
set_option maxRecDepth 100000 in
theorem fwX1_22 : Cond.fieldLink RX1 22 RX1 (TX1 8).2.1 (TX1 8).2.2.1 ∈ gW := by decide +kernel
set_option maxRecDepth 100000 in
theorem fwX1_26 : Cond.fieldLink RX1 26 RX1 (TX1 9).2.1 (TX1 9).2.2.1 ∈ gW := by decide +kernel
set_option maxRecDepth 100000 in
theorem fwX1_29 : Cond.fieldLink RX1 29 RX1 (TX1 10).2.1 (TX1 10).2.2.1 ∈ gW := by decide +kernel
set_option maxRecDepth 100000 in
theorem fwX1_32 : Cond.fieldLink RX1 32 RX1 (TX1 11).2.1 (TX1 11).2.2.1 ∈ gW := by decide +kernel
set_option maxRecDepth 100000 in
theorem fwX1_35 : Cond.fieldLink RX1 35 RX1 (TX1 12).2.1 (TX1 12).2.2.1 ∈ gW := by decide +kernel
set_option maxRecDepth 100000 in
theorem fwX1_38 : Cond.fieldLink RX1 38 RX1 (TX1 13).2.1 (TX1 13).2.2.1 ∈ gW := by decide +kernel
set_option maxRecDepth 100000 in
theorem fwX1_41 : Cond.fieldLink RX1 41 RX1 (TX1 14).2.1 (TX1 14).2.2.1 ∈ gW := by decide +kernel
set_option maxRecDepth 100000 in
theorem fwX1_44 : Cond.fieldLink RX1 44 RX1 (TX1 15).2.1 (TX1 15).2.2.1 ∈ gW := by decide +kernel
set_option maxRecDepth 100000 in
theorem fwX1_47 : Cond.fieldLink RX1 47 RX1 (TX1 16).2.1 (TX1 16).2.2.1 ∈ gW := by decide +kernel
set_option maxRecDepth 100000 in
theorem fwX1_50 : Cond.fieldLink RX1 50 RX1 (TX1 17).2.1 (TX1 17).2.2.1 ∈ gW := by decide +kernel
set_option maxRecDepth 100000 in
theorem fwX1_53 : Cond.fieldLink RX1 53 RX1 (TX1 0).2.1 (TX1 0).2.2.1 ∈ gW := by decide +kernel
set_option maxRecDepth 100000 in
theorem fwX1_60 : Cond.fieldLink RX1 60 RX1 (TX1 1).2.1 (TX1 1).2.2.1 ∈ gW := by decide +kernel
set_option maxRecDepth 100000 in
theorem fwX1_63 : Cond.fieldLink RX1 63 RX1 (TX1 7).2.1 (TX1 7).2.2.1 ∈ gW := by decide +kernel
set_option maxRecDepth 100000 in
theorem fwX1_73 : Cond.fieldLink RX1 73 RX1 (TX1 2).2.1 (TX1 2).2.2.1 ∈ gW := by decide +kernel
set_option maxRecDepth 100000 in
theorem fwX1_105 : Cond.fieldLink RX1 105 RX1 (TX1 18).2.1 (TX1 18).2.2.1 ∈ gW := by decide +kernel
set_option maxRecDepth 100000 in
theorem fwX1_108 : Cond.fieldLink RX1 108 RX1 (TX1 19).2.1 (TX1 19).2.2.1 ∈ gW := by decide +kernel
set_option maxRecDepth 100000 in
theorem owX1_94 : Cond.constant RX1 94 (-1000001) ∈ gW := by decide +kernel
theorem tbX1 (cal : List (Nat × mC)) : mTb hX1 (kX1 cal) 1 20 vwC RX1 RX1 TX1 tyX1 := by
  refine ⟨rfl, usX1, tyX1_ok, nmX1, ?_, ?_, ?_⟩
  · intro j sl hj
    change fldX1 j = some sl at hj
    unfold fldX1 at hj
    split at hj
    · cases hj; exact ⟨by decide, rfl, fwX1_7⟩
    · cases hj; exact ⟨by decide, rfl, fwX1_13⟩
    · cases hj; exact ⟨by decide, rfl, fwX1_16⟩
    · cases hj; exact ⟨by decide, rfl, fwX1_19⟩
    · cases hj; exact ⟨by decide, rfl, fwX1_22⟩
    · cases hj; exact ⟨by decide, rfl, fwX1_26⟩
    · cases hj; exact ⟨by decide, rfl, fwX1_29⟩
    · cases hj; exact ⟨by decide, rfl, fwX1_32⟩
    · cases hj; exact ⟨by decide, rfl, fwX1_35⟩
    · cases hj; exact ⟨by decide, rfl, fwX1_38⟩
    · cases hj; exact ⟨by decide, rfl, fwX1_41⟩
    · cases hj; exact ⟨by decide, rfl, fwX1_44⟩
    · cases hj; exact ⟨by decide, rfl, fwX1_47⟩
    · cases hj; exact ⟨by decide, rfl, fwX1_50⟩
    · cases hj; exact ⟨by decide, rfl, fwX1_53⟩
    · cases hj; exact ⟨by decide, rfl, fwX1_60⟩
    · cases hj; exact ⟨by decide, rfl, fwX1_63⟩
    · cases hj; exact ⟨by decide, rfl, fwX1_73⟩
    · cases hj; exact ⟨by decide, rfl, fwX1_105⟩
    · cases hj; exact ⟨by decide, rfl, fwX1_108⟩
    · cases hj
  · have key : ∀ sl, sl < 20 → kindX1 sl = none → (TX1 sl).2.2.2 = false ∧ parseFieldDescriptor (TX1 sl).2.2.1 = some .int := by decide +kernel
    exact key
  · intro j v hj
    change konX1 j = some v at hj
    unfold konX1 at hj
    split at hj
    · cases hj; exact owX1_94
    · cases hj
end
section
theorem mx_fv0 : ((0 : Fin 4) : Nat) = 0 := rfl
theorem mx_fv1 : ((1 : Fin 4) : Nat) = 1 := rfl
theorem mx_fv2 : ((2 : Fin 4) : Nat) = 2 := rfl
theorem mx_fv3 : ((3 : Fin 4) : Nat) = 3 := rfl
theorem mx_cm1 : Int32.ofInt (-1) = -1 := by decide +kernel
theorem mx_c0 : Int32.ofInt (0) = 0 := by decide +kernel
theorem mx_c1 : Int32.ofInt (1) = 1 := by decide +kernel
theorem mx_c2 : Int32.ofInt (2) = 2 := by decide +kernel
theorem mx_c3 : Int32.ofInt (3) = 3 := by decide +kernel
theorem mx_c4 : Int32.ofInt (4) = 4 := by decide +kernel
theorem mx_c5 : Int32.ofInt (5) = 5 := by decide +kernel
theorem mx_b7 : (Int8.ofInt (7)).toInt32 = 7 := by decide +kernel
theorem mx_b8 : (Int8.ofInt (8)).toInt32 = 8 := by decide +kernel
theorem mx_b9 : (Int8.ofInt (9)).toInt32 = 9 := by decide +kernel
theorem mx_b10 : (Int8.ofInt (10)).toInt32 = 10 := by decide +kernel
theorem mx_b12 : (Int8.ofInt (12)).toInt32 = 12 := by decide +kernel
theorem mx_b16 : (Int8.ofInt (16)).toInt32 = 16 := by decide +kernel
theorem mx_b28 : (Int8.ofInt (28)).toInt32 = 28 := by decide +kernel
theorem mx_b31 : (Int8.ofInt (31)).toInt32 = 31 := by decide +kernel
theorem mx_b60 : (Int8.ofInt (60)).toInt32 = 60 := by decide +kernel
theorem mx_b63 : (Int8.ofInt (63)).toInt32 = 63 := by decide +kernel
theorem mx_b96 : (Int8.ofInt (96)).toInt32 = 96 := by decide +kernel
theorem mx_s1000 : (Int16.ofInt (1000)).toInt32 = 1000 := by decide +kernel
theorem mx_s9999 : (Int16.ofInt (9999)).toInt32 = 9999 := by decide +kernel
theorem jt_1_13 : mTg 1 (13) = 14 := by decide
theorem jp_1_13 : (0 ≤ ((1 : Nat) : Int) + (13)) = True := by decide
theorem jt_1_15 : mTg 1 (15) = 16 := by decide
theorem jp_1_15 : (0 ≤ ((1 : Nat) : Int) + (15)) = True := by decide
theorem jt_1_17 : mTg 1 (17) = 18 := by decide
theorem jp_1_17 : (0 ≤ ((1 : Nat) : Int) + (17)) = True := by decide
theorem jt_1_22 : mTg 1 (22) = 23 := by decide
theorem jp_1_22 : (0 ≤ ((1 : Nat) : Int) + (22)) = True := by decide
theorem jt_1_51 : mTg 1 (51) = 52 := by decide
theorem jp_1_51 : (0 ≤ ((1 : Nat) : Int) + (51)) = True := by decide
theorem jt_1_56 : mTg 1 (56) = 57 := by decide
theorem jp_1_56 : (0 ≤ ((1 : Nat) : Int) + (56)) = True := by decide
theorem jt_1_61 : mTg 1 (61) = 62 := by decide
theorem jp_1_61 : (0 ≤ ((1 : Nat) : Int) + (61)) = True := by decide
theorem jt_1_66 : mTg 1 (66) = 67 := by decide
theorem jp_1_66 : (0 ≤ ((1 : Nat) : Int) + (66)) = True := by decide
theorem jt_1_71 : mTg 1 (71) = 72 := by decide
theorem jp_1_71 : (0 ≤ ((1 : Nat) : Int) + (71)) = True := by decide
theorem jt_1_73 : mTg 1 (73) = 74 := by decide
theorem jp_1_73 : (0 ≤ ((1 : Nat) : Int) + (73)) = True := by decide
theorem jt_1_76 : mTg 1 (76) = 77 := by decide
theorem jp_1_76 : (0 ≤ ((1 : Nat) : Int) + (76)) = True := by decide
theorem jt_1_80 : mTg 1 (80) = 81 := by decide
theorem jp_1_80 : (0 ≤ ((1 : Nat) : Int) + (80)) = True := by decide
theorem jt_1_81 : mTg 1 (81) = 82 := by decide
theorem jp_1_81 : (0 ≤ ((1 : Nat) : Int) + (81)) = True := by decide
theorem jt_1_86 : mTg 1 (86) = 87 := by decide
theorem jp_1_86 : (0 ≤ ((1 : Nat) : Int) + (86)) = True := by decide
theorem jt_1_87 : mTg 1 (87) = 88 := by decide
theorem jp_1_87 : (0 ≤ ((1 : Nat) : Int) + (87)) = True := by decide
theorem jt_1_91 : mTg 1 (91) = 92 := by decide
theorem jp_1_91 : (0 ≤ ((1 : Nat) : Int) + (91)) = True := by decide
theorem jt_1_94 : mTg 1 (94) = 95 := by decide
theorem jp_1_94 : (0 ≤ ((1 : Nat) : Int) + (94)) = True := by decide
theorem jt_1_96 : mTg 1 (96) = 97 := by decide
theorem jp_1_96 : (0 ≤ ((1 : Nat) : Int) + (96)) = True := by decide
theorem jt_1_99 : mTg 1 (99) = 100 := by decide
theorem jp_1_99 : (0 ≤ ((1 : Nat) : Int) + (99)) = True := by decide
theorem jt_1_104 : mTg 1 (104) = 105 := by decide
theorem jp_1_104 : (0 ≤ ((1 : Nat) : Int) + (104)) = True := by decide
theorem jt_2_7 : mTg 2 (7) = 9 := by decide
theorem jp_2_7 : (0 ≤ ((2 : Nat) : Int) + (7)) = True := by decide
theorem jt_2_12 : mTg 2 (12) = 14 := by decide
theorem jp_2_12 : (0 ≤ ((2 : Nat) : Int) + (12)) = True := by decide
theorem jt_4_5 : mTg 4 (5) = 9 := by decide
theorem jp_4_5 : (0 ≤ ((4 : Nat) : Int) + (5)) = True := by decide
theorem jt_4_11 : mTg 4 (11) = 15 := by decide
theorem jp_4_11 : (0 ≤ ((4 : Nat) : Int) + (11)) = True := by decide
theorem jt_4_12 : mTg 4 (12) = 16 := by decide
theorem jp_4_12 : (0 ≤ ((4 : Nat) : Int) + (12)) = True := by decide
theorem jt_4_17 : mTg 4 (17) = 21 := by decide
theorem jp_4_17 : (0 ≤ ((4 : Nat) : Int) + (17)) = True := by decide
theorem jt_4_20 : mTg 4 (20) = 24 := by decide
theorem jp_4_20 : (0 ≤ ((4 : Nat) : Int) + (20)) = True := by decide
theorem jt_4_24 : mTg 4 (24) = 28 := by decide
theorem jp_4_24 : (0 ≤ ((4 : Nat) : Int) + (24)) = True := by decide
theorem jt_4_28 : mTg 4 (28) = 32 := by decide
theorem jp_4_28 : (0 ≤ ((4 : Nat) : Int) + (28)) = True := by decide
theorem jt_4_31 : mTg 4 (31) = 35 := by decide
theorem jp_4_31 : (0 ≤ ((4 : Nat) : Int) + (31)) = True := by decide
theorem jt_4_68 : mTg 4 (68) = 72 := by decide
theorem jp_4_68 : (0 ≤ ((4 : Nat) : Int) + (68)) = True := by decide
theorem jt_5_5 : mTg 5 (5) = 10 := by decide
theorem jp_5_5 : (0 ≤ ((5 : Nat) : Int) + (5)) = True := by decide
theorem jt_5_11 : mTg 5 (11) = 16 := by decide
theorem jp_5_11 : (0 ≤ ((5 : Nat) : Int) + (11)) = True := by decide
theorem jt_5_15 : mTg 5 (15) = 20 := by decide
theorem jp_5_15 : (0 ≤ ((5 : Nat) : Int) + (15)) = True := by decide
theorem jt_5_17 : mTg 5 (17) = 22 := by decide
theorem jp_5_17 : (0 ≤ ((5 : Nat) : Int) + (17)) = True := by decide
theorem jt_5_20 : mTg 5 (20) = 25 := by decide
theorem jp_5_20 : (0 ≤ ((5 : Nat) : Int) + (20)) = True := by decide
theorem jt_5_24 : mTg 5 (24) = 29 := by decide
theorem jp_5_24 : (0 ≤ ((5 : Nat) : Int) + (24)) = True := by decide
theorem jt_5_25 : mTg 5 (25) = 30 := by decide
theorem jp_5_25 : (0 ≤ ((5 : Nat) : Int) + (25)) = True := by decide
theorem jt_5_39 : mTg 5 (39) = 44 := by decide
theorem jp_5_39 : (0 ≤ ((5 : Nat) : Int) + (39)) = True := by decide
theorem jt_6_4 : mTg 6 (4) = 10 := by decide
theorem jp_6_4 : (0 ≤ ((6 : Nat) : Int) + (4)) = True := by decide
theorem jt_6_5 : mTg 6 (5) = 11 := by decide
theorem jp_6_5 : (0 ≤ ((6 : Nat) : Int) + (5)) = True := by decide
theorem jt_6_7 : mTg 6 (7) = 13 := by decide
theorem jp_6_7 : (0 ≤ ((6 : Nat) : Int) + (7)) = True := by decide
theorem jt_6_12 : mTg 6 (12) = 18 := by decide
theorem jp_6_12 : (0 ≤ ((6 : Nat) : Int) + (12)) = True := by decide
theorem jt_6_17 : mTg 6 (17) = 23 := by decide
theorem jp_6_17 : (0 ≤ ((6 : Nat) : Int) + (17)) = True := by decide
theorem jt_6_30 : mTg 6 (30) = 36 := by decide
theorem jp_6_30 : (0 ≤ ((6 : Nat) : Int) + (30)) = True := by decide
theorem jt_7_5 : mTg 7 (5) = 12 := by decide
theorem jp_7_5 : (0 ≤ ((7 : Nat) : Int) + (5)) = True := by decide
theorem jt_7_7 : mTg 7 (7) = 14 := by decide
theorem jp_7_7 : (0 ≤ ((7 : Nat) : Int) + (7)) = True := by decide
theorem jt_7_17 : mTg 7 (17) = 24 := by decide
theorem jp_7_17 : (0 ≤ ((7 : Nat) : Int) + (17)) = True := by decide
theorem jt_7_29 : mTg 7 (29) = 36 := by decide
theorem jp_7_29 : (0 ≤ ((7 : Nat) : Int) + (29)) = True := by decide
theorem jt_7_35 : mTg 7 (35) = 42 := by decide
theorem jp_7_35 : (0 ≤ ((7 : Nat) : Int) + (35)) = True := by decide
theorem jt_8_7 : mTg 8 (7) = 15 := by decide
theorem jp_8_7 : (0 ≤ ((8 : Nat) : Int) + (7)) = True := by decide
theorem jt_8_20 : mTg 8 (20) = 28 := by decide
theorem jp_8_20 : (0 ≤ ((8 : Nat) : Int) + (20)) = True := by decide
theorem jt_8_30 : mTg 8 (30) = 38 := by decide
theorem jp_8_30 : (0 ≤ ((8 : Nat) : Int) + (30)) = True := by decide
theorem jt_9_7 : mTg 9 (7) = 16 := by decide
theorem jp_9_7 : (0 ≤ ((9 : Nat) : Int) + (7)) = True := by decide
theorem jt_9_12 : mTg 9 (12) = 21 := by decide
theorem jp_9_12 : (0 ≤ ((9 : Nat) : Int) + (12)) = True := by decide
theorem jt_9_13 : mTg 9 (13) = 22 := by decide
theorem jp_9_13 : (0 ≤ ((9 : Nat) : Int) + (13)) = True := by decide
theorem jt_9_26 : mTg 9 (26) = 35 := by decide
theorem jp_9_26 : (0 ≤ ((9 : Nat) : Int) + (26)) = True := by decide
theorem jt_9_28 : mTg 9 (28) = 37 := by decide
theorem jp_9_28 : (0 ≤ ((9 : Nat) : Int) + (28)) = True := by decide
theorem jt_9_31 : mTg 9 (31) = 40 := by decide
theorem jp_9_31 : (0 ≤ ((9 : Nat) : Int) + (31)) = True := by decide
theorem jt_9_32 : mTg 9 (32) = 41 := by decide
theorem jp_9_32 : (0 ≤ ((9 : Nat) : Int) + (32)) = True := by decide
theorem jt_9_35 : mTg 9 (35) = 44 := by decide
theorem jp_9_35 : (0 ≤ ((9 : Nat) : Int) + (35)) = True := by decide
theorem jt_9_97 : mTg 9 (97) = 106 := by decide
theorem jp_9_97 : (0 ≤ ((9 : Nat) : Int) + (97)) = True := by decide
theorem jt_10_4 : mTg 10 (4) = 14 := by decide
theorem jp_10_4 : (0 ≤ ((10 : Nat) : Int) + (4)) = True := by decide
theorem jt_10_8 : mTg 10 (8) = 18 := by decide
theorem jp_10_8 : (0 ≤ ((10 : Nat) : Int) + (8)) = True := by decide
theorem jt_11_4 : mTg 11 (4) = 15 := by decide
theorem jp_11_4 : (0 ≤ ((11 : Nat) : Int) + (4)) = True := by decide
theorem jt_11_5 : mTg 11 (5) = 16 := by decide
theorem jp_11_5 : (0 ≤ ((11 : Nat) : Int) + (5)) = True := by decide
theorem jt_11_12 : mTg 11 (12) = 23 := by decide
theorem jp_11_12 : (0 ≤ ((11 : Nat) : Int) + (12)) = True := by decide
theorem jt_11_19 : mTg 11 (19) = 30 := by decide
theorem jp_11_19 : (0 ≤ ((11 : Nat) : Int) + (19)) = True := by decide
theorem jt_11_25 : mTg 11 (25) = 36 := by decide
theorem jp_11_25 : (0 ≤ ((11 : Nat) : Int) + (25)) = True := by decide
theorem jt_11_32 : mTg 11 (32) = 43 := by decide
theorem jp_11_32 : (0 ≤ ((11 : Nat) : Int) + (32)) = True := by decide
theorem jt_11_34 : mTg 11 (34) = 45 := by decide
theorem jp_11_34 : (0 ≤ ((11 : Nat) : Int) + (34)) = True := by decide
theorem jt_11_39 : mTg 11 (39) = 50 := by decide
theorem jp_11_39 : (0 ≤ ((11 : Nat) : Int) + (39)) = True := by decide
theorem jt_11_46 : mTg 11 (46) = 57 := by decide
theorem jp_11_46 : (0 ≤ ((11 : Nat) : Int) + (46)) = True := by decide
theorem jt_11_47 : mTg 11 (47) = 58 := by decide
theorem jp_11_47 : (0 ≤ ((11 : Nat) : Int) + (47)) = True := by decide
theorem jt_12_4 : mTg 12 (4) = 16 := by decide
theorem jp_12_4 : (0 ≤ ((12 : Nat) : Int) + (4)) = True := by decide
theorem jt_12_5 : mTg 12 (5) = 17 := by decide
theorem jp_12_5 : (0 ≤ ((12 : Nat) : Int) + (5)) = True := by decide
theorem jt_12_6 : mTg 12 (6) = 18 := by decide
theorem jp_12_6 : (0 ≤ ((12 : Nat) : Int) + (6)) = True := by decide
theorem jt_12_7 : mTg 12 (7) = 19 := by decide
theorem jp_12_7 : (0 ≤ ((12 : Nat) : Int) + (7)) = True := by decide
theorem jt_12_12 : mTg 12 (12) = 24 := by decide
theorem jp_12_12 : (0 ≤ ((12 : Nat) : Int) + (12)) = True := by decide
theorem jt_12_16 : mTg 12 (16) = 28 := by decide
theorem jp_12_16 : (0 ≤ ((12 : Nat) : Int) + (16)) = True := by decide
theorem jt_13_4 : mTg 13 (4) = 17 := by decide
theorem jp_13_4 : (0 ≤ ((13 : Nat) : Int) + (4)) = True := by decide
theorem jt_13_5 : mTg 13 (5) = 18 := by decide
theorem jp_13_5 : (0 ≤ ((13 : Nat) : Int) + (5)) = True := by decide
theorem jt_13_7 : mTg 13 (7) = 20 := by decide
theorem jp_13_7 : (0 ≤ ((13 : Nat) : Int) + (7)) = True := by decide
theorem jt_13_12 : mTg 13 (12) = 25 := by decide
theorem jp_13_12 : (0 ≤ ((13 : Nat) : Int) + (12)) = True := by decide
theorem jt_13_17 : mTg 13 (17) = 30 := by decide
theorem jp_13_17 : (0 ≤ ((13 : Nat) : Int) + (17)) = True := by decide
theorem jt_13_31 : mTg 13 (31) = 44 := by decide
theorem jp_13_31 : (0 ≤ ((13 : Nat) : Int) + (31)) = True := by decide
theorem jt_13_43 : mTg 13 (43) = 56 := by decide
theorem jp_13_43 : (0 ≤ ((13 : Nat) : Int) + (43)) = True := by decide
theorem jt_14_7 : mTg 14 (7) = 21 := by decide
theorem jp_14_7 : (0 ≤ ((14 : Nat) : Int) + (7)) = True := by decide
theorem jt_15_5 : mTg 15 (5) = 20 := by decide
theorem jp_15_5 : (0 ≤ ((15 : Nat) : Int) + (5)) = True := by decide
theorem jt_15_6 : mTg 15 (6) = 21 := by decide
theorem jp_15_6 : (0 ≤ ((15 : Nat) : Int) + (6)) = True := by decide
theorem jt_15_15 : mTg 15 (15) = 30 := by decide
theorem jp_15_15 : (0 ≤ ((15 : Nat) : Int) + (15)) = True := by decide
theorem jt_15_21 : mTg 15 (21) = 36 := by decide
theorem jp_15_21 : (0 ≤ ((15 : Nat) : Int) + (21)) = True := by decide
theorem jt_15_32 : mTg 15 (32) = 47 := by decide
theorem jp_15_32 : (0 ≤ ((15 : Nat) : Int) + (32)) = True := by decide
theorem jt_16_12 : mTg 16 (12) = 28 := by decide
theorem jp_16_12 : (0 ≤ ((16 : Nat) : Int) + (12)) = True := by decide
theorem jt_16_14 : mTg 16 (14) = 30 := by decide
theorem jp_16_14 : (0 ≤ ((16 : Nat) : Int) + (14)) = True := by decide
theorem jt_16_21 : mTg 16 (21) = 37 := by decide
theorem jp_16_21 : (0 ≤ ((16 : Nat) : Int) + (21)) = True := by decide
theorem jt_17_5 : mTg 17 (5) = 22 := by decide
theorem jp_17_5 : (0 ≤ ((17 : Nat) : Int) + (5)) = True := by decide
theorem jt_17_7 : mTg 17 (7) = 24 := by decide
theorem jp_17_7 : (0 ≤ ((17 : Nat) : Int) + (7)) = True := by decide
theorem jt_17_12 : mTg 17 (12) = 29 := by decide
theorem jp_17_12 : (0 ≤ ((17 : Nat) : Int) + (12)) = True := by decide
theorem jt_17_22 : mTg 17 (22) = 39 := by decide
theorem jp_17_22 : (0 ≤ ((17 : Nat) : Int) + (22)) = True := by decide
theorem jt_17_31 : mTg 17 (31) = 48 := by decide
theorem jp_17_31 : (0 ≤ ((17 : Nat) : Int) + (31)) = True := by decide
theorem jt_17_51 : mTg 17 (51) = 68 := by decide
theorem jp_17_51 : (0 ≤ ((17 : Nat) : Int) + (51)) = True := by decide
theorem jt_18_4 : mTg 18 (4) = 22 := by decide
theorem jp_18_4 : (0 ≤ ((18 : Nat) : Int) + (4)) = True := by decide
theorem jt_18_7 : mTg 18 (7) = 25 := by decide
theorem jp_18_7 : (0 ≤ ((18 : Nat) : Int) + (7)) = True := by decide
theorem jt_18_12 : mTg 18 (12) = 30 := by decide
theorem jp_18_12 : (0 ≤ ((18 : Nat) : Int) + (12)) = True := by decide
theorem jt_18_26 : mTg 18 (26) = 44 := by decide
theorem jp_18_26 : (0 ≤ ((18 : Nat) : Int) + (26)) = True := by decide
theorem jt_18_38 : mTg 18 (38) = 56 := by decide
theorem jp_18_38 : (0 ≤ ((18 : Nat) : Int) + (38)) = True := by decide
theorem jt_18_41 : mTg 18 (41) = 59 := by decide
theorem jp_18_41 : (0 ≤ ((18 : Nat) : Int) + (41)) = True := by decide
theorem jt_19_5 : mTg 19 (5) = 24 := by decide
theorem jp_19_5 : (0 ≤ ((19 : Nat) : Int) + (5)) = True := by decide
theorem jt_19_10 : mTg 19 (10) = 29 := by decide
theorem jp_19_10 : (0 ≤ ((19 : Nat) : Int) + (10)) = True := by decide
theorem jt_19_12 : mTg 19 (12) = 31 := by decide
theorem jp_19_12 : (0 ≤ ((19 : Nat) : Int) + (12)) = True := by decide
theorem jt_19_24 : mTg 19 (24) = 43 := by decide
theorem jp_19_24 : (0 ≤ ((19 : Nat) : Int) + (24)) = True := by decide
theorem jt_19_25 : mTg 19 (25) = 44 := by decide
theorem jp_19_25 : (0 ≤ ((19 : Nat) : Int) + (25)) = True := by decide
theorem jt_19_30 : mTg 19 (30) = 49 := by decide
theorem jp_19_30 : (0 ≤ ((19 : Nat) : Int) + (30)) = True := by decide
theorem jt_19_32 : mTg 19 (32) = 51 := by decide
theorem jp_19_32 : (0 ≤ ((19 : Nat) : Int) + (32)) = True := by decide
theorem jt_19_39 : mTg 19 (39) = 58 := by decide
theorem jp_19_39 : (0 ≤ ((19 : Nat) : Int) + (39)) = True := by decide
theorem jt_20_4 : mTg 20 (4) = 24 := by decide
theorem jp_20_4 : (0 ≤ ((20 : Nat) : Int) + (4)) = True := by decide
theorem jt_20_5 : mTg 20 (5) = 25 := by decide
theorem jp_20_5 : (0 ≤ ((20 : Nat) : Int) + (5)) = True := by decide
theorem jt_20_12 : mTg 20 (12) = 32 := by decide
theorem jp_20_12 : (0 ≤ ((20 : Nat) : Int) + (12)) = True := by decide
theorem jt_20_25 : mTg 20 (25) = 45 := by decide
theorem jp_20_25 : (0 ≤ ((20 : Nat) : Int) + (25)) = True := by decide
theorem jt_20_26 : mTg 20 (26) = 46 := by decide
theorem jp_20_26 : (0 ≤ ((20 : Nat) : Int) + (26)) = True := by decide
theorem jt_20_35 : mTg 20 (35) = 55 := by decide
theorem jp_20_35 : (0 ≤ ((20 : Nat) : Int) + (35)) = True := by decide
theorem jt_20_36 : mTg 20 (36) = 56 := by decide
theorem jp_20_36 : (0 ≤ ((20 : Nat) : Int) + (36)) = True := by decide
theorem jt_21_m17 : mTg 21 (-17) = 4 := by decide
theorem jp_21_m17 : (0 ≤ ((21 : Nat) : Int) + (-17)) = True := by decide
theorem jt_21_4 : mTg 21 (4) = 25 := by decide
theorem jp_21_4 : (0 ≤ ((21 : Nat) : Int) + (4)) = True := by decide
theorem jt_21_5 : mTg 21 (5) = 26 := by decide
theorem jp_21_5 : (0 ≤ ((21 : Nat) : Int) + (5)) = True := by decide
theorem jt_21_6 : mTg 21 (6) = 27 := by decide
theorem jp_21_6 : (0 ≤ ((21 : Nat) : Int) + (6)) = True := by decide
theorem jt_21_7 : mTg 21 (7) = 28 := by decide
theorem jp_21_7 : (0 ≤ ((21 : Nat) : Int) + (7)) = True := by decide
theorem jt_21_12 : mTg 21 (12) = 33 := by decide
theorem jp_21_12 : (0 ≤ ((21 : Nat) : Int) + (12)) = True := by decide
theorem jt_21_16 : mTg 21 (16) = 37 := by decide
theorem jp_21_16 : (0 ≤ ((21 : Nat) : Int) + (16)) = True := by decide
theorem jt_22_4 : mTg 22 (4) = 26 := by decide
theorem jp_22_4 : (0 ≤ ((22 : Nat) : Int) + (4)) = True := by decide
theorem jt_22_28 : mTg 22 (28) = 50 := by decide
theorem jp_22_28 : (0 ≤ ((22 : Nat) : Int) + (28)) = True := by decide
theorem jt_24_5 : mTg 24 (5) = 29 := by decide
theorem jp_24_5 : (0 ≤ ((24 : Nat) : Int) + (5)) = True := by decide
theorem jt_24_8 : mTg 24 (8) = 32 := by decide
theorem jp_24_8 : (0 ≤ ((24 : Nat) : Int) + (8)) = True := by decide
theorem jt_24_17 : mTg 24 (17) = 41 := by decide
theorem jp_24_17 : (0 ≤ ((24 : Nat) : Int) + (17)) = True := by decide
theorem jt_24_63 : mTg 24 (63) = 87 := by decide
theorem jp_24_63 : (0 ≤ ((24 : Nat) : Int) + (63)) = True := by decide
theorem jt_25_4 : mTg 25 (4) = 29 := by decide
theorem jp_25_4 : (0 ≤ ((25 : Nat) : Int) + (4)) = True := by decide
theorem jt_25_5 : mTg 25 (5) = 30 := by decide
theorem jp_25_5 : (0 ≤ ((25 : Nat) : Int) + (5)) = True := by decide
theorem jt_25_9 : mTg 25 (9) = 34 := by decide
theorem jp_25_9 : (0 ≤ ((25 : Nat) : Int) + (9)) = True := by decide
theorem jt_26_5 : mTg 26 (5) = 31 := by decide
theorem jp_26_5 : (0 ≤ ((26 : Nat) : Int) + (5)) = True := by decide
theorem jt_26_9 : mTg 26 (9) = 35 := by decide
theorem jp_26_9 : (0 ≤ ((26 : Nat) : Int) + (9)) = True := by decide
theorem jt_26_12 : mTg 26 (12) = 38 := by decide
theorem jp_26_12 : (0 ≤ ((26 : Nat) : Int) + (12)) = True := by decide
theorem jt_26_13 : mTg 26 (13) = 39 := by decide
theorem jp_26_13 : (0 ≤ ((26 : Nat) : Int) + (13)) = True := by decide
theorem jt_26_19 : mTg 26 (19) = 45 := by decide
theorem jp_26_19 : (0 ≤ ((26 : Nat) : Int) + (19)) = True := by decide
theorem jt_26_23 : mTg 26 (23) = 49 := by decide
theorem jp_26_23 : (0 ≤ ((26 : Nat) : Int) + (23)) = True := by decide
theorem jt_26_27 : mTg 26 (27) = 53 := by decide
theorem jp_26_27 : (0 ≤ ((26 : Nat) : Int) + (27)) = True := by decide
theorem jt_26_32 : mTg 26 (32) = 58 := by decide
theorem jp_26_32 : (0 ≤ ((26 : Nat) : Int) + (32)) = True := by decide
theorem jt_27_5 : mTg 27 (5) = 32 := by decide
theorem jp_27_5 : (0 ≤ ((27 : Nat) : Int) + (5)) = True := by decide
theorem jt_27_22 : mTg 27 (22) = 49 := by decide
theorem jp_27_22 : (0 ≤ ((27 : Nat) : Int) + (22)) = True := by decide
theorem jt_28_81 : mTg 28 (81) = 109 := by decide
theorem jp_28_81 : (0 ≤ ((28 : Nat) : Int) + (81)) = True := by decide
theorem jt_29_4 : mTg 29 (4) = 33 := by decide
theorem jp_29_4 : (0 ≤ ((29 : Nat) : Int) + (4)) = True := by decide
theorem jt_29_5 : mTg 29 (5) = 34 := by decide
theorem jp_29_5 : (0 ≤ ((29 : Nat) : Int) + (5)) = True := by decide
theorem jt_29_6 : mTg 29 (6) = 35 := by decide
theorem jp_29_6 : (0 ≤ ((29 : Nat) : Int) + (6)) = True := by decide
theorem jt_29_8 : mTg 29 (8) = 37 := by decide
theorem jp_29_8 : (0 ≤ ((29 : Nat) : Int) + (8)) = True := by decide
theorem jt_29_11 : mTg 29 (11) = 40 := by decide
theorem jp_29_11 : (0 ≤ ((29 : Nat) : Int) + (11)) = True := by decide
theorem jt_29_18 : mTg 29 (18) = 47 := by decide
theorem jp_29_18 : (0 ≤ ((29 : Nat) : Int) + (18)) = True := by decide
theorem jt_29_45 : mTg 29 (45) = 74 := by decide
theorem jp_29_45 : (0 ≤ ((29 : Nat) : Int) + (45)) = True := by decide
theorem jt_30_8 : mTg 30 (8) = 38 := by decide
theorem jp_30_8 : (0 ≤ ((30 : Nat) : Int) + (8)) = True := by decide
theorem jt_30_18 : mTg 30 (18) = 48 := by decide
theorem jp_30_18 : (0 ≤ ((30 : Nat) : Int) + (18)) = True := by decide
theorem jt_30_30 : mTg 30 (30) = 60 := by decide
theorem jp_30_30 : (0 ≤ ((30 : Nat) : Int) + (30)) = True := by decide
theorem jt_31_12 : mTg 31 (12) = 43 := by decide
theorem jp_31_12 : (0 ≤ ((31 : Nat) : Int) + (12)) = True := by decide
theorem jt_32_m30 : mTg 32 (-30) = 2 := by decide
theorem jp_32_m30 : (0 ≤ ((32 : Nat) : Int) + (-30)) = True := by decide
theorem jt_32_m28 : mTg 32 (-28) = 4 := by decide
theorem jp_32_m28 : (0 ≤ ((32 : Nat) : Int) + (-28)) = True := by decide
theorem jt_32_4 : mTg 32 (4) = 36 := by decide
theorem jp_32_4 : (0 ≤ ((32 : Nat) : Int) + (4)) = True := by decide
theorem jt_32_5 : mTg 32 (5) = 37 := by decide
theorem jp_32_5 : (0 ≤ ((32 : Nat) : Int) + (5)) = True := by decide
theorem jt_32_7 : mTg 32 (7) = 39 := by decide
theorem jp_32_7 : (0 ≤ ((32 : Nat) : Int) + (7)) = True := by decide
theorem jt_32_11 : mTg 32 (11) = 43 := by decide
theorem jp_32_11 : (0 ≤ ((32 : Nat) : Int) + (11)) = True := by decide
theorem jt_33_m31 : mTg 33 (-31) = 2 := by decide
theorem jp_33_m31 : (0 ≤ ((33 : Nat) : Int) + (-31)) = True := by decide
theorem jt_33_5 : mTg 33 (5) = 38 := by decide
theorem jp_33_5 : (0 ≤ ((33 : Nat) : Int) + (5)) = True := by decide
theorem jt_33_6 : mTg 33 (6) = 39 := by decide
theorem jp_33_6 : (0 ≤ ((33 : Nat) : Int) + (6)) = True := by decide
theorem jt_33_17 : mTg 33 (17) = 50 := by decide
theorem jp_33_17 : (0 ≤ ((33 : Nat) : Int) + (17)) = True := by decide
theorem jt_34_m30 : mTg 34 (-30) = 4 := by decide
theorem jp_34_m30 : (0 ≤ ((34 : Nat) : Int) + (-30)) = True := by decide
theorem jt_34_5 : mTg 34 (5) = 39 := by decide
theorem jp_34_5 : (0 ≤ ((34 : Nat) : Int) + (5)) = True := by decide
theorem jt_35_m28 : mTg 35 (-28) = 7 := by decide
theorem jp_35_m28 : (0 ≤ ((35 : Nat) : Int) + (-28)) = True := by decide
theorem jt_35_5 : mTg 35 (5) = 40 := by decide
theorem jp_35_5 : (0 ≤ ((35 : Nat) : Int) + (5)) = True := by decide
theorem jt_35_9 : mTg 35 (9) = 44 := by decide
theorem jp_35_9 : (0 ≤ ((35 : Nat) : Int) + (9)) = True := by decide
theorem jt_35_12 : mTg 35 (12) = 47 := by decide
theorem jp_35_12 : (0 ≤ ((35 : Nat) : Int) + (12)) = True := by decide
theorem jt_36_4 : mTg 36 (4) = 40 := by decide
theorem jp_36_4 : (0 ≤ ((36 : Nat) : Int) + (4)) = True := by decide
theorem jt_36_13 : mTg 36 (13) = 49 := by decide
theorem jp_36_13 : (0 ≤ ((36 : Nat) : Int) + (13)) = True := by decide
theorem jt_37_m33 : mTg 37 (-33) = 4 := by decide
theorem jp_37_m33 : (0 ≤ ((37 : Nat) : Int) + (-33)) = True := by decide
theorem jt_37_12 : mTg 37 (12) = 49 := by decide
theorem jp_37_12 : (0 ≤ ((37 : Nat) : Int) + (12)) = True := by decide
theorem jt_37_25 : mTg 37 (25) = 62 := by decide
theorem jp_37_25 : (0 ≤ ((37 : Nat) : Int) + (25)) = True := by decide
theorem jt_38_m34 : mTg 38 (-34) = 4 := by decide
theorem jp_38_m34 : (0 ≤ ((38 : Nat) : Int) + (-34)) = True := by decide
theorem jt_38_11 : mTg 38 (11) = 49 := by decide
theorem jp_38_11 : (0 ≤ ((38 : Nat) : Int) + (11)) = True := by decide
theorem jt_39_m37 : mTg 39 (-37) = 2 := by decide
theorem jp_39_m37 : (0 ≤ ((39 : Nat) : Int) + (-37)) = True := by decide
theorem jt_39_6 : mTg 39 (6) = 45 := by decide
theorem jp_39_6 : (0 ≤ ((39 : Nat) : Int) + (6)) = True := by decide
theorem jt_39_11 : mTg 39 (11) = 50 := by decide
theorem jp_39_11 : (0 ≤ ((39 : Nat) : Int) + (11)) = True := by decide
theorem jt_40_m22 : mTg 40 (-22) = 18 := by decide
theorem jp_40_m22 : (0 ≤ ((40 : Nat) : Int) + (-22)) = True := by decide
theorem jt_40_7 : mTg 40 (7) = 47 := by decide
theorem jp_40_7 : (0 ≤ ((40 : Nat) : Int) + (7)) = True := by decide
theorem jt_40_18 : mTg 40 (18) = 58 := by decide
theorem jp_40_18 : (0 ≤ ((40 : Nat) : Int) + (18)) = True := by decide
theorem jt_41_m37 : mTg 41 (-37) = 4 := by decide
theorem jp_41_m37 : (0 ≤ ((41 : Nat) : Int) + (-37)) = True := by decide
theorem jt_41_5 : mTg 41 (5) = 46 := by decide
theorem jp_41_5 : (0 ≤ ((41 : Nat) : Int) + (5)) = True := by decide
theorem jt_41_27 : mTg 41 (27) = 68 := by decide
theorem jp_41_27 : (0 ≤ ((41 : Nat) : Int) + (27)) = True := by decide
theorem jt_41_36 : mTg 41 (36) = 77 := by decide
theorem jp_41_36 : (0 ≤ ((41 : Nat) : Int) + (36)) = True := by decide
theorem jt_41_37 : mTg 41 (37) = 78 := by decide
theorem jp_41_37 : (0 ≤ ((41 : Nat) : Int) + (37)) = True := by decide
theorem jt_41_43 : mTg 41 (43) = 84 := by decide
theorem jp_41_43 : (0 ≤ ((41 : Nat) : Int) + (43)) = True := by decide
theorem jt_42_m37 : mTg 42 (-37) = 5 := by decide
theorem jp_42_m37 : (0 ≤ ((42 : Nat) : Int) + (-37)) = True := by decide
theorem jt_42_m28 : mTg 42 (-28) = 14 := by decide
theorem jp_42_m28 : (0 ≤ ((42 : Nat) : Int) + (-28)) = True := by decide
theorem jt_42_7 : mTg 42 (7) = 49 := by decide
theorem jp_42_7 : (0 ≤ ((42 : Nat) : Int) + (7)) = True := by decide
theorem jt_42_8 : mTg 42 (8) = 50 := by decide
theorem jp_42_8 : (0 ≤ ((42 : Nat) : Int) + (8)) = True := by decide
theorem jt_42_30 : mTg 42 (30) = 72 := by decide
theorem jp_42_30 : (0 ≤ ((42 : Nat) : Int) + (30)) = True := by decide
theorem jt_42_61 : mTg 42 (61) = 103 := by decide
theorem jp_42_61 : (0 ≤ ((42 : Nat) : Int) + (61)) = True := by decide
theorem jt_43_m28 : mTg 43 (-28) = 15 := by decide
theorem jp_43_m28 : (0 ≤ ((43 : Nat) : Int) + (-28)) = True := by decide
theorem jt_44_m35 : mTg 44 (-35) = 9 := by decide
theorem jp_44_m35 : (0 ≤ ((44 : Nat) : Int) + (-35)) = True := by decide
theorem jt_44_4 : mTg 44 (4) = 48 := by decide
theorem jp_44_4 : (0 ≤ ((44 : Nat) : Int) + (4)) = True := by decide
theorem jt_45_12 : mTg 45 (12) = 57 := by decide
theorem jp_45_12 : (0 ≤ ((45 : Nat) : Int) + (12)) = True := by decide
theorem jt_46_m28 : mTg 46 (-28) = 18 := by decide
theorem jp_46_m28 : (0 ≤ ((46 : Nat) : Int) + (-28)) = True := by decide
theorem jt_46_4 : mTg 46 (4) = 50 := by decide
theorem jp_46_4 : (0 ≤ ((46 : Nat) : Int) + (4)) = True := by decide
theorem jt_46_8 : mTg 46 (8) = 54 := by decide
theorem jp_46_8 : (0 ≤ ((46 : Nat) : Int) + (8)) = True := by decide
theorem jt_46_10 : mTg 46 (10) = 56 := by decide
theorem jp_46_10 : (0 ≤ ((46 : Nat) : Int) + (10)) = True := by decide
theorem jt_47_34 : mTg 47 (34) = 81 := by decide
theorem jp_47_34 : (0 ≤ ((47 : Nat) : Int) + (34)) = True := by decide
theorem jt_48_76 : mTg 48 (76) = 124 := by decide
theorem jp_48_76 : (0 ≤ ((48 : Nat) : Int) + (76)) = True := by decide
theorem jt_49_13 : mTg 49 (13) = 62 := by decide
theorem jp_49_13 : (0 ≤ ((49 : Nat) : Int) + (13)) = True := by decide
theorem jt_50_16 : mTg 50 (16) = 66 := by decide
theorem jp_50_16 : (0 ≤ ((50 : Nat) : Int) + (16)) = True := by decide
theorem jt_52_m37 : mTg 52 (-37) = 15 := by decide
theorem jp_52_m37 : (0 ≤ ((52 : Nat) : Int) + (-37)) = True := by decide
theorem jt_52_11 : mTg 52 (11) = 63 := by decide
theorem jp_52_11 : (0 ≤ ((52 : Nat) : Int) + (11)) = True := by decide
theorem jt_52_47 : mTg 52 (47) = 99 := by decide
theorem jp_52_47 : (0 ≤ ((52 : Nat) : Int) + (47)) = True := by decide
theorem jt_53_m46 : mTg 53 (-46) = 7 := by decide
theorem jp_53_m46 : (0 ≤ ((53 : Nat) : Int) + (-46)) = True := by decide
theorem jt_53_m41 : mTg 53 (-41) = 12 := by decide
theorem jp_53_m41 : (0 ≤ ((53 : Nat) : Int) + (-41)) = True := by decide
theorem jt_53_m39 : mTg 53 (-39) = 14 := by decide
theorem jp_53_m39 : (0 ≤ ((53 : Nat) : Int) + (-39)) = True := by decide
theorem jt_54_4 : mTg 54 (4) = 58 := by decide
theorem jp_54_4 : (0 ≤ ((54 : Nat) : Int) + (4)) = True := by decide
theorem jt_55_m50 : mTg 55 (-50) = 5 := by decide
theorem jp_55_m50 : (0 ≤ ((55 : Nat) : Int) + (-50)) = True := by decide
theorem jt_55_25 : mTg 55 (25) = 80 := by decide
theorem jp_55_25 : (0 ≤ ((55 : Nat) : Int) + (25)) = True := by decide
theorem jt_55_28 : mTg 55 (28) = 83 := by decide
theorem jp_55_28 : (0 ≤ ((55 : Nat) : Int) + (28)) = True := by decide
theorem jt_55_36 : mTg 55 (36) = 91 := by decide
theorem jp_55_36 : (0 ≤ ((55 : Nat) : Int) + (36)) = True := by decide
theorem jt_55_44 : mTg 55 (44) = 99 := by decide
theorem jp_55_44 : (0 ≤ ((55 : Nat) : Int) + (44)) = True := by decide
theorem jt_56_m44 : mTg 56 (-44) = 12 := by decide
theorem jp_56_m44 : (0 ≤ ((56 : Nat) : Int) + (-44)) = True := by decide
theorem jt_56_22 : mTg 56 (22) = 78 := by decide
theorem jp_56_22 : (0 ≤ ((56 : Nat) : Int) + (22)) = True := by decide
theorem jt_57_m28 : mTg 57 (-28) = 29 := by decide
theorem jp_57_m28 : (0 ≤ ((57 : Nat) : Int) + (-28)) = True := by decide
theorem jt_58_28 : mTg 58 (28) = 86 := by decide
theorem jp_58_28 : (0 ≤ ((58 : Nat) : Int) + (28)) = True := by decide
theorem jt_59_m28 : mTg 59 (-28) = 31 := by decide
theorem jp_59_m28 : (0 ≤ ((59 : Nat) : Int) + (-28)) = True := by decide
theorem jt_59_42 : mTg 59 (42) = 101 := by decide
theorem jp_59_42 : (0 ≤ ((59 : Nat) : Int) + (42)) = True := by decide
theorem jt_59_105 : mTg 59 (105) = 164 := by decide
theorem jp_59_105 : (0 ≤ ((59 : Nat) : Int) + (105)) = True := by decide
theorem jt_60_21 : mTg 60 (21) = 81 := by decide
theorem jp_60_21 : (0 ≤ ((60 : Nat) : Int) + (21)) = True := by decide
theorem jt_61_5 : mTg 61 (5) = 66 := by decide
theorem jp_61_5 : (0 ≤ ((61 : Nat) : Int) + (5)) = True := by decide
theorem jt_61_23 : mTg 61 (23) = 84 := by decide
theorem jp_61_23 : (0 ≤ ((61 : Nat) : Int) + (23)) = True := by decide
theorem jt_61_33 : mTg 61 (33) = 94 := by decide
theorem jp_61_33 : (0 ≤ ((61 : Nat) : Int) + (33)) = True := by decide
theorem jt_63_30 : mTg 63 (30) = 93 := by decide
theorem jp_63_30 : (0 ≤ ((63 : Nat) : Int) + (30)) = True := by decide
theorem jt_63_46 : mTg 63 (46) = 109 := by decide
theorem jp_63_46 : (0 ≤ ((63 : Nat) : Int) + (46)) = True := by decide
theorem jt_64_36 : mTg 64 (36) = 100 := by decide
theorem jp_64_36 : (0 ≤ ((64 : Nat) : Int) + (36)) = True := by decide
theorem jt_65_m53 : mTg 65 (-53) = 12 := by decide
theorem jp_65_m53 : (0 ≤ ((65 : Nat) : Int) + (-53)) = True := by decide
theorem jt_65_11 : mTg 65 (11) = 76 := by decide
theorem jp_65_11 : (0 ≤ ((65 : Nat) : Int) + (11)) = True := by decide
theorem jt_69_m67 : mTg 69 (-67) = 2 := by decide
theorem jp_69_m67 : (0 ≤ ((69 : Nat) : Int) + (-67)) = True := by decide
theorem jt_69_m32 : mTg 69 (-32) = 37 := by decide
theorem jp_69_m32 : (0 ≤ ((69 : Nat) : Int) + (-32)) = True := by decide
theorem jt_69_20 : mTg 69 (20) = 89 := by decide
theorem jp_69_20 : (0 ≤ ((69 : Nat) : Int) + (20)) = True := by decide
theorem jt_71_7 : mTg 71 (7) = 78 := by decide
theorem jp_71_7 : (0 ≤ ((71 : Nat) : Int) + (7)) = True := by decide
theorem jt_73_8 : mTg 73 (8) = 81 := by decide
theorem jp_73_8 : (0 ≤ ((73 : Nat) : Int) + (8)) = True := by decide
theorem jt_73_30 : mTg 73 (30) = 103 := by decide
theorem jp_73_30 : (0 ≤ ((73 : Nat) : Int) + (30)) = True := by decide
theorem jt_75_4 : mTg 75 (4) = 79 := by decide
theorem jp_75_4 : (0 ≤ ((75 : Nat) : Int) + (4)) = True := by decide
theorem jt_75_6 : mTg 75 (6) = 81 := by decide
theorem jp_75_6 : (0 ≤ ((75 : Nat) : Int) + (6)) = True := by decide
theorem jt_78_18 : mTg 78 (18) = 96 := by decide
theorem jp_78_18 : (0 ≤ ((78 : Nat) : Int) + (18)) = True := by decide
theorem jt_78_25 : mTg 78 (25) = 103 := by decide
theorem jp_78_25 : (0 ≤ ((78 : Nat) : Int) + (25)) = True := by decide
theorem jt_79_20 : mTg 79 (20) = 99 := by decide
theorem jp_79_20 : (0 ≤ ((79 : Nat) : Int) + (20)) = True := by decide
theorem jt_79_31 : mTg 79 (31) = 110 := by decide
theorem jp_79_31 : (0 ≤ ((79 : Nat) : Int) + (31)) = True := by decide
theorem jt_80_27 : mTg 80 (27) = 107 := by decide
theorem jp_80_27 : (0 ≤ ((80 : Nat) : Int) + (27)) = True := by decide
theorem jt_81_m26 : mTg 81 (-26) = 55 := by decide
theorem jp_81_m26 : (0 ≤ ((81 : Nat) : Int) + (-26)) = True := by decide
theorem jt_83_m28 : mTg 83 (-28) = 55 := by decide
theorem jp_83_m28 : (0 ≤ ((83 : Nat) : Int) + (-28)) = True := by decide
theorem jt_84_m66 : mTg 84 (-66) = 18 := by decide
theorem jp_84_m66 : (0 ≤ ((84 : Nat) : Int) + (-66)) = True := by decide
theorem jt_84_44 : mTg 84 (44) = 128 := by decide
theorem jp_84_44 : (0 ≤ ((84 : Nat) : Int) + (44)) = True := by decide
theorem jt_86_7 : mTg 86 (7) = 93 := by decide
theorem jp_86_7 : (0 ≤ ((86 : Nat) : Int) + (7)) = True := by decide
theorem jt_87_20 : mTg 87 (20) = 107 := by decide
theorem jp_87_20 : (0 ≤ ((87 : Nat) : Int) + (20)) = True := by decide
theorem jt_88_16 : mTg 88 (16) = 104 := by decide
theorem jp_88_16 : (0 ≤ ((88 : Nat) : Int) + (16)) = True := by decide
theorem jt_90_7 : mTg 90 (7) = 97 := by decide
theorem jp_90_7 : (0 ≤ ((90 : Nat) : Int) + (7)) = True := by decide
theorem jt_91_m33 : mTg 91 (-33) = 58 := by decide
theorem jp_91_m33 : (0 ≤ ((91 : Nat) : Int) + (-33)) = True := by decide
theorem jt_92_6 : mTg 92 (6) = 98 := by decide
theorem jp_92_6 : (0 ≤ ((92 : Nat) : Int) + (6)) = True := by decide
theorem jt_92_11 : mTg 92 (11) = 103 := by decide
theorem jp_92_11 : (0 ≤ ((92 : Nat) : Int) + (11)) = True := by decide
theorem jt_93_8 : mTg 93 (8) = 101 := by decide
theorem jp_93_8 : (0 ≤ ((93 : Nat) : Int) + (8)) = True := by decide
theorem jt_94_4 : mTg 94 (4) = 98 := by decide
theorem jp_94_4 : (0 ≤ ((94 : Nat) : Int) + (4)) = True := by decide
theorem jt_95_27 : mTg 95 (27) = 122 := by decide
theorem jp_95_27 : (0 ≤ ((95 : Nat) : Int) + (27)) = True := by decide
theorem jt_96_m50 : mTg 96 (-50) = 46 := by decide
theorem jp_96_m50 : (0 ≤ ((96 : Nat) : Int) + (-50)) = True := by decide
theorem jt_96_7 : mTg 96 (7) = 103 := by decide
theorem jp_96_7 : (0 ≤ ((96 : Nat) : Int) + (7)) = True := by decide
theorem jt_97_4 : mTg 97 (4) = 101 := by decide
theorem jp_97_4 : (0 ≤ ((97 : Nat) : Int) + (4)) = True := by decide
theorem jt_99_5 : mTg 99 (5) = 104 := by decide
theorem jp_99_5 : (0 ≤ ((99 : Nat) : Int) + (5)) = True := by decide
theorem jt_100_7 : mTg 100 (7) = 107 := by decide
theorem jp_100_7 : (0 ≤ ((100 : Nat) : Int) + (7)) = True := by decide
theorem jt_102_6 : mTg 102 (6) = 108 := by decide
theorem jp_102_6 : (0 ≤ ((102 : Nat) : Int) + (6)) = True := by decide
theorem jt_103_m98 : mTg 103 (-98) = 5 := by decide
theorem jp_103_m98 : (0 ≤ ((103 : Nat) : Int) + (-98)) = True := by decide
theorem jt_104_4 : mTg 104 (4) = 108 := by decide
theorem jp_104_4 : (0 ≤ ((104 : Nat) : Int) + (4)) = True := by decide
theorem jt_105_154 : mTg 105 (154) = 259 := by decide
theorem jp_105_154 : (0 ≤ ((105 : Nat) : Int) + (154)) = True := by decide
theorem jt_106_m83 : mTg 106 (-83) = 23 := by decide
theorem jp_106_m83 : (0 ≤ ((106 : Nat) : Int) + (-83)) = True := by decide
theorem jt_106_m49 : mTg 106 (-49) = 57 := by decide
theorem jp_106_m49 : (0 ≤ ((106 : Nat) : Int) + (-49)) = True := by decide
theorem jt_107_m33 : mTg 107 (-33) = 74 := by decide
theorem jp_107_m33 : (0 ≤ ((107 : Nat) : Int) + (-33)) = True := by decide
theorem jt_109_8 : mTg 109 (8) = 117 := by decide
theorem jp_109_8 : (0 ≤ ((109 : Nat) : Int) + (8)) = True := by decide
theorem jt_112_46 : mTg 112 (46) = 158 := by decide
theorem jp_112_46 : (0 ≤ ((112 : Nat) : Int) + (46)) = True := by decide
theorem jt_114_25 : mTg 114 (25) = 139 := by decide
theorem jp_114_25 : (0 ≤ ((114 : Nat) : Int) + (25)) = True := by decide
theorem jt_114_139 : mTg 114 (139) = 253 := by decide
theorem jp_114_139 : (0 ≤ ((114 : Nat) : Int) + (139)) = True := by decide
theorem jt_119_13 : mTg 119 (13) = 132 := by decide
theorem jp_119_13 : (0 ≤ ((119 : Nat) : Int) + (13)) = True := by decide
theorem jt_121_m76 : mTg 121 (-76) = 45 := by decide
theorem jp_121_m76 : (0 ≤ ((121 : Nat) : Int) + (-76)) = True := by decide
theorem jt_121_37 : mTg 121 (37) = 158 := by decide
theorem jp_121_37 : (0 ≤ ((121 : Nat) : Int) + (37)) = True := by decide
theorem jt_123_130 : mTg 123 (130) = 253 := by decide
theorem jp_123_130 : (0 ≤ ((123 : Nat) : Int) + (130)) = True := by decide
theorem jt_125_m46 : mTg 125 (-46) = 79 := by decide
theorem jp_125_m46 : (0 ≤ ((125 : Nat) : Int) + (-46)) = True := by decide
theorem jt_129_10 : mTg 129 (10) = 139 := by decide
theorem jp_129_10 : (0 ≤ ((129 : Nat) : Int) + (10)) = True := by decide
theorem jt_136_10 : mTg 136 (10) = 146 := by decide
theorem jp_136_10 : (0 ≤ ((136 : Nat) : Int) + (10)) = True := by decide
theorem jt_138_115 : mTg 138 (115) = 253 := by decide
theorem jp_138_115 : (0 ≤ ((138 : Nat) : Int) + (115)) = True := by decide
theorem jt_143_11 : mTg 143 (11) = 154 := by decide
theorem jp_143_11 : (0 ≤ ((143 : Nat) : Int) + (11)) = True := by decide
theorem jt_143_15 : mTg 143 (15) = 158 := by decide
theorem jp_143_15 : (0 ≤ ((143 : Nat) : Int) + (15)) = True := by decide
theorem jt_151_102 : mTg 151 (102) = 253 := by decide
theorem jp_151_102 : (0 ≤ ((151 : Nat) : Int) + (102)) = True := by decide
theorem jt_160_6 : mTg 160 (6) = 166 := by decide
theorem jp_160_6 : (0 ≤ ((160 : Nat) : Int) + (6)) = True := by decide
theorem jt_161_m106 : mTg 161 (-106) = 55 := by decide
theorem jp_161_m106 : (0 ≤ ((161 : Nat) : Int) + (-106)) = True := by decide
theorem jt_163_90 : mTg 163 (90) = 253 := by decide
theorem jp_163_90 : (0 ≤ ((163 : Nat) : Int) + (90)) = True := by decide
theorem jt_178_36 : mTg 178 (36) = 214 := by decide
theorem jp_178_36 : (0 ≤ ((178 : Nat) : Int) + (36)) = True := by decide
theorem jt_191_13 : mTg 191 (13) = 204 := by decide
theorem jp_191_13 : (0 ≤ ((191 : Nat) : Int) + (13)) = True := by decide
theorem jt_201_4 : mTg 201 (4) = 205 := by decide
theorem jp_201_4 : (0 ≤ ((201 : Nat) : Int) + (4)) = True := by decide
theorem jt_211_m39 : mTg 211 (-39) = 172 := by decide
theorem jp_211_m39 : (0 ≤ ((211 : Nat) : Int) + (-39)) = True := by decide
theorem jt_226_15 : mTg 226 (15) = 241 := by decide
theorem jp_226_15 : (0 ≤ ((226 : Nat) : Int) + (15)) = True := by decide
theorem jt_235_6 : mTg 235 (6) = 241 := by decide
theorem jp_235_6 : (0 ≤ ((235 : Nat) : Int) + (6)) = True := by decide
theorem jt_238_15 : mTg 238 (15) = 253 := by decide
theorem jp_238_15 : (0 ≤ ((238 : Nat) : Int) + (15)) = True := by decide
theorem jt_256_m159 : mTg 256 (-159) = 97 := by decide
theorem jp_256_m159 : (0 ≤ ((256 : Nat) : Int) + (-159)) = True := by decide
theorem mI_0 (h : mH) (k : mK) (bl : Nat) (Q : Int32 → mS → Prop) (X : mT → Prop) (pc : Nat) (lv : List (Option Value)) (st : List Value) (σ : mS) (v : Int) : mIns h k bl Q X pc lv st σ (.iconst v) 1 = (X (pc + 1, lv, .int (Int32.ofInt v) :: st, σ)) := rfl
theorem mI_1 (h : mH) (k : mK) (bl : Nat) (Q : Int32 → mS → Prop) (X : mT → Prop) (pc : Nat) (lv : List (Option Value)) (st : List Value) (σ : mS) (v : Int) : mIns h k bl Q X pc lv st σ (.bipush v) 2 = (X (pc + 2, lv, .int (Int8.ofInt v).toInt32 :: st, σ)) := rfl
theorem mI_2 (h : mH) (k : mK) (bl : Nat) (Q : Int32 → mS → Prop) (X : mT → Prop) (pc : Nat) (lv : List (Option Value)) (st : List Value) (σ : mS) (v : Int) : mIns h k bl Q X pc lv st σ (.sipush v) 3 = (X (pc + 3, lv, .int (Int16.ofInt v).toInt32 :: st, σ)) := rfl
theorem mI_3 (h : mH) (k : mK) (bl : Nat) (Q : Int32 → mS → Prop) (X : mT → Prop) (pc : Nat) (lv : List (Option Value)) (st : List Value) (σ : mS) (j : Nat) : mIns h k bl Q X pc lv st σ (.ldc j) 2 = (mKon k X (pc + 2) lv st σ j) := rfl
theorem mI_4 (h : mH) (k : mK) (bl : Nat) (Q : Int32 → mS → Prop) (X : mT → Prop) (pc : Nat) (lv : List (Option Value)) (st : List Value) (σ : mS) (j : Nat) : mIns h k bl Q X pc lv st σ (.ldc_w j) 3 = (mKon k X (pc + 3) lv st σ j) := rfl
theorem mI_5 (h : mH) (k : mK) (bl : Nat) (Q : Int32 → mS → Prop) (X : mT → Prop) (pc : Nat) (lv : List (Option Value)) (st : List Value) (σ : mS) (j : Fin 4) : mIns h k bl Q X pc lv st σ (.iload_n j) 1 = (mLdI X (pc + 1) lv st σ j.val) := rfl
theorem mI_6 (h : mH) (k : mK) (bl : Nat) (Q : Int32 → mS → Prop) (X : mT → Prop) (pc : Nat) (lv : List (Option Value)) (st : List Value) (σ : mS) (j : Nat) : mIns h k bl Q X pc lv st σ (.iload j) 2 = (mLdI X (pc + 2) lv st σ j) := rfl
theorem mI_7 (h : mH) (k : mK) (bl : Nat) (Q : Int32 → mS → Prop) (X : mT → Prop) (pc : Nat) (lv : List (Option Value)) (st : List Value) (σ : mS) (j : Fin 4) : mIns h k bl Q X pc lv st σ (.aload_n j) 1 = (mLdA X (pc + 1) lv st σ j.val) := rfl
theorem mI_8 (h : mH) (k : mK) (bl : Nat) (Q : Int32 → mS → Prop) (X : mT → Prop) (pc : Nat) (lv : List (Option Value)) (st : List Value) (σ : mS) (j : Fin 4) : mIns h k bl Q X pc lv st σ (.istore_n j) 1 = (mStI X (pc + 1) lv st σ j.val) := rfl
theorem mI_9 (h : mH) (k : mK) (bl : Nat) (Q : Int32 → mS → Prop) (X : mT → Prop) (pc : Nat) (lv : List (Option Value)) (st : List Value) (σ : mS) (j : Nat) : mIns h k bl Q X pc lv st σ (.istore j) 2 = (mStI X (pc + 2) lv st σ j) := rfl
theorem mI_10 (h : mH) (k : mK) (bl : Nat) (Q : Int32 → mS → Prop) (X : mT → Prop) (pc : Nat) (lv : List (Option Value)) (st : List Value) (σ : mS) (j : Nat) (v : Int) : mIns h k bl Q X pc lv st σ (.iinc j v) 3 = (mInc X (pc + 3) lv st σ j (Int32.ofInt v)) := rfl
theorem mI_11 (h : mH) (k : mK) (bl : Nat) (Q : Int32 → mS → Prop) (X : mT → Prop) (pc : Nat) (lv : List (Option Value)) (st : List Value) (σ : mS)  : mIns h k bl Q X pc lv st σ .iadd 1 = (mBin X (pc + 1) lv st σ (fun x y => x + y)) := rfl
theorem mI_12 (h : mH) (k : mK) (bl : Nat) (Q : Int32 → mS → Prop) (X : mT → Prop) (pc : Nat) (lv : List (Option Value)) (st : List Value) (σ : mS)  : mIns h k bl Q X pc lv st σ .isub 1 = (mBin X (pc + 1) lv st σ (fun x y => x - y)) := rfl
theorem mI_13 (h : mH) (k : mK) (bl : Nat) (Q : Int32 → mS → Prop) (X : mT → Prop) (pc : Nat) (lv : List (Option Value)) (st : List Value) (σ : mS)  : mIns h k bl Q X pc lv st σ .imul 1 = (mBin X (pc + 1) lv st σ (fun x y => x * y)) := rfl
theorem mI_14 (h : mH) (k : mK) (bl : Nat) (Q : Int32 → mS → Prop) (X : mT → Prop) (pc : Nat) (lv : List (Option Value)) (st : List Value) (σ : mS)  : mIns h k bl Q X pc lv st σ .iand 1 = (mBin X (pc + 1) lv st σ (fun x y => x &&& y)) := rfl
theorem mI_15 (h : mH) (k : mK) (bl : Nat) (Q : Int32 → mS → Prop) (X : mT → Prop) (pc : Nat) (lv : List (Option Value)) (st : List Value) (σ : mS)  : mIns h k bl Q X pc lv st σ .ior 1 = (mBin X (pc + 1) lv st σ (fun x y => x ||| y)) := rfl
theorem mI_16 (h : mH) (k : mK) (bl : Nat) (Q : Int32 → mS → Prop) (X : mT → Prop) (pc : Nat) (lv : List (Option Value)) (st : List Value) (σ : mS)  : mIns h k bl Q X pc lv st σ .ixor 1 = (mBin X (pc + 1) lv st σ (fun x y => x ^^^ y)) := rfl
theorem mI_17 (h : mH) (k : mK) (bl : Nat) (Q : Int32 → mS → Prop) (X : mT → Prop) (pc : Nat) (lv : List (Option Value)) (st : List Value) (σ : mS)  : mIns h k bl Q X pc lv st σ .ishl 1 = (mBin X (pc + 1) lv st σ (fun x y => x <<< (y &&& 31))) := rfl
theorem mI_18 (h : mH) (k : mK) (bl : Nat) (Q : Int32 → mS → Prop) (X : mT → Prop) (pc : Nat) (lv : List (Option Value)) (st : List Value) (σ : mS)  : mIns h k bl Q X pc lv st σ .ishr 1 = (mBin X (pc + 1) lv st σ (fun x y => x >>> (y &&& 31))) := rfl
theorem mI_19 (h : mH) (k : mK) (bl : Nat) (Q : Int32 → mS → Prop) (X : mT → Prop) (pc : Nat) (lv : List (Option Value)) (st : List Value) (σ : mS)  : mIns h k bl Q X pc lv st σ .iushr 1 = (mBin X (pc + 1) lv st σ (fun x y => (x.toUInt32 >>> (y.toUInt32 &&& Int32.toUInt32 31)).toInt32)) := rfl
theorem mI_20 (h : mH) (k : mK) (bl : Nat) (Q : Int32 → mS → Prop) (X : mT → Prop) (pc : Nat) (lv : List (Option Value)) (st : List Value) (σ : mS)  : mIns h k bl Q X pc lv st σ .idiv 1 = (mDiv X (pc + 1) lv st σ (fun x y => x / y)) := rfl
theorem mI_21 (h : mH) (k : mK) (bl : Nat) (Q : Int32 → mS → Prop) (X : mT → Prop) (pc : Nat) (lv : List (Option Value)) (st : List Value) (σ : mS)  : mIns h k bl Q X pc lv st σ .irem 1 = (mDiv X (pc + 1) lv st σ (fun x y => x - x / y * y)) := rfl
theorem mI_22 (h : mH) (k : mK) (bl : Nat) (Q : Int32 → mS → Prop) (X : mT → Prop) (pc : Nat) (lv : List (Option Value)) (st : List Value) (σ : mS) (off : Int) : mIns h k bl Q X pc lv st σ (.ifCond .eq off) 3 = (mIf1 X pc off lv st σ (fun x => x = 0)) := rfl
theorem mI_23 (h : mH) (k : mK) (bl : Nat) (Q : Int32 → mS → Prop) (X : mT → Prop) (pc : Nat) (lv : List (Option Value)) (st : List Value) (σ : mS) (off : Int) : mIns h k bl Q X pc lv st σ (.ifCond .ne off) 3 = (mIfN1 X pc off lv st σ) := rfl
theorem mI_24 (h : mH) (k : mK) (bl : Nat) (Q : Int32 → mS → Prop) (X : mT → Prop) (pc : Nat) (lv : List (Option Value)) (st : List Value) (σ : mS) (off : Int) : mIns h k bl Q X pc lv st σ (.ifCond .lt off) 3 = (mIf1 X pc off lv st σ (fun x => x < 0)) := rfl
theorem mI_25 (h : mH) (k : mK) (bl : Nat) (Q : Int32 → mS → Prop) (X : mT → Prop) (pc : Nat) (lv : List (Option Value)) (st : List Value) (σ : mS) (off : Int) : mIns h k bl Q X pc lv st σ (.ifCond .ge off) 3 = (mIf1 X pc off lv st σ (fun x => 0 ≤ x)) := rfl
theorem mI_26 (h : mH) (k : mK) (bl : Nat) (Q : Int32 → mS → Prop) (X : mT → Prop) (pc : Nat) (lv : List (Option Value)) (st : List Value) (σ : mS) (off : Int) : mIns h k bl Q X pc lv st σ (.ifCond .gt off) 3 = (mIf1 X pc off lv st σ (fun x => 0 < x)) := rfl
theorem mI_27 (h : mH) (k : mK) (bl : Nat) (Q : Int32 → mS → Prop) (X : mT → Prop) (pc : Nat) (lv : List (Option Value)) (st : List Value) (σ : mS) (off : Int) : mIns h k bl Q X pc lv st σ (.ifCond .le off) 3 = (mIf1 X pc off lv st σ (fun x => x ≤ 0)) := rfl
theorem mI_28 (h : mH) (k : mK) (bl : Nat) (Q : Int32 → mS → Prop) (X : mT → Prop) (pc : Nat) (lv : List (Option Value)) (st : List Value) (σ : mS) (off : Int) : mIns h k bl Q X pc lv st σ (.if_icmp .eq off) 3 = (mIf2 X pc off lv st σ (fun x y => x = y)) := rfl
theorem mI_29 (h : mH) (k : mK) (bl : Nat) (Q : Int32 → mS → Prop) (X : mT → Prop) (pc : Nat) (lv : List (Option Value)) (st : List Value) (σ : mS) (off : Int) : mIns h k bl Q X pc lv st σ (.if_icmp .ne off) 3 = (mIfN2 X pc off lv st σ) := rfl
theorem mI_30 (h : mH) (k : mK) (bl : Nat) (Q : Int32 → mS → Prop) (X : mT → Prop) (pc : Nat) (lv : List (Option Value)) (st : List Value) (σ : mS) (off : Int) : mIns h k bl Q X pc lv st σ (.if_icmp .lt off) 3 = (mIf2 X pc off lv st σ (fun x y => x < y)) := rfl
theorem mI_31 (h : mH) (k : mK) (bl : Nat) (Q : Int32 → mS → Prop) (X : mT → Prop) (pc : Nat) (lv : List (Option Value)) (st : List Value) (σ : mS) (off : Int) : mIns h k bl Q X pc lv st σ (.if_icmp .ge off) 3 = (mIf2 X pc off lv st σ (fun x y => y ≤ x)) := rfl
theorem mI_32 (h : mH) (k : mK) (bl : Nat) (Q : Int32 → mS → Prop) (X : mT → Prop) (pc : Nat) (lv : List (Option Value)) (st : List Value) (σ : mS) (off : Int) : mIns h k bl Q X pc lv st σ (.if_icmp .gt off) 3 = (mIf2 X pc off lv st σ (fun x y => y < x)) := rfl
theorem mI_33 (h : mH) (k : mK) (bl : Nat) (Q : Int32 → mS → Prop) (X : mT → Prop) (pc : Nat) (lv : List (Option Value)) (st : List Value) (σ : mS) (off : Int) : mIns h k bl Q X pc lv st σ (.if_icmp .le off) 3 = (mIf2 X pc off lv st σ (fun x y => x ≤ y)) := rfl
theorem mI_34 (h : mH) (k : mK) (bl : Nat) (Q : Int32 → mS → Prop) (X : mT → Prop) (pc : Nat) (lv : List (Option Value)) (st : List Value) (σ : mS) (off : Int) : mIns h k bl Q X pc lv st σ (.goto off) 3 = (mJ X pc off lv st σ) := rfl
theorem mI_35 (h : mH) (k : mK) (bl : Nat) (Q : Int32 → mS → Prop) (X : mT → Prop) (pc : Nat) (lv : List (Option Value)) (st : List Value) (σ : mS)  : mIns h k bl Q X pc lv st σ .dup 1 = (mDup X (pc + 1) lv st σ) := rfl
theorem mI_36 (h : mH) (k : mK) (bl : Nat) (Q : Int32 → mS → Prop) (X : mT → Prop) (pc : Nat) (lv : List (Option Value)) (st : List Value) (σ : mS)  : mIns h k bl Q X pc lv st σ .dup2 1 = (mDup2 X (pc + 1) lv st σ) := rfl
theorem mI_37 (h : mH) (k : mK) (bl : Nat) (Q : Int32 → mS → Prop) (X : mT → Prop) (pc : Nat) (lv : List (Option Value)) (st : List Value) (σ : mS) (j : Nat) : mIns h k bl Q X pc lv st σ (.getfield j) 3 = (mGet h k X (pc + 3) lv st σ j) := rfl
theorem mI_38 (h : mH) (k : mK) (bl : Nat) (Q : Int32 → mS → Prop) (X : mT → Prop) (pc : Nat) (lv : List (Option Value)) (st : List Value) (σ : mS) (j : Nat) : mIns h k bl Q X pc lv st σ (.putfield j) 3 = (mPut h k X (pc + 3) lv st σ j) := rfl
theorem mI_39 (h : mH) (k : mK) (bl : Nat) (Q : Int32 → mS → Prop) (X : mT → Prop) (pc : Nat) (lv : List (Option Value)) (st : List Value) (σ : mS)  : mIns h k bl Q X pc lv st σ .iaload 1 = (mLdE h X (pc + 1) lv st σ) := rfl
theorem mI_40 (h : mH) (k : mK) (bl : Nat) (Q : Int32 → mS → Prop) (X : mT → Prop) (pc : Nat) (lv : List (Option Value)) (st : List Value) (σ : mS)  : mIns h k bl Q X pc lv st σ .iastore 1 = (mStE h X (pc + 1) lv st σ) := rfl
theorem mI_41 (h : mH) (k : mK) (bl : Nat) (Q : Int32 → mS → Prop) (X : mT → Prop) (pc : Nat) (lv : List (Option Value)) (st : List Value) (σ : mS)  : mIns h k bl Q X pc lv st σ .aaload 1 = (mLdR h X (pc + 1) lv st σ) := rfl
theorem mI_42 (h : mH) (k : mK) (bl : Nat) (Q : Int32 → mS → Prop) (X : mT → Prop) (pc : Nat) (lv : List (Option Value)) (st : List Value) (σ : mS) (d : Int) (lo : Int) (hi : Int) (os : Array Int) (n : Nat) : mIns h k bl Q X pc lv st σ (.tableswitch d lo hi os) n = (mTsw X pc lv st σ d lo hi os.toList) := rfl
theorem mI_43 (h : mH) (k : mK) (bl : Nat) (Q : Int32 → mS → Prop) (X : mT → Prop) (pc : Nat) (lv : List (Option Value)) (st : List Value) (σ : mS) (d : Int) (ps : Array (Int × Int)) (n : Nat) : mIns h k bl Q X pc lv st σ (.lookupswitch d ps) n = (mLsw X pc lv st σ d ps.toList) := rfl
theorem mI_44 (h : mH) (k : mK) (bl : Nat) (Q : Int32 → mS → Prop) (X : mT → Prop) (pc : Nat) (lv : List (Option Value)) (st : List Value) (σ : mS) (j : Nat) : mIns h k bl Q X pc lv st σ (.invokevirtual j) 3 = (mCaV k X (pc + 3) lv st σ j) := rfl
theorem mI_45 (h : mH) (k : mK) (bl : Nat) (Q : Int32 → mS → Prop) (X : mT → Prop) (pc : Nat) (lv : List (Option Value)) (st : List Value) (σ : mS) (j : Nat) : mIns h k bl Q X pc lv st σ (.invokestatic j) 3 = (mCaS k X (pc + 3) lv st σ j) := rfl
theorem mI_46 (h : mH) (k : mK) (bl : Nat) (Q : Int32 → mS → Prop) (X : mT → Prop) (pc : Nat) (lv : List (Option Value)) (st : List Value) (σ : mS)  : mIns h k bl Q X pc lv st σ .ireturn 1 = (mRetI bl Q st σ) := rfl
theorem mI_47 (h : mH) (k : mK) (bl : Nat) (Q : Int32 → mS → Prop) (X : mT → Prop) (pc : Nat) (lv : List (Option Value)) (st : List Value) (σ : mS)  : mIns h k bl Q X pc lv st σ .return_ 1 = (mRetV bl Q st σ) := rfl

def mArg : List Int32 → Nat → Int32
  | [], _ => 0
  | a :: _, 0 => a
  | _ :: l, k + 1 => mArg l k
theorem mx_l0 (xs : List Int32) (h : xs.length = 0) : xs = [] := List.eq_nil_of_length_eq_zero h
theorem mx_l1 (xs : List Int32) (h : xs.length = 1) : ∃ a, xs = [a] := match xs, h with
  | [a], _ => ⟨a, rfl⟩
theorem mx_l2 (xs : List Int32) (h : xs.length = 2) : ∃ a b, xs = [a, b] := match xs, h with
  | [a, b], _ => ⟨a, b, rfl⟩
theorem mx_l3 (xs : List Int32) (h : xs.length = 3) : ∃ a b c, xs = [a, b, c] := match xs, h with
  | [a, b, c], _ => ⟨a, b, c, rfl⟩
/-- a callee that answers an int (or a boolean) and leaves the store -/
abbrev mF (np : Nat) (stt : Bool) (pre : mS → List Int32 → Prop) (f : mS → List Int32 → Int32) : mC := (np, stt, false, pre, fun σ xs r σ' => σ' = σ ∧ r = f σ xs)
/-- a callee that may change the store: its answer and the new store -/
abbrev mG (np : Nat) (stt : Bool) (pre : mS → List Int32 → Prop) (f : mS → List Int32 → Int32 × mS) : mC := (np, stt, false, pre, fun σ xs r σ' => σ' = (f σ xs).2 ∧ r = (f σ xs).1)
/-- one that answers nothing -/
abbrev mGv (np : Nat) (stt : Bool) (pre : mS → List Int32 → Prop) (f : mS → List Int32 → mS) : mC := (np, stt, true, pre, fun σ xs r σ' => σ' = f σ xs ∧ r = 0)
theorem mx_u (f : Nat → Int32) (k : Nat) (x : Int32) (j : Nat) : upd f k x j = if j = k then x else f j := rfl
theorem mx_u2 (g : Nat → Nat → Int32) (a i : Nat) (x : Int32) (b : Nat) : up2 g a i x b = if b = a then upd (g b) i x else g b := rfl
def b32 (b : Bool) : Int32 := bif b then 1 else 0
theorem mx_b0 (b : Bool) : (b32 b = 0) = (b = false) := by cases b <;> decide
theorem mx_b1 (b : Bool) : (b32 b = 1) = (b = true) := by cases b <;> decide
theorem b32_or (b : Bool) : b32 b = 0 ∨ b32 b = 1 := by cases b <;> decide
end
section
/-! WHAT THE METHODS ANSWER, as functions of the arrays and numbers that they read -/
def hB (s x : Int32) : Bool := decide ((s >>> (x &&& 31)) &&& 1 = 1)
def cN (p : Nat → Bool) : Nat → Nat
  | 0 => 0
  | n + 1 => cN p n + (bif p n then 1 else 0)
def anyN (p : Nat → Bool) : Nat → Bool
  | 0 => false
  | n + 1 => anyN p n || p n
def allN (p : Nat → Bool) : Nat → Bool
  | 0 => true
  | n + 1 => allN p n && p n
def orN (f : Nat → Int32) : Nat → Int32
  | 0 => 0
  | n + 1 => orN f n ||| f n
def smN (f : Nat → Int32) : Nat → Int32
  | 0 => 0
  | n + 1 => smN f n + f n
def isInF (v lo hi : Int32) : Bool := decide (lo ≤ v) && decide (v ≤ hi)
def bothF (st : Nat → Int32) (n : Nat) (a b : Int32) : Int32 := nI (cN (fun i => hB (st i) a && hB (st i) b) n)
def peopF (st ow : Nat → Int32) (n : Nat) (a b : Int32) : Int32 := nI (cN (fun p => anyN (fun i => decide (ow i = nI p) && (hB (st i) a && hB (st i) b)) n) 8)
def kinF (st ow : Nat → Int32) (n : Nat) (nb grp a b : Int32) : Int32 := if bothF st n a a = 0 ∨ bothF st n b b = 0 ∨ peopF st ow n a b < grp then 0 else 1000 * bothF st n a b * nb / (bothF st n a a * bothF st n b b) - 1000
def takF (st ow : Nat → Int32) (n : Nat) (p : Int32) : Int32 := orN (fun i => if ow i = p then st i else 0) n
def scoF (kin : Int32 → Int32 → Int32) (tk : Int32) (t : Nat) (x : Int32) : Int32 := smN (fun j => if ¬ nI j = x ∧ hB tk (nI j) = true then kin x (nI j) else 0) t
def newF (came : Nat → Int32) (day : Int32) (t : Nat) : Int32 := orN (fun x => if day - came x < 10 then 1 <<< (nI x &&& 31) else 0) t
def mayF (td : Nat → Int32) (day s0 : Int32) : Nat → Int32
  | 0 => s0
  | n + 1 => if day < td n then mayF td day s0 n &&& ((1 <<< (nI n &&& 31)) ^^^ (-1)) else mayF td day s0 n
def bstF (f : Int32 → Int32) (s : Int32) : Nat → Int32
  | 0 => -1
  | n + 1 => if hB s (nI n) = true ∧ (bstF f s n = -1 ∨ f (bstF f s n) < f (nI n)) then nI n else bstF f s n
def bitF (v : Int32) : Int32 := smN (fun k => (v >>> (nI k &&& 31)) &&& 1) 12
def keepF (sort rule : Nat → Int32) (spread : Int32) (t : Nat) (set : Int32) : Bool := allN (fun s => ! decide (spread < nI (cN (fun x => hB set (nI x) && decide (sort x = nI s)) t))) 4 && allN (fun x => ! (hB set (nI x) && ! decide (rule x &&& set = 0))) t
def sumF (w : Nat → Int32) (t : Nat) (set : Int32) : Int32 := smN (fun x => if hB set (nI x) = true then w x else 0) t
/-- one set tried for a list: (best, its sum) -/
def lstS (may k need : Int32) (keep : Int32 → Bool) (sum : Int32 → Int32) (set : Int32) (b : Int32 × Int32) : Int32 × Int32 :=
  if set &&& (may ^^^ (-1)) = 0 ∧ bitF set ≤ k ∧ bitF b.1 ≤ bitF set ∧ (need = 0 ∨ ¬ set &&& need = 0) ∧ keep set = true ∧ ¬ (bitF set = bitF b.1 ∧ sum set ≤ b.2) then (set, sum set) else b
/-- all sets 1 .. n tried -/
def lstF (may k need : Int32) (keep : Int32 → Bool) (sum : Int32 → Int32) : Nat → Int32 × Int32
  | 0 => (0, 0)
  | n + 1 => lstS may k need keep sum (nI (n + 1)) (lstF may k need keep sum n)
/-- baskets i .. i + n - 1 moved down by one -/
def shF (f : Nat → Int32) (i : Nat) : Nat → (Nat → Int32)
  | 0 => f
  | n + 1 => upd (shF f i n) (i + n) (shF f i n (i + n + 1))
/-! the model's store -/
def mTn (σ : mS) : Nat := (σ.1 0).toNatClampNeg
def mBn (σ : mS) : Nat := (σ.1 2).toNatClampNeg
def mKin (σ : mS) (a b : Int32) : Int32 := kinF (σ.2 6) (σ.2 4) (mBn σ) (σ.1 2) (σ.1 3) a b
def mTak (σ : mS) (p : Int32) : Int32 := takF (σ.2 6) (σ.2 4) (mBn σ) p
def mSco (σ : mS) (p x : Int32) : Int32 := scoF (mKin σ) (mTak σ p) (mTn σ) x
def mNew (σ : mS) : Int32 := newF (σ.2 2) (σ.1 1) (mTn σ)
def mMay (σ : mS) (p : Int32) : Int32 := mayF (fun x => σ.2 9 (12 * p.toNatClampNeg + x)) (σ.1 1) (σ.1 7 &&& (mTak σ p ^^^ (-1))) (mTn σ)
def mKeep (σ : mS) (set : Int32) : Bool := keepF (σ.2 1) (σ.2 3) (σ.1 4) (mTn σ) set
def mNeed (σ : mS) (p : Int32) : Int32 := if (σ.2 7 p.toNatClampNeg + 1) - (σ.2 7 p.toNatClampNeg + 1) / σ.1 5 * σ.1 5 = 0 then mMay σ p &&& mNew σ else 0
def mLst (σ : mS) (p k : Int32) : Int32 × Int32 := lstF (mMay σ p) k (mNeed σ p) (mKeep σ) (sumF (fun x => mSco σ p (nI x)) (mTn σ)) (2 ^ mTn σ - 1)
/-- the model's store is sound: how many things and baskets, whose the baskets are, the numbers that divide -/
def mOk (σ : mS) : Prop := (σ.1 0 = nI (mTn σ) ∧ mTn σ ≤ 12) ∧ (σ.1 2 = nI (mBn σ) ∧ mBn σ ≤ 60) ∧ (∀ i, i < mBn σ → ∃ p, p < 8 ∧ σ.2 4 i = nI p) ∧ ¬ σ.1 5 = 0
end
section
theorem isIn_ix {x : Int32} {n : Nat} (hn : n ≤ 1000) : isInF x 0 (nI n - 1) = true ↔ ∃ j, j < n ∧ x = nI j := by
  unfold isInF
  rw [Bool.and_eq_true, decide_eq_true_eq, decide_eq_true_eq, Int32.le_iff_toInt_le, Int32.le_iff_toInt_le]
  have e : (nI n - 1).toInt = (n : Int) - 1 := by
    have := pk_sub_toInt (a := n) (b := 1) (by omega) (by omega)
    exact this
  rw [e, Int32.toInt_zero]
  constructor
  · rintro ⟨h1, h2⟩
    obtain ⟨j, hj, rfl⟩ := nI_of (x := x) (by rw [Int32.lt_iff_toInt_lt, Int32.toInt_zero]; omega)
    rw [nI_toInt hj] at h2
    exact ⟨j, by omega, rfl⟩
  · rintro ⟨j, hj, rfl⟩
    rw [nI_toInt (by omega)]
    omega
theorem isP_ix {x : Int32} : isInF x 0 7 = true ↔ ∃ j, j < 8 ∧ x = nI j := by
  have := isIn_ix (x := x) (n := 8) (by omega)
  rwa [show nI 8 - 1 = 7 by decide +kernel] at this
theorem nI_i {j n : Nat} (h : j < n) (hn : n ≤ 1000) : vp_in (nI j) n ∧ (nI j).toNatClampNeg = j := ⟨vp_in_nI h (by omega), nI_clamp (by omega)⟩
theorem nI_inj {a b : Nat} (ha : a < 1000) (hb : b < 1000) (h : nI a = nI b) : a = b := (nI_eq (by omega) (by omega)).mp h
theorem mThing_ix {σ : mS} (h : mOk σ) {x : Int32} (hx : isInF x 0 (σ.1 0 - 1) = true) : ∃ j, j < mTn σ ∧ x = nI j ∧ vp_in x 12 ∧ x.toNatClampNeg = j := by
  obtain ⟨⟨h1, h2⟩, -⟩ := h
  rw [h1] at hx
  obtain ⟨j, hj, rfl⟩ := (isIn_ix (by omega)).mp hx
  exact ⟨j, hj, rfl, (nI_i (n := 12) (by omega) (by omega)).1, nI_clamp (by omega)⟩
theorem mPers_ix {x : Int32} (hx : isInF x 0 7 = true) : ∃ j, j < 8 ∧ x = nI j ∧ vp_in x 8 ∧ x.toNatClampNeg = j := by
  obtain ⟨j, hj, rfl⟩ := isP_ix.mp hx
  exact ⟨j, hj, rfl, (nI_i (n := 8) hj (by omega)).1, nI_clamp (by omega)⟩
theorem mBask_ix {σ : mS} (h : mOk σ) {x : Int32} (hx : isInF x 0 (σ.1 2 - 1) = true) : ∃ j, j < mBn σ ∧ x = nI j ∧ vp_in x 60 ∧ x.toNatClampNeg = j := by
  obtain ⟨-, ⟨h1, h2⟩, -⟩ := h
  rw [h1] at hx
  obtain ⟨j, hj, rfl⟩ := (isIn_ix (by omega)).mp hx
  exact ⟨j, hj, rfl, (nI_i (n := 60) (by omega) (by omega)).1, nI_clamp (by omega)⟩
/-- an index into rows of twelve -/
theorem nI_row {p x : Nat} (hp : p < 8) (hx : x < 12) : 12 * nI p + nI x = nI (12 * p + x) ∧ vp_in (nI (12 * p + x)) 96 ∧ (nI (12 * p + x)).toNatClampNeg = 12 * p + x := by
  refine ⟨?_, (nI_i (n := 96) (by omega) (by omega)).1, nI_clamp (by omega)⟩
  rw [show (12 : Int32) = nI 12 from rfl, pk_mul, nI_add]
end
section
def mJ1 (X : mT → Prop) (tg nx : Nat) (lv : List (Option Value)) (st : List Value) (σ : mS) (c : Int32 → Prop) : Prop := match st with
  | .int x :: st' => (c x → X (tg, lv, st', σ)) ∧ (¬ c x → X (nx, lv, st', σ))
  | _ => False
def mJ2 (X : mT → Prop) (tg nx : Nat) (lv : List (Option Value)) (st : List Value) (σ : mS) (c : Int32 → Int32 → Prop) : Prop := match st with
  | .int y :: .int x :: st' => (c x y → X (tg, lv, st', σ)) ∧ (¬ c x y → X (nx, lv, st', σ))
  | _ => False
def mN1 (X : mT → Prop) (tg nx : Nat) (lv : List (Option Value)) (st : List Value) (σ : mS) : Prop := match st with
  | .int x :: st' => (x = 0 → X (nx, lv, st', σ)) ∧ (¬ x = 0 → X (tg, lv, st', σ))
  | _ => False
def mN2 (X : mT → Prop) (tg nx : Nat) (lv : List (Option Value)) (st : List Value) (σ : mS) : Prop := match st with
  | .int y :: .int x :: st' => (x = y → X (nx, lv, st', σ)) ∧ (¬ x = y → X (tg, lv, st', σ))
  | _ => False
theorem mStep_d {h : mH} {k : mK} {cc : ByteArray} {bl : Nat} {Q : Int32 → mS → Prop} {X : mT → Prop} {pc : Nat} {lv : List (Option Value)} {st : List Value} {σ : mS} {i : Instr} {n : Nat} (hd : decode cc pc = .ok (i, n)) : mStep h k cc bl Q X (pc, lv, st, σ) = mIns h k bl Q X pc lv st σ i n := by
  unfold mStep
  simp only [hd]
theorem mIf1_J {X : mT → Prop} {pc tg : Nat} {off : Int} {lv : List (Option Value)} {st : List Value} {σ : mS} {c : Int32 → Prop} (ht : mTg pc off = tg) (hp : (0 ≤ (pc : Int) + off) = True) : mIf1 X pc off lv st σ c = mJ1 X tg (pc + 3) lv st σ c := by
  unfold mIf1 mJ1 mBr
  simp only [ht, hp, true_and]
  rfl
theorem mIf2_J {X : mT → Prop} {pc tg : Nat} {off : Int} {lv : List (Option Value)} {st : List Value} {σ : mS} {c : Int32 → Int32 → Prop} (ht : mTg pc off = tg) (hp : (0 ≤ (pc : Int) + off) = True) : mIf2 X pc off lv st σ c = mJ2 X tg (pc + 3) lv st σ c := by
  unfold mIf2 mJ2 mBr
  simp only [ht, hp, true_and]
  rfl
theorem mIfN1_J {X : mT → Prop} {pc tg : Nat} {off : Int} {lv : List (Option Value)} {st : List Value} {σ : mS} (ht : mTg pc off = tg) (hp : (0 ≤ (pc : Int) + off) = True) : mIfN1 X pc off lv st σ = mN1 X tg (pc + 3) lv st σ := by
  unfold mIfN1 mN1
  simp only [ht, hp, true_and]
  rfl
theorem mIfN2_J {X : mT → Prop} {pc tg : Nat} {off : Int} {lv : List (Option Value)} {st : List Value} {σ : mS} (ht : mTg pc off = tg) (hp : (0 ≤ (pc : Int) + off) = True) : mIfN2 X pc off lv st σ = mN2 X tg (pc + 3) lv st σ := by
  unfold mIfN2 mN2
  simp only [ht, hp, true_and]
  rfl
theorem mJ_J {X : mT → Prop} {pc tg : Nat} {off : Int} {lv : List (Option Value)} {st : List Value} {σ : mS} (ht : mTg pc off = tg) (hp : (0 ≤ (pc : Int) + off) = True) : mJ X pc off lv st σ = X (tg, lv, st, σ) := by
  unfold mJ
  simp only [ht, hp, true_and]
section MROWS
variable (h : mH) (k : mK) (bl : Nat) (Q : Int32 → mS → Prop) (Y : mT → Prop) (lv : List (Option Value)) (st : List Value) (σ : mS)
theorem vX0_thing_0 : mStep h k cX0_thing bl Q Y (0, lv, st, σ) = (mLdI Y 1 lv st σ 1) := mStep_d dX0_thing_0
theorem vX0_thing_1 : mStep h k cX0_thing bl Q Y (1, lv, st, σ) = (mJ1 Y 18 4 lv st σ (fun x => x < 0)) := (mStep_d dX0_thing_1).trans (mIf1_J jt_1_17 jp_1_17)
theorem vX0_thing_4 : mStep h k cX0_thing bl Q Y (4, lv, st, σ) = (mLdI Y 5 lv st σ 1) := mStep_d dX0_thing_4
theorem vX0_thing_5 : mStep h k cX0_thing bl Q Y (5, lv, st, σ) = (Y (6, lv, .int (4) :: st, σ)) := by rw [mStep_d dX0_thing_5, ← mx_c4]; rfl
theorem vX0_thing_6 : mStep h k cX0_thing bl Q Y (6, lv, st, σ) = (mJ2 Y 18 9 lv st σ (fun x y => y ≤ x)) := (mStep_d dX0_thing_6).trans (mIf2_J jt_6_12 jp_6_12)
theorem vX0_thing_9 : mStep h k cX0_thing bl Q Y (9, lv, st, σ) = (mLdA Y 10 lv st σ 0) := mStep_d dX0_thing_9
theorem vX0_thing_10 : mStep h k cX0_thing bl Q Y (10, lv, st, σ) = (mGet h k Y 13 lv st σ 53) := mStep_d dX0_thing_10
theorem vX0_thing_13 : mStep h k cX0_thing bl Q Y (13, lv, st, σ) = (Y (15, lv, .int (12) :: st, σ)) := by rw [mStep_d dX0_thing_13, ← mx_b12]; rfl
theorem vX0_thing_15 : mStep h k cX0_thing bl Q Y (15, lv, st, σ) = (mJ2 Y 20 18 lv st σ (fun x y => x < y)) := (mStep_d dX0_thing_15).trans (mIf2_J jt_15_5 jp_15_5)
theorem vX0_thing_18 : mStep h k cX0_thing bl Q Y (18, lv, st, σ) = (Y (19, lv, .int (-1) :: st, σ)) := by rw [mStep_d dX0_thing_18, ← mx_cm1]; rfl
theorem vX0_thing_19 : mStep h k cX0_thing bl Q Y (19, lv, st, σ) = (mRetI bl Q st σ) := mStep_d dX0_thing_19
theorem vX0_thing_20 : mStep h k cX0_thing bl Q Y (20, lv, st, σ) = (mLdA Y 21 lv st σ 0) := mStep_d dX0_thing_20
theorem vX0_thing_21 : mStep h k cX0_thing bl Q Y (21, lv, st, σ) = (mGet h k Y 24 lv st σ 53) := mStep_d dX0_thing_21
theorem vX0_thing_24 : mStep h k cX0_thing bl Q Y (24, lv, st, σ) = (mStI Y 25 lv st σ 2) := mStep_d dX0_thing_24
theorem vX0_thing_25 : mStep h k cX0_thing bl Q Y (25, lv, st, σ) = (mLdA Y 26 lv st σ 0) := mStep_d dX0_thing_25
theorem vX0_thing_26 : mStep h k cX0_thing bl Q Y (26, lv, st, σ) = (mDup Y 27 lv st σ) := mStep_d dX0_thing_26
theorem vX0_thing_27 : mStep h k cX0_thing bl Q Y (27, lv, st, σ) = (mGet h k Y 30 lv st σ 53) := mStep_d dX0_thing_27
theorem vX0_thing_30 : mStep h k cX0_thing bl Q Y (30, lv, st, σ) = (Y (31, lv, .int (1) :: st, σ)) := by rw [mStep_d dX0_thing_30, ← mx_c1]; rfl
theorem vX0_thing_31 : mStep h k cX0_thing bl Q Y (31, lv, st, σ) = (mBin Y 32 lv st σ (fun x y => x + y)) := mStep_d dX0_thing_31
theorem vX0_thing_32 : mStep h k cX0_thing bl Q Y (32, lv, st, σ) = (mPut h k Y 35 lv st σ 53) := mStep_d dX0_thing_32
theorem vX0_thing_35 : mStep h k cX0_thing bl Q Y (35, lv, st, σ) = (mLdA Y 36 lv st σ 0) := mStep_d dX0_thing_35
theorem vX0_thing_36 : mStep h k cX0_thing bl Q Y (36, lv, st, σ) = (mGet h k Y 39 lv st σ 21) := mStep_d dX0_thing_36
theorem vX0_thing_39 : mStep h k cX0_thing bl Q Y (39, lv, st, σ) = (mLdI Y 40 lv st σ 2) := mStep_d dX0_thing_39
theorem vX0_thing_40 : mStep h k cX0_thing bl Q Y (40, lv, st, σ) = (mLdA Y 41 lv st σ 0) := mStep_d dX0_thing_40
theorem vX0_thing_41 : mStep h k cX0_thing bl Q Y (41, lv, st, σ) = (mGet h k Y 44 lv st σ 57) := mStep_d dX0_thing_41
theorem vX0_thing_44 : mStep h k cX0_thing bl Q Y (44, lv, st, σ) = (mStE h Y 45 lv st σ) := mStep_d dX0_thing_44
theorem vX0_thing_45 : mStep h k cX0_thing bl Q Y (45, lv, st, σ) = (mLdA Y 46 lv st σ 0) := mStep_d dX0_thing_45
theorem vX0_thing_46 : mStep h k cX0_thing bl Q Y (46, lv, st, σ) = (mGet h k Y 49 lv st σ 24) := mStep_d dX0_thing_46
theorem vX0_thing_49 : mStep h k cX0_thing bl Q Y (49, lv, st, σ) = (mLdI Y 50 lv st σ 1) := mStep_d dX0_thing_49
theorem vX0_thing_50 : mStep h k cX0_thing bl Q Y (50, lv, st, σ) = (mDup2 Y 51 lv st σ) := mStep_d dX0_thing_50
theorem vX0_thing_51 : mStep h k cX0_thing bl Q Y (51, lv, st, σ) = (mLdE h Y 52 lv st σ) := mStep_d dX0_thing_51
theorem vX0_thing_52 : mStep h k cX0_thing bl Q Y (52, lv, st, σ) = (Y (53, lv, .int (1) :: st, σ)) := by rw [mStep_d dX0_thing_52, ← mx_c1]; rfl
theorem vX0_thing_53 : mStep h k cX0_thing bl Q Y (53, lv, st, σ) = (mLdI Y 54 lv st σ 2) := mStep_d dX0_thing_53
theorem vX0_thing_54 : mStep h k cX0_thing bl Q Y (54, lv, st, σ) = (mBin Y 55 lv st σ (fun x y => x <<< (y &&& 31))) := mStep_d dX0_thing_54
theorem vX0_thing_55 : mStep h k cX0_thing bl Q Y (55, lv, st, σ) = (mBin Y 56 lv st σ (fun x y => x ||| y)) := mStep_d dX0_thing_55
theorem vX0_thing_56 : mStep h k cX0_thing bl Q Y (56, lv, st, σ) = (mStE h Y 57 lv st σ) := mStep_d dX0_thing_56
theorem vX0_thing_57 : mStep h k cX0_thing bl Q Y (57, lv, st, σ) = (mLdA Y 58 lv st σ 0) := mStep_d dX0_thing_57
theorem vX0_thing_58 : mStep h k cX0_thing bl Q Y (58, lv, st, σ) = (mDup Y 59 lv st σ) := mStep_d dX0_thing_58
theorem vX0_thing_59 : mStep h k cX0_thing bl Q Y (59, lv, st, σ) = (mGet h k Y 62 lv st σ 60) := mStep_d dX0_thing_59
theorem vX0_thing_62 : mStep h k cX0_thing bl Q Y (62, lv, st, σ) = (Y (63, lv, .int (1) :: st, σ)) := by rw [mStep_d dX0_thing_62, ← mx_c1]; rfl
theorem vX0_thing_63 : mStep h k cX0_thing bl Q Y (63, lv, st, σ) = (mLdI Y 64 lv st σ 2) := mStep_d dX0_thing_63
theorem vX0_thing_64 : mStep h k cX0_thing bl Q Y (64, lv, st, σ) = (mBin Y 65 lv st σ (fun x y => x <<< (y &&& 31))) := mStep_d dX0_thing_64
theorem vX0_thing_65 : mStep h k cX0_thing bl Q Y (65, lv, st, σ) = (mBin Y 66 lv st σ (fun x y => x ||| y)) := mStep_d dX0_thing_65
theorem vX0_thing_66 : mStep h k cX0_thing bl Q Y (66, lv, st, σ) = (mPut h k Y 69 lv st σ 60) := mStep_d dX0_thing_66
theorem vX0_thing_69 : mStep h k cX0_thing bl Q Y (69, lv, st, σ) = (mLdI Y 70 lv st σ 2) := mStep_d dX0_thing_69
theorem vX0_thing_70 : mStep h k cX0_thing bl Q Y (70, lv, st, σ) = (mRetI bl Q st σ) := mStep_d dX0_thing_70
theorem vX0_stock_0 : mStep h k cX0_stock bl Q Y (0, lv, st, σ) = (mLdA Y 1 lv st σ 0) := mStep_d dX0_stock_0
theorem vX0_stock_1 : mStep h k cX0_stock bl Q Y (1, lv, st, σ) = (mLdI Y 2 lv st σ 1) := mStep_d dX0_stock_1
theorem vX0_stock_2 : mStep h k cX0_stock bl Q Y (2, lv, st, σ) = (mCaV k Y 5 lv st σ 63) := mStep_d dX0_stock_2
theorem vX0_stock_5 : mStep h k cX0_stock bl Q Y (5, lv, st, σ) = (mJ1 Y 20 8 lv st σ (fun x => x = 0)) := (mStep_d dX0_stock_5).trans (mIf1_J jt_5_15 jp_5_15)
theorem vX0_stock_8 : mStep h k cX0_stock bl Q Y (8, lv, st, σ) = (mLdA Y 9 lv st σ 0) := mStep_d dX0_stock_8
theorem vX0_stock_9 : mStep h k cX0_stock bl Q Y (9, lv, st, σ) = (mGet h k Y 12 lv st σ 60) := mStep_d dX0_stock_9
theorem vX0_stock_12 : mStep h k cX0_stock bl Q Y (12, lv, st, σ) = (mLdI Y 13 lv st σ 1) := mStep_d dX0_stock_12
theorem vX0_stock_13 : mStep h k cX0_stock bl Q Y (13, lv, st, σ) = (mCaS k Y 16 lv st σ 67) := mStep_d dX0_stock_13
theorem vX0_stock_16 : mStep h k cX0_stock bl Q Y (16, lv, st, σ) = (mLdI Y 17 lv st σ 2) := mStep_d dX0_stock_16
theorem vX0_stock_17 : mStep h k cX0_stock bl Q Y (17, lv, st, σ) = (mN2 Y 22 20 lv st σ) := (mStep_d dX0_stock_17).trans (mIfN2_J jt_17_5 jp_17_5)
theorem vX0_stock_20 : mStep h k cX0_stock bl Q Y (20, lv, st, σ) = (Y (21, lv, .int (0) :: st, σ)) := by rw [mStep_d dX0_stock_20, ← mx_c0]; rfl
theorem vX0_stock_21 : mStep h k cX0_stock bl Q Y (21, lv, st, σ) = (mRetI bl Q st σ) := mStep_d dX0_stock_21
theorem vX0_stock_22 : mStep h k cX0_stock bl Q Y (22, lv, st, σ) = (mLdA Y 23 lv st σ 0) := mStep_d dX0_stock_22
theorem vX0_stock_23 : mStep h k cX0_stock bl Q Y (23, lv, st, σ) = (mDup Y 24 lv st σ) := mStep_d dX0_stock_23
theorem vX0_stock_24 : mStep h k cX0_stock bl Q Y (24, lv, st, σ) = (mGet h k Y 27 lv st σ 60) := mStep_d dX0_stock_24
theorem vX0_stock_27 : mStep h k cX0_stock bl Q Y (27, lv, st, σ) = (Y (28, lv, .int (1) :: st, σ)) := by rw [mStep_d dX0_stock_27, ← mx_c1]; rfl
theorem vX0_stock_28 : mStep h k cX0_stock bl Q Y (28, lv, st, σ) = (mLdI Y 29 lv st σ 1) := mStep_d dX0_stock_28
theorem vX0_stock_29 : mStep h k cX0_stock bl Q Y (29, lv, st, σ) = (mBin Y 30 lv st σ (fun x y => x <<< (y &&& 31))) := mStep_d dX0_stock_29
theorem vX0_stock_30 : mStep h k cX0_stock bl Q Y (30, lv, st, σ) = (mBin Y 31 lv st σ (fun x y => x ^^^ y)) := mStep_d dX0_stock_30
theorem vX0_stock_31 : mStep h k cX0_stock bl Q Y (31, lv, st, σ) = (mPut h k Y 34 lv st σ 60) := mStep_d dX0_stock_31
theorem vX0_stock_34 : mStep h k cX0_stock bl Q Y (34, lv, st, σ) = (Y (35, lv, .int (1) :: st, σ)) := by rw [mStep_d dX0_stock_34, ← mx_c1]; rfl
theorem vX0_stock_35 : mStep h k cX0_stock bl Q Y (35, lv, st, σ) = (mRetI bl Q st σ) := mStep_d dX0_stock_35
theorem vX0_set_0 : mStep h k cX0_set bl Q Y (0, lv, st, σ) = (mLdI Y 1 lv st σ 1) := mStep_d dX0_set_0
theorem vX0_set_1 : mStep h k cX0_set bl Q Y (1, lv, st, σ) = (mJ1 Y 23 4 lv st σ (fun x => x < 0)) := (mStep_d dX0_set_1).trans (mIf1_J jt_1_22 jp_1_22)
theorem vX0_set_4 : mStep h k cX0_set bl Q Y (4, lv, st, σ) = (mLdI Y 5 lv st σ 1) := mStep_d dX0_set_4
theorem vX0_set_5 : mStep h k cX0_set bl Q Y (5, lv, st, σ) = (Y (6, lv, .int (4) :: st, σ)) := by rw [mStep_d dX0_set_5, ← mx_c4]; rfl
theorem vX0_set_6 : mStep h k cX0_set bl Q Y (6, lv, st, σ) = (mJ2 Y 23 9 lv st σ (fun x y => y ≤ x)) := (mStep_d dX0_set_6).trans (mIf2_J jt_6_17 jp_6_17)
theorem vX0_set_9 : mStep h k cX0_set bl Q Y (9, lv, st, σ) = (mLdI Y 10 lv st σ 2) := mStep_d dX0_set_9
theorem vX0_set_10 : mStep h k cX0_set bl Q Y (10, lv, st, σ) = (Y (11, lv, .int (1) :: st, σ)) := by rw [mStep_d dX0_set_10, ← mx_c1]; rfl
theorem vX0_set_11 : mStep h k cX0_set bl Q Y (11, lv, st, σ) = (mJ2 Y 23 14 lv st σ (fun x y => x < y)) := (mStep_d dX0_set_11).trans (mIf2_J jt_11_12 jp_11_12)
theorem vX0_set_14 : mStep h k cX0_set bl Q Y (14, lv, st, σ) = (mLdI Y 15 lv st σ 2) := mStep_d dX0_set_14
theorem vX0_set_18 : mStep h k cX0_set bl Q Y (18, lv, st, σ) = (mLdI Y 19 lv st σ 1) := mStep_d dX0_set_18
theorem vX0_set_19 : mStep h k cX0_set bl Q Y (19, lv, st, σ) = (mLdE h Y 20 lv st σ) := mStep_d dX0_set_19
theorem vX0_set_20 : mStep h k cX0_set bl Q Y (20, lv, st, σ) = (mJ2 Y 25 23 lv st σ (fun x y => x ≤ y)) := (mStep_d dX0_set_20).trans (mIf2_J jt_20_5 jp_20_5)
theorem vX0_set_23 : mStep h k cX0_set bl Q Y (23, lv, st, σ) = (Y (24, lv, .int (0) :: st, σ)) := by rw [mStep_d dX0_set_23, ← mx_c0]; rfl
theorem vX0_set_24 : mStep h k cX0_set bl Q Y (24, lv, st, σ) = (mRetI bl Q st σ) := mStep_d dX0_set_24
theorem vX0_set_25 : mStep h k cX0_set bl Q Y (25, lv, st, σ) = (mLdA Y 26 lv st σ 0) := mStep_d dX0_set_25
theorem vX0_set_26 : mStep h k cX0_set bl Q Y (26, lv, st, σ) = (mGet h k Y 29 lv st σ 18) := mStep_d dX0_set_26
theorem vX0_set_29 : mStep h k cX0_set bl Q Y (29, lv, st, σ) = (mLdI Y 30 lv st σ 1) := mStep_d dX0_set_29
theorem vX0_set_30 : mStep h k cX0_set bl Q Y (30, lv, st, σ) = (mLdI Y 31 lv st σ 2) := mStep_d dX0_set_30
theorem vX0_set_31 : mStep h k cX0_set bl Q Y (31, lv, st, σ) = (mStE h Y 32 lv st σ) := mStep_d dX0_set_31
theorem vX0_set_32 : mStep h k cX0_set bl Q Y (32, lv, st, σ) = (Y (33, lv, .int (1) :: st, σ)) := by rw [mStep_d dX0_set_32, ← mx_c1]; rfl
theorem vX0_set_33 : mStep h k cX0_set bl Q Y (33, lv, st, σ) = (mRetI bl Q st σ) := mStep_d dX0_set_33
theorem vX0_apart_0 : mStep h k cX0_apart bl Q Y (0, lv, st, σ) = (mLdA Y 1 lv st σ 0) := mStep_d dX0_apart_0
theorem vX0_apart_1 : mStep h k cX0_apart bl Q Y (1, lv, st, σ) = (mLdI Y 2 lv st σ 1) := mStep_d dX0_apart_1
theorem vX0_apart_2 : mStep h k cX0_apart bl Q Y (2, lv, st, σ) = (mLdI Y 3 lv st σ 2) := mStep_d dX0_apart_2
theorem vX0_apart_3 : mStep h k cX0_apart bl Q Y (3, lv, st, σ) = (mCaV k Y 6 lv st σ 74) := mStep_d dX0_apart_3
theorem vX0_apart_6 : mStep h k cX0_apart bl Q Y (6, lv, st, σ) = (mJ1 Y 23 9 lv st σ (fun x => x = 0)) := (mStep_d dX0_apart_6).trans (mIf1_J jt_6_17 jp_6_17)
theorem vX0_apart_9 : mStep h k cX0_apart bl Q Y (9, lv, st, σ) = (mLdA Y 10 lv st σ 0) := mStep_d dX0_apart_9
theorem vX0_apart_10 : mStep h k cX0_apart bl Q Y (10, lv, st, σ) = (mGet h k Y 13 lv st σ 27) := mStep_d dX0_apart_10
theorem vX0_apart_13 : mStep h k cX0_apart bl Q Y (13, lv, st, σ) = (mLdI Y 14 lv st σ 1) := mStep_d dX0_apart_13
theorem vX0_apart_14 : mStep h k cX0_apart bl Q Y (14, lv, st, σ) = (mLdE h Y 15 lv st σ) := mStep_d dX0_apart_14
theorem vX0_apart_15 : mStep h k cX0_apart bl Q Y (15, lv, st, σ) = (mLdI Y 16 lv st σ 2) := mStep_d dX0_apart_15
theorem vX0_apart_16 : mStep h k cX0_apart bl Q Y (16, lv, st, σ) = (mCaS k Y 19 lv st σ 67) := mStep_d dX0_apart_16
theorem vX0_apart_19 : mStep h k cX0_apart bl Q Y (19, lv, st, σ) = (mLdI Y 20 lv st σ 3) := mStep_d dX0_apart_19
theorem vX0_apart_20 : mStep h k cX0_apart bl Q Y (20, lv, st, σ) = (mN2 Y 25 23 lv st σ) := (mStep_d dX0_apart_20).trans (mIfN2_J jt_20_5 jp_20_5)
theorem vX0_apart_23 : mStep h k cX0_apart bl Q Y (23, lv, st, σ) = (Y (24, lv, .int (0) :: st, σ)) := by rw [mStep_d dX0_apart_23, ← mx_c0]; rfl
theorem vX0_apart_24 : mStep h k cX0_apart bl Q Y (24, lv, st, σ) = (mRetI bl Q st σ) := mStep_d dX0_apart_24
theorem vX0_apart_25 : mStep h k cX0_apart bl Q Y (25, lv, st, σ) = (mLdA Y 26 lv st σ 0) := mStep_d dX0_apart_25
theorem vX0_apart_26 : mStep h k cX0_apart bl Q Y (26, lv, st, σ) = (mGet h k Y 29 lv st σ 27) := mStep_d dX0_apart_26
theorem vX0_apart_29 : mStep h k cX0_apart bl Q Y (29, lv, st, σ) = (mLdI Y 30 lv st σ 1) := mStep_d dX0_apart_29
theorem vX0_apart_30 : mStep h k cX0_apart bl Q Y (30, lv, st, σ) = (mDup2 Y 31 lv st σ) := mStep_d dX0_apart_30
theorem vX0_apart_31 : mStep h k cX0_apart bl Q Y (31, lv, st, σ) = (mLdE h Y 32 lv st σ) := mStep_d dX0_apart_31
theorem vX0_apart_32 : mStep h k cX0_apart bl Q Y (32, lv, st, σ) = (Y (33, lv, .int (1) :: st, σ)) := by rw [mStep_d dX0_apart_32, ← mx_c1]; rfl
theorem vX0_apart_33 : mStep h k cX0_apart bl Q Y (33, lv, st, σ) = (mLdI Y 34 lv st σ 2) := mStep_d dX0_apart_33
theorem vX0_apart_34 : mStep h k cX0_apart bl Q Y (34, lv, st, σ) = (mBin Y 35 lv st σ (fun x y => x <<< (y &&& 31))) := mStep_d dX0_apart_34
theorem vX0_apart_35 : mStep h k cX0_apart bl Q Y (35, lv, st, σ) = (mBin Y 36 lv st σ (fun x y => x ^^^ y)) := mStep_d dX0_apart_35
theorem vX0_apart_36 : mStep h k cX0_apart bl Q Y (36, lv, st, σ) = (mStE h Y 37 lv st σ) := mStep_d dX0_apart_36
theorem vX0_apart_37 : mStep h k cX0_apart bl Q Y (37, lv, st, σ) = (mLdA Y 38 lv st σ 0) := mStep_d dX0_apart_37
theorem vX0_apart_38 : mStep h k cX0_apart bl Q Y (38, lv, st, σ) = (mGet h k Y 41 lv st σ 27) := mStep_d dX0_apart_38
theorem vX0_apart_41 : mStep h k cX0_apart bl Q Y (41, lv, st, σ) = (mLdI Y 42 lv st σ 2) := mStep_d dX0_apart_41
theorem vX0_apart_42 : mStep h k cX0_apart bl Q Y (42, lv, st, σ) = (mDup2 Y 43 lv st σ) := mStep_d dX0_apart_42
theorem vX0_apart_43 : mStep h k cX0_apart bl Q Y (43, lv, st, σ) = (mLdE h Y 44 lv st σ) := mStep_d dX0_apart_43
theorem vX0_apart_44 : mStep h k cX0_apart bl Q Y (44, lv, st, σ) = (Y (45, lv, .int (1) :: st, σ)) := by rw [mStep_d dX0_apart_44, ← mx_c1]; rfl
theorem vX0_apart_45 : mStep h k cX0_apart bl Q Y (45, lv, st, σ) = (mLdI Y 46 lv st σ 1) := mStep_d dX0_apart_45
theorem vX0_apart_46 : mStep h k cX0_apart bl Q Y (46, lv, st, σ) = (mBin Y 47 lv st σ (fun x y => x <<< (y &&& 31))) := mStep_d dX0_apart_46
theorem vX0_apart_47 : mStep h k cX0_apart bl Q Y (47, lv, st, σ) = (mBin Y 48 lv st σ (fun x y => x ^^^ y)) := mStep_d dX0_apart_47
theorem vX0_apart_48 : mStep h k cX0_apart bl Q Y (48, lv, st, σ) = (mStE h Y 49 lv st σ) := mStep_d dX0_apart_48
theorem vX0_apart_49 : mStep h k cX0_apart bl Q Y (49, lv, st, σ) = (Y (50, lv, .int (1) :: st, σ)) := by rw [mStep_d dX0_apart_49, ← mx_c1]; rfl
theorem vX0_apart_50 : mStep h k cX0_apart bl Q Y (50, lv, st, σ) = (mRetI bl Q st σ) := mStep_d dX0_apart_50
theorem vX0_basket_0 : mStep h k cX0_basket bl Q Y (0, lv, st, σ) = (mLdI Y 1 lv st σ 1) := mStep_d dX0_basket_0
theorem vX0_basket_1 : mStep h k cX0_basket bl Q Y (1, lv, st, σ) = (mCaS k Y 4 lv st σ 77) := mStep_d dX0_basket_1
theorem vX0_basket_4 : mStep h k cX0_basket bl Q Y (4, lv, st, σ) = (mJ1 Y 28 7 lv st σ (fun x => x = 0)) := (mStep_d dX0_basket_4).trans (mIf1_J jt_4_24 jp_4_24)
theorem vX0_basket_7 : mStep h k cX0_basket bl Q Y (7, lv, st, σ) = (mLdA Y 8 lv st σ 0) := mStep_d dX0_basket_7
theorem vX0_basket_8 : mStep h k cX0_basket bl Q Y (8, lv, st, σ) = (mLdI Y 9 lv st σ 2) := mStep_d dX0_basket_8
theorem vX0_basket_9 : mStep h k cX0_basket bl Q Y (9, lv, st, σ) = (mCaV k Y 12 lv st σ 80) := mStep_d dX0_basket_9
theorem vX0_basket_12 : mStep h k cX0_basket bl Q Y (12, lv, st, σ) = (mJ1 Y 28 15 lv st σ (fun x => x = 0)) := (mStep_d dX0_basket_12).trans (mIf1_J jt_12_16 jp_12_16)
theorem vX0_basket_15 : mStep h k cX0_basket bl Q Y (15, lv, st, σ) = (mLdI Y 16 lv st σ 2) := mStep_d dX0_basket_15
theorem vX0_basket_16 : mStep h k cX0_basket bl Q Y (16, lv, st, σ) = (mJ1 Y 28 19 lv st σ (fun x => x = 0)) := (mStep_d dX0_basket_16).trans (mIf1_J jt_16_12 jp_16_12)
theorem vX0_basket_19 : mStep h k cX0_basket bl Q Y (19, lv, st, σ) = (mLdA Y 20 lv st σ 0) := mStep_d dX0_basket_19
theorem vX0_basket_20 : mStep h k cX0_basket bl Q Y (20, lv, st, σ) = (mGet h k Y 23 lv st σ 83) := mStep_d dX0_basket_20
theorem vX0_basket_23 : mStep h k cX0_basket bl Q Y (23, lv, st, σ) = (Y (25, lv, .int (60) :: st, σ)) := by rw [mStep_d dX0_basket_23, ← mx_b60]; rfl
theorem vX0_basket_25 : mStep h k cX0_basket bl Q Y (25, lv, st, σ) = (mJ2 Y 30 28 lv st σ (fun x y => x < y)) := (mStep_d dX0_basket_25).trans (mIf2_J jt_25_5 jp_25_5)
theorem vX0_basket_28 : mStep h k cX0_basket bl Q Y (28, lv, st, σ) = (Y (29, lv, .int (-1) :: st, σ)) := by rw [mStep_d dX0_basket_28, ← mx_cm1]; rfl
theorem vX0_basket_29 : mStep h k cX0_basket bl Q Y (29, lv, st, σ) = (mRetI bl Q st σ) := mStep_d dX0_basket_29
theorem vX0_basket_30 : mStep h k cX0_basket bl Q Y (30, lv, st, σ) = (mLdA Y 31 lv st σ 0) := mStep_d dX0_basket_30
theorem vX0_basket_31 : mStep h k cX0_basket bl Q Y (31, lv, st, σ) = (mGet h k Y 34 lv st σ 83) := mStep_d dX0_basket_31
theorem vX0_basket_34 : mStep h k cX0_basket bl Q Y (34, lv, st, σ) = (mStI Y 35 lv st σ 3) := mStep_d dX0_basket_34
theorem vX0_basket_35 : mStep h k cX0_basket bl Q Y (35, lv, st, σ) = (mLdA Y 36 lv st σ 0) := mStep_d dX0_basket_35
theorem vX0_basket_36 : mStep h k cX0_basket bl Q Y (36, lv, st, σ) = (mDup Y 37 lv st σ) := mStep_d dX0_basket_36
theorem vX0_basket_37 : mStep h k cX0_basket bl Q Y (37, lv, st, σ) = (mGet h k Y 40 lv st σ 83) := mStep_d dX0_basket_37
theorem vX0_basket_40 : mStep h k cX0_basket bl Q Y (40, lv, st, σ) = (Y (41, lv, .int (1) :: st, σ)) := by rw [mStep_d dX0_basket_40, ← mx_c1]; rfl
theorem vX0_basket_41 : mStep h k cX0_basket bl Q Y (41, lv, st, σ) = (mBin Y 42 lv st σ (fun x y => x + y)) := mStep_d dX0_basket_41
theorem vX0_basket_42 : mStep h k cX0_basket bl Q Y (42, lv, st, σ) = (mPut h k Y 45 lv st σ 83) := mStep_d dX0_basket_42
theorem vX0_basket_45 : mStep h k cX0_basket bl Q Y (45, lv, st, σ) = (mLdA Y 46 lv st σ 0) := mStep_d dX0_basket_45
theorem vX0_basket_46 : mStep h k cX0_basket bl Q Y (46, lv, st, σ) = (mGet h k Y 49 lv st σ 30) := mStep_d dX0_basket_46
theorem vX0_basket_49 : mStep h k cX0_basket bl Q Y (49, lv, st, σ) = (mLdI Y 50 lv st σ 3) := mStep_d dX0_basket_49
theorem vX0_basket_50 : mStep h k cX0_basket bl Q Y (50, lv, st, σ) = (mLdI Y 51 lv st σ 1) := mStep_d dX0_basket_50
theorem vX0_basket_51 : mStep h k cX0_basket bl Q Y (51, lv, st, σ) = (mStE h Y 52 lv st σ) := mStep_d dX0_basket_51
theorem vX0_basket_52 : mStep h k cX0_basket bl Q Y (52, lv, st, σ) = (mLdA Y 53 lv st σ 0) := mStep_d dX0_basket_52
theorem vX0_basket_53 : mStep h k cX0_basket bl Q Y (53, lv, st, σ) = (mGet h k Y 56 lv st σ 33) := mStep_d dX0_basket_53
theorem vX0_basket_56 : mStep h k cX0_basket bl Q Y (56, lv, st, σ) = (mLdI Y 57 lv st σ 3) := mStep_d dX0_basket_56
theorem vX0_basket_57 : mStep h k cX0_basket bl Q Y (57, lv, st, σ) = (mLdA Y 58 lv st σ 0) := mStep_d dX0_basket_57
theorem vX0_basket_58 : mStep h k cX0_basket bl Q Y (58, lv, st, σ) = (mGet h k Y 61 lv st σ 57) := mStep_d dX0_basket_58
theorem vX0_basket_61 : mStep h k cX0_basket bl Q Y (61, lv, st, σ) = (mStE h Y 62 lv st σ) := mStep_d dX0_basket_61
theorem vX0_basket_62 : mStep h k cX0_basket bl Q Y (62, lv, st, σ) = (mLdA Y 63 lv st σ 0) := mStep_d dX0_basket_62
theorem vX0_basket_63 : mStep h k cX0_basket bl Q Y (63, lv, st, σ) = (mGet h k Y 66 lv st σ 36) := mStep_d dX0_basket_63
theorem vX0_basket_66 : mStep h k cX0_basket bl Q Y (66, lv, st, σ) = (mLdI Y 67 lv st σ 3) := mStep_d dX0_basket_66
theorem vX0_basket_67 : mStep h k cX0_basket bl Q Y (67, lv, st, σ) = (mLdI Y 68 lv st σ 2) := mStep_d dX0_basket_67
theorem vX0_basket_68 : mStep h k cX0_basket bl Q Y (68, lv, st, σ) = (mStE h Y 69 lv st σ) := mStep_d dX0_basket_68
theorem vX0_basket_69 : mStep h k cX0_basket bl Q Y (69, lv, st, σ) = (mLdA Y 70 lv st σ 0) := mStep_d dX0_basket_69
theorem vX0_basket_70 : mStep h k cX0_basket bl Q Y (70, lv, st, σ) = (mLdI Y 71 lv st σ 1) := mStep_d dX0_basket_70
theorem vX0_basket_71 : mStep h k cX0_basket bl Q Y (71, lv, st, σ) = (mLdI Y 72 lv st σ 2) := mStep_d dX0_basket_71
theorem vX0_basket_72 : mStep h k cX0_basket bl Q Y (72, lv, st, σ) = (mCaV k Y 75 lv st σ 86) := mStep_d dX0_basket_72
theorem vX0_basket_75 : mStep h k cX0_basket bl Q Y (75, lv, st, σ) = (mLdI Y 76 lv st σ 3) := mStep_d dX0_basket_75
theorem vX0_basket_76 : mStep h k cX0_basket bl Q Y (76, lv, st, σ) = (mRetI bl Q st σ) := mStep_d dX0_basket_76
theorem vX0_drop_0 : mStep h k cX0_drop bl Q Y (0, lv, st, σ) = (mLdA Y 1 lv st σ 0) := mStep_d dX0_drop_0
theorem vX0_drop_1 : mStep h k cX0_drop bl Q Y (1, lv, st, σ) = (mLdI Y 2 lv st σ 1) := mStep_d dX0_drop_1
theorem vX0_drop_2 : mStep h k cX0_drop bl Q Y (2, lv, st, σ) = (mCaV k Y 5 lv st σ 90) := mStep_d dX0_drop_2
theorem vX0_drop_5 : mStep h k cX0_drop bl Q Y (5, lv, st, σ) = (mN1 Y 10 8 lv st σ) := (mStep_d dX0_drop_5).trans (mIfN1_J jt_5_5 jp_5_5)
theorem vX0_drop_8 : mStep h k cX0_drop bl Q Y (8, lv, st, σ) = (Y (9, lv, .int (0) :: st, σ)) := by rw [mStep_d dX0_drop_8, ← mx_c0]; rfl
theorem vX0_drop_9 : mStep h k cX0_drop bl Q Y (9, lv, st, σ) = (mRetI bl Q st σ) := mStep_d dX0_drop_9
theorem vX0_drop_10 : mStep h k cX0_drop bl Q Y (10, lv, st, σ) = (mLdA Y 11 lv st σ 0) := mStep_d dX0_drop_10
theorem vX0_drop_11 : mStep h k cX0_drop bl Q Y (11, lv, st, σ) = (mLdI Y 12 lv st σ 1) := mStep_d dX0_drop_11
theorem vX0_drop_12 : mStep h k cX0_drop bl Q Y (12, lv, st, σ) = (mCaV k Y 15 lv st σ 93) := mStep_d dX0_drop_12
theorem vX0_drop_15 : mStep h k cX0_drop bl Q Y (15, lv, st, σ) = (Y (16, lv, .int (1) :: st, σ)) := by rw [mStep_d dX0_drop_15, ← mx_c1]; rfl
theorem vX0_drop_16 : mStep h k cX0_drop bl Q Y (16, lv, st, σ) = (mRetI bl Q st σ) := mStep_d dX0_drop_16
theorem vX0_forget_0 : mStep h k cX0_forget bl Q Y (0, lv, st, σ) = (mLdI Y 1 lv st σ 1) := mStep_d dX0_forget_0
theorem vX0_forget_1 : mStep h k cX0_forget bl Q Y (1, lv, st, σ) = (mCaS k Y 4 lv st σ 77) := mStep_d dX0_forget_1
theorem vX0_forget_4 : mStep h k cX0_forget bl Q Y (4, lv, st, σ) = (mN1 Y 9 7 lv st σ) := (mStep_d dX0_forget_4).trans (mIfN1_J jt_4_5 jp_4_5)
theorem vX0_forget_7 : mStep h k cX0_forget bl Q Y (7, lv, st, σ) = (Y (8, lv, .int (-1) :: st, σ)) := by rw [mStep_d dX0_forget_7, ← mx_cm1]; rfl
theorem vX0_forget_8 : mStep h k cX0_forget bl Q Y (8, lv, st, σ) = (mRetI bl Q st σ) := mStep_d dX0_forget_8
theorem vX0_forget_9 : mStep h k cX0_forget bl Q Y (9, lv, st, σ) = (mLdA Y 10 lv st σ 0) := mStep_d dX0_forget_9
theorem vX0_forget_10 : mStep h k cX0_forget bl Q Y (10, lv, st, σ) = (mGet h k Y 13 lv st σ 83) := mStep_d dX0_forget_10
theorem vX0_forget_13 : mStep h k cX0_forget bl Q Y (13, lv, st, σ) = (mStI Y 14 lv st σ 2) := mStep_d dX0_forget_13
theorem vX0_forget_14 : mStep h k cX0_forget bl Q Y (14, lv, st, σ) = (mLdI Y 15 lv st σ 2) := mStep_d dX0_forget_14
theorem vX0_forget_15 : mStep h k cX0_forget bl Q Y (15, lv, st, σ) = (Y (16, lv, .int (1) :: st, σ)) := by rw [mStep_d dX0_forget_15, ← mx_c1]; rfl
theorem vX0_forget_16 : mStep h k cX0_forget bl Q Y (16, lv, st, σ) = (mBin Y 17 lv st σ (fun x y => x - y)) := mStep_d dX0_forget_16
theorem vX0_forget_17 : mStep h k cX0_forget bl Q Y (17, lv, st, σ) = (mStI Y 18 lv st σ 3) := mStep_d dX0_forget_17
theorem vX0_forget_18 : mStep h k cX0_forget bl Q Y (18, lv, st, σ) = (mLdI Y 19 lv st σ 3) := mStep_d dX0_forget_18
theorem vX0_forget_19 : mStep h k cX0_forget bl Q Y (19, lv, st, σ) = (mJ1 Y 43 22 lv st σ (fun x => x < 0)) := (mStep_d dX0_forget_19).trans (mIf1_J jt_19_24 jp_19_24)
theorem vX0_forget_22 : mStep h k cX0_forget bl Q Y (22, lv, st, σ) = (mLdA Y 23 lv st σ 0) := mStep_d dX0_forget_22
theorem vX0_forget_23 : mStep h k cX0_forget bl Q Y (23, lv, st, σ) = (mGet h k Y 26 lv st σ 30) := mStep_d dX0_forget_23
theorem vX0_forget_26 : mStep h k cX0_forget bl Q Y (26, lv, st, σ) = (mLdI Y 27 lv st σ 3) := mStep_d dX0_forget_26
theorem vX0_forget_27 : mStep h k cX0_forget bl Q Y (27, lv, st, σ) = (mLdE h Y 28 lv st σ) := mStep_d dX0_forget_27
theorem vX0_forget_28 : mStep h k cX0_forget bl Q Y (28, lv, st, σ) = (mLdI Y 29 lv st σ 1) := mStep_d dX0_forget_28
theorem vX0_forget_29 : mStep h k cX0_forget bl Q Y (29, lv, st, σ) = (mN2 Y 37 32 lv st σ) := (mStep_d dX0_forget_29).trans (mIfN2_J jt_29_8 jp_29_8)
theorem vX0_forget_32 : mStep h k cX0_forget bl Q Y (32, lv, st, σ) = (mLdA Y 33 lv st σ 0) := mStep_d dX0_forget_32
theorem vX0_forget_33 : mStep h k cX0_forget bl Q Y (33, lv, st, σ) = (mLdI Y 34 lv st σ 3) := mStep_d dX0_forget_33
theorem vX0_forget_34 : mStep h k cX0_forget bl Q Y (34, lv, st, σ) = (mCaV k Y 37 lv st σ 93) := mStep_d dX0_forget_34
theorem vX0_forget_37 : mStep h k cX0_forget bl Q Y (37, lv, st, σ) = (mInc Y 40 lv st σ 3 (-1)) := by rw [mStep_d dX0_forget_37, ← mx_cm1]; rfl
theorem vX0_forget_40 : mStep h k cX0_forget bl Q Y (40, lv, st, σ) = (Y (18, lv, st, σ)) := (mStep_d dX0_forget_40).trans (mJ_J jt_40_m22 jp_40_m22)
theorem vX0_forget_43 : mStep h k cX0_forget bl Q Y (43, lv, st, σ) = (mLdA Y 44 lv st σ 0) := mStep_d dX0_forget_43
theorem vX0_forget_44 : mStep h k cX0_forget bl Q Y (44, lv, st, σ) = (mGet h k Y 47 lv st σ 39) := mStep_d dX0_forget_44
theorem vX0_forget_47 : mStep h k cX0_forget bl Q Y (47, lv, st, σ) = (mLdI Y 48 lv st σ 1) := mStep_d dX0_forget_47
theorem vX0_forget_48 : mStep h k cX0_forget bl Q Y (48, lv, st, σ) = (Y (49, lv, .int (0) :: st, σ)) := by rw [mStep_d dX0_forget_48, ← mx_c0]; rfl
theorem vX0_forget_49 : mStep h k cX0_forget bl Q Y (49, lv, st, σ) = (mStE h Y 50 lv st σ) := mStep_d dX0_forget_49
theorem vX0_forget_50 : mStep h k cX0_forget bl Q Y (50, lv, st, σ) = (mLdA Y 51 lv st σ 0) := mStep_d dX0_forget_50
theorem vX0_forget_51 : mStep h k cX0_forget bl Q Y (51, lv, st, σ) = (mLdI Y 52 lv st σ 1) := mStep_d dX0_forget_51
theorem vX0_forget_52 : mStep h k cX0_forget bl Q Y (52, lv, st, σ) = (mLdA Y 53 lv st σ 0) := mStep_d dX0_forget_52
theorem vX0_forget_53 : mStep h k cX0_forget bl Q Y (53, lv, st, σ) = (mCaV k Y 56 lv st σ 97) := mStep_d dX0_forget_53
theorem vX0_forget_56 : mStep h k cX0_forget bl Q Y (56, lv, st, σ) = (mCaV k Y 59 lv st σ 86) := mStep_d dX0_forget_56
theorem vX0_forget_59 : mStep h k cX0_forget bl Q Y (59, lv, st, σ) = (mLdI Y 60 lv st σ 2) := mStep_d dX0_forget_59
theorem vX0_forget_60 : mStep h k cX0_forget bl Q Y (60, lv, st, σ) = (mLdA Y 61 lv st σ 0) := mStep_d dX0_forget_60
theorem vX0_forget_61 : mStep h k cX0_forget bl Q Y (61, lv, st, σ) = (mGet h k Y 64 lv st σ 83) := mStep_d dX0_forget_61
theorem vX0_forget_64 : mStep h k cX0_forget bl Q Y (64, lv, st, σ) = (mBin Y 65 lv st σ (fun x y => x - y)) := mStep_d dX0_forget_64
theorem vX0_forget_65 : mStep h k cX0_forget bl Q Y (65, lv, st, σ) = (mRetI bl Q st σ) := mStep_d dX0_forget_65
theorem vX0_day_0 : mStep h k cX0_day bl Q Y (0, lv, st, σ) = (mLdA Y 1 lv st σ 0) := mStep_d dX0_day_0
theorem vX0_day_1 : mStep h k cX0_day bl Q Y (1, lv, st, σ) = (mGet h k Y 4 lv st σ 57) := mStep_d dX0_day_1
theorem vX0_day_4 : mStep h k cX0_day bl Q Y (4, lv, st, σ) = (Y (7, lv, .int (9999) :: st, σ)) := by rw [mStep_d dX0_day_4, ← mx_s9999]; rfl
theorem vX0_day_7 : mStep h k cX0_day bl Q Y (7, lv, st, σ) = (mJ2 Y 12 10 lv st σ (fun x y => x < y)) := (mStep_d dX0_day_7).trans (mIf2_J jt_7_5 jp_7_5)
theorem vX0_day_10 : mStep h k cX0_day bl Q Y (10, lv, st, σ) = (Y (11, lv, .int (-1) :: st, σ)) := by rw [mStep_d dX0_day_10, ← mx_cm1]; rfl
theorem vX0_day_11 : mStep h k cX0_day bl Q Y (11, lv, st, σ) = (mRetI bl Q st σ) := mStep_d dX0_day_11
theorem vX0_day_12 : mStep h k cX0_day bl Q Y (12, lv, st, σ) = (mLdA Y 13 lv st σ 0) := mStep_d dX0_day_12
theorem vX0_day_13 : mStep h k cX0_day bl Q Y (13, lv, st, σ) = (mDup Y 14 lv st σ) := mStep_d dX0_day_13
theorem vX0_day_14 : mStep h k cX0_day bl Q Y (14, lv, st, σ) = (mGet h k Y 17 lv st σ 57) := mStep_d dX0_day_14
theorem vX0_day_17 : mStep h k cX0_day bl Q Y (17, lv, st, σ) = (Y (18, lv, .int (1) :: st, σ)) := by rw [mStep_d dX0_day_17, ← mx_c1]; rfl
theorem vX0_day_18 : mStep h k cX0_day bl Q Y (18, lv, st, σ) = (mBin Y 19 lv st σ (fun x y => x + y)) := mStep_d dX0_day_18
theorem vX0_day_19 : mStep h k cX0_day bl Q Y (19, lv, st, σ) = (mPut h k Y 22 lv st σ 57) := mStep_d dX0_day_19
theorem vX0_day_22 : mStep h k cX0_day bl Q Y (22, lv, st, σ) = (mLdA Y 23 lv st σ 0) := mStep_d dX0_day_22
theorem vX0_day_23 : mStep h k cX0_day bl Q Y (23, lv, st, σ) = (mCaV k Y 26 lv st σ 101) := mStep_d dX0_day_23
theorem vX0_day_26 : mStep h k cX0_day bl Q Y (26, lv, st, σ) = (mLdA Y 27 lv st σ 0) := mStep_d dX0_day_26
theorem vX0_day_27 : mStep h k cX0_day bl Q Y (27, lv, st, σ) = (mGet h k Y 30 lv st σ 57) := mStep_d dX0_day_27
theorem vX0_day_30 : mStep h k cX0_day bl Q Y (30, lv, st, σ) = (mRetI bl Q st σ) := mStep_d dX0_day_30
theorem vX0_look_0 : mStep h k cX0_look bl Q Y (0, lv, st, σ) = (mLdI Y 1 lv st σ 1) := mStep_d dX0_look_0
theorem vX0_look_1 : mStep h k cX0_look bl Q Y (1, lv, st, σ) = (mTsw Y 1 lv st σ 104 0 8 [51, 56, 61, 66, 73, 80, 87, 94, 99]) := mStep_d dX0_look_1
theorem vX0_look_52 : mStep h k cX0_look bl Q Y (52, lv, st, σ) = (mLdA Y 53 lv st σ 0) := mStep_d dX0_look_52
theorem vX0_look_53 : mStep h k cX0_look bl Q Y (53, lv, st, σ) = (mGet h k Y 56 lv st σ 57) := mStep_d dX0_look_53
theorem vX0_look_56 : mStep h k cX0_look bl Q Y (56, lv, st, σ) = (mRetI bl Q st σ) := mStep_d dX0_look_56
theorem vX0_look_57 : mStep h k cX0_look bl Q Y (57, lv, st, σ) = (mLdA Y 58 lv st σ 0) := mStep_d dX0_look_57
theorem vX0_look_58 : mStep h k cX0_look bl Q Y (58, lv, st, σ) = (mGet h k Y 61 lv st σ 53) := mStep_d dX0_look_58
theorem vX0_look_61 : mStep h k cX0_look bl Q Y (61, lv, st, σ) = (mRetI bl Q st σ) := mStep_d dX0_look_61
theorem vX0_look_62 : mStep h k cX0_look bl Q Y (62, lv, st, σ) = (mLdA Y 63 lv st σ 0) := mStep_d dX0_look_62
theorem vX0_look_63 : mStep h k cX0_look bl Q Y (63, lv, st, σ) = (mGet h k Y 66 lv st σ 83) := mStep_d dX0_look_63
theorem vX0_look_66 : mStep h k cX0_look bl Q Y (66, lv, st, σ) = (mRetI bl Q st σ) := mStep_d dX0_look_66
theorem vX0_look_67 : mStep h k cX0_look bl Q Y (67, lv, st, σ) = (mLdA Y 68 lv st σ 0) := mStep_d dX0_look_67
theorem vX0_look_68 : mStep h k cX0_look bl Q Y (68, lv, st, σ) = (mGet h k Y 71 lv st σ 18) := mStep_d dX0_look_68
theorem vX0_look_71 : mStep h k cX0_look bl Q Y (71, lv, st, σ) = (Y (72, lv, .int (0) :: st, σ)) := by rw [mStep_d dX0_look_71, ← mx_c0]; rfl
theorem vX0_look_72 : mStep h k cX0_look bl Q Y (72, lv, st, σ) = (mLdE h Y 73 lv st σ) := mStep_d dX0_look_72
theorem vX0_look_73 : mStep h k cX0_look bl Q Y (73, lv, st, σ) = (mRetI bl Q st σ) := mStep_d dX0_look_73
theorem vX0_look_74 : mStep h k cX0_look bl Q Y (74, lv, st, σ) = (mLdA Y 75 lv st σ 0) := mStep_d dX0_look_74
theorem vX0_look_75 : mStep h k cX0_look bl Q Y (75, lv, st, σ) = (mGet h k Y 78 lv st σ 18) := mStep_d dX0_look_75
theorem vX0_look_78 : mStep h k cX0_look bl Q Y (78, lv, st, σ) = (Y (79, lv, .int (1) :: st, σ)) := by rw [mStep_d dX0_look_78, ← mx_c1]; rfl
theorem vX0_look_79 : mStep h k cX0_look bl Q Y (79, lv, st, σ) = (mLdE h Y 80 lv st σ) := mStep_d dX0_look_79
theorem vX0_look_80 : mStep h k cX0_look bl Q Y (80, lv, st, σ) = (mRetI bl Q st σ) := mStep_d dX0_look_80
theorem vX0_look_81 : mStep h k cX0_look bl Q Y (81, lv, st, σ) = (mLdA Y 82 lv st σ 0) := mStep_d dX0_look_81
theorem vX0_look_82 : mStep h k cX0_look bl Q Y (82, lv, st, σ) = (mGet h k Y 85 lv st σ 18) := mStep_d dX0_look_82
theorem vX0_look_85 : mStep h k cX0_look bl Q Y (85, lv, st, σ) = (Y (86, lv, .int (2) :: st, σ)) := by rw [mStep_d dX0_look_85, ← mx_c2]; rfl
theorem vX0_look_86 : mStep h k cX0_look bl Q Y (86, lv, st, σ) = (mLdE h Y 87 lv st σ) := mStep_d dX0_look_86
theorem vX0_look_87 : mStep h k cX0_look bl Q Y (87, lv, st, σ) = (mRetI bl Q st σ) := mStep_d dX0_look_87
theorem vX0_look_88 : mStep h k cX0_look bl Q Y (88, lv, st, σ) = (mLdA Y 89 lv st σ 0) := mStep_d dX0_look_88
theorem vX0_look_89 : mStep h k cX0_look bl Q Y (89, lv, st, σ) = (mGet h k Y 92 lv st σ 18) := mStep_d dX0_look_89
theorem vX0_look_92 : mStep h k cX0_look bl Q Y (92, lv, st, σ) = (Y (93, lv, .int (3) :: st, σ)) := by rw [mStep_d dX0_look_92, ← mx_c3]; rfl
theorem vX0_look_93 : mStep h k cX0_look bl Q Y (93, lv, st, σ) = (mLdE h Y 94 lv st σ) := mStep_d dX0_look_93
theorem vX0_look_94 : mStep h k cX0_look bl Q Y (94, lv, st, σ) = (mRetI bl Q st σ) := mStep_d dX0_look_94
theorem vX0_look_95 : mStep h k cX0_look bl Q Y (95, lv, st, σ) = (mLdA Y 96 lv st σ 0) := mStep_d dX0_look_95
theorem vX0_look_96 : mStep h k cX0_look bl Q Y (96, lv, st, σ) = (mGet h k Y 99 lv st σ 60) := mStep_d dX0_look_96
theorem vX0_look_99 : mStep h k cX0_look bl Q Y (99, lv, st, σ) = (mRetI bl Q st σ) := mStep_d dX0_look_99
theorem vX0_look_100 : mStep h k cX0_look bl Q Y (100, lv, st, σ) = (mLdA Y 101 lv st σ 0) := mStep_d dX0_look_100
theorem vX0_look_101 : mStep h k cX0_look bl Q Y (101, lv, st, σ) = (mCaV k Y 104 lv st σ 104) := mStep_d dX0_look_101
theorem vX0_look_104 : mStep h k cX0_look bl Q Y (104, lv, st, σ) = (mRetI bl Q st σ) := mStep_d dX0_look_104
theorem vX0_look_105 : mStep h k cX0_look bl Q Y (105, lv, st, σ) = (Y (106, lv, .int (-1) :: st, σ)) := by rw [mStep_d dX0_look_105, ← mx_cm1]; rfl
theorem vX0_look_106 : mStep h k cX0_look bl Q Y (106, lv, st, σ) = (mRetI bl Q st σ) := mStep_d dX0_look_106
theorem vX0_of_0 : mStep h k cX0_of bl Q Y (0, lv, st, σ) = (mLdA Y 1 lv st σ 0) := mStep_d dX0_of_0
theorem vX0_of_1 : mStep h k cX0_of bl Q Y (1, lv, st, σ) = (mLdI Y 2 lv st σ 1) := mStep_d dX0_of_1
theorem vX0_of_2 : mStep h k cX0_of bl Q Y (2, lv, st, σ) = (mCaV k Y 5 lv st σ 90) := mStep_d dX0_of_2
theorem vX0_of_5 : mStep h k cX0_of bl Q Y (5, lv, st, σ) = (mN1 Y 10 8 lv st σ) := (mStep_d dX0_of_5).trans (mIfN1_J jt_5_5 jp_5_5)
theorem vX0_of_8 : mStep h k cX0_of bl Q Y (8, lv, st, σ) = (Y (9, lv, .int (-1) :: st, σ)) := by rw [mStep_d dX0_of_8, ← mx_cm1]; rfl
theorem vX0_of_9 : mStep h k cX0_of bl Q Y (9, lv, st, σ) = (mRetI bl Q st σ) := mStep_d dX0_of_9
theorem vX0_of_10 : mStep h k cX0_of bl Q Y (10, lv, st, σ) = (mLdI Y 11 lv st σ 2) := mStep_d dX0_of_10
theorem vX0_of_11 : mStep h k cX0_of bl Q Y (11, lv, st, σ) = (mTsw Y 11 lv st σ 46 0 2 [25, 32, 39]) := mStep_d dX0_of_11
theorem vX0_of_36 : mStep h k cX0_of bl Q Y (36, lv, st, σ) = (mLdA Y 37 lv st σ 0) := mStep_d dX0_of_36
theorem vX0_of_37 : mStep h k cX0_of bl Q Y (37, lv, st, σ) = (mGet h k Y 40 lv st σ 30) := mStep_d dX0_of_37
theorem vX0_of_40 : mStep h k cX0_of bl Q Y (40, lv, st, σ) = (mLdI Y 41 lv st σ 1) := mStep_d dX0_of_40
theorem vX0_of_41 : mStep h k cX0_of bl Q Y (41, lv, st, σ) = (mLdE h Y 42 lv st σ) := mStep_d dX0_of_41
theorem vX0_of_42 : mStep h k cX0_of bl Q Y (42, lv, st, σ) = (mRetI bl Q st σ) := mStep_d dX0_of_42
theorem vX0_of_43 : mStep h k cX0_of bl Q Y (43, lv, st, σ) = (mLdA Y 44 lv st σ 0) := mStep_d dX0_of_43
theorem vX0_of_44 : mStep h k cX0_of bl Q Y (44, lv, st, σ) = (mGet h k Y 47 lv st σ 33) := mStep_d dX0_of_44
theorem vX0_of_47 : mStep h k cX0_of bl Q Y (47, lv, st, σ) = (mLdI Y 48 lv st σ 1) := mStep_d dX0_of_47
theorem vX0_of_48 : mStep h k cX0_of bl Q Y (48, lv, st, σ) = (mLdE h Y 49 lv st σ) := mStep_d dX0_of_48
theorem vX0_of_49 : mStep h k cX0_of bl Q Y (49, lv, st, σ) = (mRetI bl Q st σ) := mStep_d dX0_of_49
theorem vX0_of_50 : mStep h k cX0_of bl Q Y (50, lv, st, σ) = (mLdA Y 51 lv st σ 0) := mStep_d dX0_of_50
theorem vX0_of_51 : mStep h k cX0_of bl Q Y (51, lv, st, σ) = (mGet h k Y 54 lv st σ 36) := mStep_d dX0_of_51
theorem vX0_of_54 : mStep h k cX0_of bl Q Y (54, lv, st, σ) = (mLdI Y 55 lv st σ 1) := mStep_d dX0_of_54
theorem vX0_of_55 : mStep h k cX0_of bl Q Y (55, lv, st, σ) = (mLdE h Y 56 lv st σ) := mStep_d dX0_of_55
theorem vX0_of_56 : mStep h k cX0_of bl Q Y (56, lv, st, σ) = (mRetI bl Q st σ) := mStep_d dX0_of_56
theorem vX0_of_57 : mStep h k cX0_of bl Q Y (57, lv, st, σ) = (Y (58, lv, .int (-1) :: st, σ)) := by rw [mStep_d dX0_of_57, ← mx_cm1]; rfl
theorem vX0_of_58 : mStep h k cX0_of bl Q Y (58, lv, st, σ) = (mRetI bl Q st σ) := mStep_d dX0_of_58
theorem vX0_count_0 : mStep h k cX0_count bl Q Y (0, lv, st, σ) = (mLdA Y 1 lv st σ 0) := mStep_d dX0_count_0
theorem vX0_count_1 : mStep h k cX0_count bl Q Y (1, lv, st, σ) = (mLdI Y 2 lv st σ 1) := mStep_d dX0_count_1
theorem vX0_count_2 : mStep h k cX0_count bl Q Y (2, lv, st, σ) = (mCaV k Y 5 lv st σ 63) := mStep_d dX0_count_2
theorem vX0_count_5 : mStep h k cX0_count bl Q Y (5, lv, st, σ) = (mJ1 Y 16 8 lv st σ (fun x => x = 0)) := (mStep_d dX0_count_5).trans (mIf1_J jt_5_11 jp_5_11)
theorem vX0_count_8 : mStep h k cX0_count bl Q Y (8, lv, st, σ) = (mLdA Y 9 lv st σ 0) := mStep_d dX0_count_8
theorem vX0_count_9 : mStep h k cX0_count bl Q Y (9, lv, st, σ) = (mLdI Y 10 lv st σ 2) := mStep_d dX0_count_9
theorem vX0_count_10 : mStep h k cX0_count bl Q Y (10, lv, st, σ) = (mCaV k Y 13 lv st σ 63) := mStep_d dX0_count_10
theorem vX0_count_13 : mStep h k cX0_count bl Q Y (13, lv, st, σ) = (mN1 Y 18 16 lv st σ) := (mStep_d dX0_count_13).trans (mIfN1_J jt_13_5 jp_13_5)
theorem vX0_count_16 : mStep h k cX0_count bl Q Y (16, lv, st, σ) = (Y (17, lv, .int (-1) :: st, σ)) := by rw [mStep_d dX0_count_16, ← mx_cm1]; rfl
theorem vX0_count_17 : mStep h k cX0_count bl Q Y (17, lv, st, σ) = (mRetI bl Q st σ) := mStep_d dX0_count_17
theorem vX0_count_18 : mStep h k cX0_count bl Q Y (18, lv, st, σ) = (mLdI Y 19 lv st σ 3) := mStep_d dX0_count_18
theorem vX0_count_19 : mStep h k cX0_count bl Q Y (19, lv, st, σ) = (mLsw Y 19 lv st σ 39 [(0, 25), (1, 32)]) := mStep_d dX0_count_19
theorem vX0_count_44 : mStep h k cX0_count bl Q Y (44, lv, st, σ) = (mLdA Y 45 lv st σ 0) := mStep_d dX0_count_44
theorem vX0_count_45 : mStep h k cX0_count bl Q Y (45, lv, st, σ) = (mLdI Y 46 lv st σ 1) := mStep_d dX0_count_45
theorem vX0_count_46 : mStep h k cX0_count bl Q Y (46, lv, st, σ) = (mLdI Y 47 lv st σ 2) := mStep_d dX0_count_46
theorem vX0_count_47 : mStep h k cX0_count bl Q Y (47, lv, st, σ) = (mCaV k Y 50 lv st σ 107) := mStep_d dX0_count_47
theorem vX0_count_50 : mStep h k cX0_count bl Q Y (50, lv, st, σ) = (mRetI bl Q st σ) := mStep_d dX0_count_50
theorem vX0_count_51 : mStep h k cX0_count bl Q Y (51, lv, st, σ) = (mLdA Y 52 lv st σ 0) := mStep_d dX0_count_51
theorem vX0_count_52 : mStep h k cX0_count bl Q Y (52, lv, st, σ) = (mLdI Y 53 lv st σ 1) := mStep_d dX0_count_52
theorem vX0_count_53 : mStep h k cX0_count bl Q Y (53, lv, st, σ) = (mLdI Y 54 lv st σ 2) := mStep_d dX0_count_53
theorem vX0_count_54 : mStep h k cX0_count bl Q Y (54, lv, st, σ) = (mCaV k Y 57 lv st σ 111) := mStep_d dX0_count_54
theorem vX0_count_57 : mStep h k cX0_count bl Q Y (57, lv, st, σ) = (mRetI bl Q st σ) := mStep_d dX0_count_57
theorem vX0_count_58 : mStep h k cX0_count bl Q Y (58, lv, st, σ) = (Y (59, lv, .int (-1) :: st, σ)) := by rw [mStep_d dX0_count_58, ← mx_cm1]; rfl
theorem vX0_count_59 : mStep h k cX0_count bl Q Y (59, lv, st, σ) = (mRetI bl Q st σ) := mStep_d dX0_count_59
theorem vX0_kin_0 : mStep h k cX0_kin bl Q Y (0, lv, st, σ) = (mLdA Y 1 lv st σ 0) := mStep_d dX0_kin_0
theorem vX0_kin_1 : mStep h k cX0_kin bl Q Y (1, lv, st, σ) = (mLdI Y 2 lv st σ 1) := mStep_d dX0_kin_1
theorem vX0_kin_2 : mStep h k cX0_kin bl Q Y (2, lv, st, σ) = (mLdI Y 3 lv st σ 2) := mStep_d dX0_kin_2
theorem vX0_kin_3 : mStep h k cX0_kin bl Q Y (3, lv, st, σ) = (mCaV k Y 6 lv st σ 74) := mStep_d dX0_kin_3
theorem vX0_kin_6 : mStep h k cX0_kin bl Q Y (6, lv, st, σ) = (mJ1 Y 18 9 lv st σ (fun x => x = 0)) := (mStep_d dX0_kin_6).trans (mIf1_J jt_6_12 jp_6_12)
theorem vX0_kin_9 : mStep h k cX0_kin bl Q Y (9, lv, st, σ) = (mLdA Y 10 lv st σ 0) := mStep_d dX0_kin_9
theorem vX0_kin_10 : mStep h k cX0_kin bl Q Y (10, lv, st, σ) = (mLdI Y 11 lv st σ 1) := mStep_d dX0_kin_10
theorem vX0_kin_11 : mStep h k cX0_kin bl Q Y (11, lv, st, σ) = (mLdI Y 12 lv st σ 2) := mStep_d dX0_kin_11
theorem vX0_kin_12 : mStep h k cX0_kin bl Q Y (12, lv, st, σ) = (mCaV k Y 15 lv st σ 114) := mStep_d dX0_kin_12
theorem vX0_kin_15 : mStep h k cX0_kin bl Q Y (15, lv, st, σ) = (Y (20, lv, st, σ)) := (mStep_d dX0_kin_15).trans (mJ_J jt_15_5 jp_15_5)
theorem vX0_kin_18 : mStep h k cX0_kin bl Q Y (18, lv, st, σ) = (mKon k Y 20 lv st σ 117) := mStep_d dX0_kin_18
theorem vX0_kin_20 : mStep h k cX0_kin bl Q Y (20, lv, st, σ) = (mRetI bl Q st σ) := mStep_d dX0_kin_20
theorem vX0_near_0 : mStep h k cX0_near bl Q Y (0, lv, st, σ) = (mLdA Y 1 lv st σ 0) := mStep_d dX0_near_0
theorem vX0_near_1 : mStep h k cX0_near bl Q Y (1, lv, st, σ) = (mLdI Y 2 lv st σ 1) := mStep_d dX0_near_1
theorem vX0_near_2 : mStep h k cX0_near bl Q Y (2, lv, st, σ) = (mCaV k Y 5 lv st σ 63) := mStep_d dX0_near_2
theorem vX0_near_5 : mStep h k cX0_near bl Q Y (5, lv, st, σ) = (mJ1 Y 22 8 lv st σ (fun x => x = 0)) := (mStep_d dX0_near_5).trans (mIf1_J jt_5_17 jp_5_17)
theorem vX0_near_8 : mStep h k cX0_near bl Q Y (8, lv, st, σ) = (mLdI Y 9 lv st σ 2) := mStep_d dX0_near_8
theorem vX0_near_9 : mStep h k cX0_near bl Q Y (9, lv, st, σ) = (mJ1 Y 22 12 lv st σ (fun x => x < 0)) := (mStep_d dX0_near_9).trans (mIf1_J jt_9_13 jp_9_13)
theorem vX0_near_12 : mStep h k cX0_near bl Q Y (12, lv, st, σ) = (mLdI Y 13 lv st σ 2) := mStep_d dX0_near_12
theorem vX0_near_13 : mStep h k cX0_near bl Q Y (13, lv, st, σ) = (mLdA Y 14 lv st σ 0) := mStep_d dX0_near_13
theorem vX0_near_14 : mStep h k cX0_near bl Q Y (14, lv, st, σ) = (mGet h k Y 17 lv st σ 53) := mStep_d dX0_near_14
theorem vX0_near_17 : mStep h k cX0_near bl Q Y (17, lv, st, σ) = (Y (18, lv, .int (1) :: st, σ)) := by rw [mStep_d dX0_near_17, ← mx_c1]; rfl
theorem vX0_near_18 : mStep h k cX0_near bl Q Y (18, lv, st, σ) = (mBin Y 19 lv st σ (fun x y => x - y)) := mStep_d dX0_near_18
theorem vX0_near_19 : mStep h k cX0_near bl Q Y (19, lv, st, σ) = (mJ2 Y 24 22 lv st σ (fun x y => x < y)) := (mStep_d dX0_near_19).trans (mIf2_J jt_19_5 jp_19_5)
theorem vX0_near_22 : mStep h k cX0_near bl Q Y (22, lv, st, σ) = (Y (23, lv, .int (-1) :: st, σ)) := by rw [mStep_d dX0_near_22, ← mx_cm1]; rfl
theorem vX0_near_23 : mStep h k cX0_near bl Q Y (23, lv, st, σ) = (mRetI bl Q st σ) := mStep_d dX0_near_23
theorem vX0_near_24 : mStep h k cX0_near bl Q Y (24, lv, st, σ) = (mLdA Y 25 lv st σ 0) := mStep_d dX0_near_24
theorem vX0_near_25 : mStep h k cX0_near bl Q Y (25, lv, st, σ) = (mCaV k Y 28 lv st σ 97) := mStep_d dX0_near_25
theorem vX0_near_28 : mStep h k cX0_near bl Q Y (28, lv, st, σ) = (Y (29, lv, .int (1) :: st, σ)) := by rw [mStep_d dX0_near_28, ← mx_c1]; rfl
theorem vX0_near_29 : mStep h k cX0_near bl Q Y (29, lv, st, σ) = (mLdI Y 30 lv st σ 1) := mStep_d dX0_near_29
theorem vX0_near_30 : mStep h k cX0_near bl Q Y (30, lv, st, σ) = (mBin Y 31 lv st σ (fun x y => x <<< (y &&& 31))) := mStep_d dX0_near_30
theorem vX0_near_31 : mStep h k cX0_near bl Q Y (31, lv, st, σ) = (Y (32, lv, .int (-1) :: st, σ)) := by rw [mStep_d dX0_near_31, ← mx_cm1]; rfl
theorem vX0_near_32 : mStep h k cX0_near bl Q Y (32, lv, st, σ) = (mBin Y 33 lv st σ (fun x y => x ^^^ y)) := mStep_d dX0_near_32
theorem vX0_near_33 : mStep h k cX0_near bl Q Y (33, lv, st, σ) = (mBin Y 34 lv st σ (fun x y => x &&& y)) := mStep_d dX0_near_33
theorem vX0_near_34 : mStep h k cX0_near bl Q Y (34, lv, st, σ) = (mStI Y 35 lv st σ 3) := mStep_d dX0_near_34
theorem vX0_near_35 : mStep h k cX0_near bl Q Y (35, lv, st, σ) = (mLdA Y 36 lv st σ 0) := mStep_d dX0_near_35
theorem vX0_near_36 : mStep h k cX0_near bl Q Y (36, lv, st, σ) = (mLdI Y 37 lv st σ 1) := mStep_d dX0_near_36
theorem vX0_near_37 : mStep h k cX0_near bl Q Y (37, lv, st, σ) = (mLdI Y 38 lv st σ 3) := mStep_d dX0_near_37
theorem vX0_near_38 : mStep h k cX0_near bl Q Y (38, lv, st, σ) = (mCaV k Y 41 lv st σ 118) := mStep_d dX0_near_38
theorem vX0_near_41 : mStep h k cX0_near bl Q Y (41, lv, st, σ) = (mLdI Y 42 lv st σ 3) := mStep_d dX0_near_41
theorem vX0_near_42 : mStep h k cX0_near bl Q Y (42, lv, st, σ) = (mStI Y 44 lv st σ 4) := mStep_d dX0_near_42
theorem vX0_near_44 : mStep h k cX0_near bl Q Y (44, lv, st, σ) = (mLdA Y 45 lv st σ 0) := mStep_d dX0_near_44
theorem vX0_near_45 : mStep h k cX0_near bl Q Y (45, lv, st, σ) = (mLdI Y 47 lv st σ 4) := mStep_d dX0_near_45
theorem vX0_near_47 : mStep h k cX0_near bl Q Y (47, lv, st, σ) = (mCaV k Y 50 lv st σ 121) := mStep_d dX0_near_47
theorem vX0_near_50 : mStep h k cX0_near bl Q Y (50, lv, st, σ) = (mStI Y 52 lv st σ 5) := mStep_d dX0_near_50
theorem vX0_near_52 : mStep h k cX0_near bl Q Y (52, lv, st, σ) = (Y (53, lv, .int (0) :: st, σ)) := by rw [mStep_d dX0_near_52, ← mx_c0]; rfl
theorem vX0_near_53 : mStep h k cX0_near bl Q Y (53, lv, st, σ) = (mStI Y 55 lv st σ 6) := mStep_d dX0_near_53
theorem vX0_near_55 : mStep h k cX0_near bl Q Y (55, lv, st, σ) = (mLdI Y 57 lv st σ 6) := mStep_d dX0_near_55
theorem vX0_near_57 : mStep h k cX0_near bl Q Y (57, lv, st, σ) = (mLdI Y 58 lv st σ 2) := mStep_d dX0_near_57
theorem vX0_near_58 : mStep h k cX0_near bl Q Y (58, lv, st, σ) = (mJ2 Y 86 61 lv st σ (fun x y => y ≤ x)) := (mStep_d dX0_near_58).trans (mIf2_J jt_58_28 jp_58_28)
theorem vX0_near_61 : mStep h k cX0_near bl Q Y (61, lv, st, σ) = (mLdI Y 63 lv st σ 4) := mStep_d dX0_near_61
theorem vX0_near_63 : mStep h k cX0_near bl Q Y (63, lv, st, σ) = (Y (64, lv, .int (1) :: st, σ)) := by rw [mStep_d dX0_near_63, ← mx_c1]; rfl
theorem vX0_near_64 : mStep h k cX0_near bl Q Y (64, lv, st, σ) = (mLdI Y 66 lv st σ 5) := mStep_d dX0_near_64
theorem vX0_near_66 : mStep h k cX0_near bl Q Y (66, lv, st, σ) = (mBin Y 67 lv st σ (fun x y => x <<< (y &&& 31))) := mStep_d dX0_near_66
theorem vX0_near_67 : mStep h k cX0_near bl Q Y (67, lv, st, σ) = (Y (68, lv, .int (-1) :: st, σ)) := by rw [mStep_d dX0_near_67, ← mx_cm1]; rfl
theorem vX0_near_68 : mStep h k cX0_near bl Q Y (68, lv, st, σ) = (mBin Y 69 lv st σ (fun x y => x ^^^ y)) := mStep_d dX0_near_68
theorem vX0_near_69 : mStep h k cX0_near bl Q Y (69, lv, st, σ) = (mBin Y 70 lv st σ (fun x y => x &&& y)) := mStep_d dX0_near_69
theorem vX0_near_70 : mStep h k cX0_near bl Q Y (70, lv, st, σ) = (mStI Y 72 lv st σ 4) := mStep_d dX0_near_70
theorem vX0_near_72 : mStep h k cX0_near bl Q Y (72, lv, st, σ) = (mLdA Y 73 lv st σ 0) := mStep_d dX0_near_72
theorem vX0_near_73 : mStep h k cX0_near bl Q Y (73, lv, st, σ) = (mLdI Y 75 lv st σ 4) := mStep_d dX0_near_73
theorem vX0_near_75 : mStep h k cX0_near bl Q Y (75, lv, st, σ) = (mCaV k Y 78 lv st σ 121) := mStep_d dX0_near_75
theorem vX0_near_78 : mStep h k cX0_near bl Q Y (78, lv, st, σ) = (mStI Y 80 lv st σ 5) := mStep_d dX0_near_78
theorem vX0_near_80 : mStep h k cX0_near bl Q Y (80, lv, st, σ) = (mInc Y 83 lv st σ 6 (1)) := by rw [mStep_d dX0_near_80, ← mx_c1]; rfl
theorem vX0_near_83 : mStep h k cX0_near bl Q Y (83, lv, st, σ) = (Y (55, lv, st, σ)) := (mStep_d dX0_near_83).trans (mJ_J jt_83_m28 jp_83_m28)
theorem vX0_near_86 : mStep h k cX0_near bl Q Y (86, lv, st, σ) = (mLdI Y 88 lv st σ 5) := mStep_d dX0_near_86
theorem vX0_near_88 : mStep h k cX0_near bl Q Y (88, lv, st, σ) = (mRetI bl Q st σ) := mStep_d dX0_near_88
theorem vX0_taken_0 : mStep h k cX0_taken bl Q Y (0, lv, st, σ) = (mLdI Y 1 lv st σ 1) := mStep_d dX0_taken_0
theorem vX0_taken_1 : mStep h k cX0_taken bl Q Y (1, lv, st, σ) = (mCaS k Y 4 lv st σ 77) := mStep_d dX0_taken_1
theorem vX0_taken_4 : mStep h k cX0_taken bl Q Y (4, lv, st, σ) = (mJ1 Y 15 7 lv st σ (fun x => x = 0)) := (mStep_d dX0_taken_4).trans (mIf1_J jt_4_11 jp_4_11)
theorem vX0_taken_7 : mStep h k cX0_taken bl Q Y (7, lv, st, σ) = (mLdA Y 8 lv st σ 0) := mStep_d dX0_taken_7
theorem vX0_taken_8 : mStep h k cX0_taken bl Q Y (8, lv, st, σ) = (mLdI Y 9 lv st σ 1) := mStep_d dX0_taken_8
theorem vX0_taken_9 : mStep h k cX0_taken bl Q Y (9, lv, st, σ) = (mCaV k Y 12 lv st σ 125) := mStep_d dX0_taken_9
theorem vX0_taken_12 : mStep h k cX0_taken bl Q Y (12, lv, st, σ) = (Y (16, lv, st, σ)) := (mStep_d dX0_taken_12).trans (mJ_J jt_12_4 jp_12_4)
theorem vX0_taken_15 : mStep h k cX0_taken bl Q Y (15, lv, st, σ) = (Y (16, lv, .int (-1) :: st, σ)) := by rw [mStep_d dX0_taken_15, ← mx_cm1]; rfl
theorem vX0_taken_16 : mStep h k cX0_taken bl Q Y (16, lv, st, σ) = (mRetI bl Q st σ) := mStep_d dX0_taken_16
theorem vX0_score_0 : mStep h k cX0_score bl Q Y (0, lv, st, σ) = (mLdI Y 1 lv st σ 1) := mStep_d dX0_score_0
theorem vX0_score_1 : mStep h k cX0_score bl Q Y (1, lv, st, σ) = (mCaS k Y 4 lv st σ 77) := mStep_d dX0_score_1
theorem vX0_score_4 : mStep h k cX0_score bl Q Y (4, lv, st, σ) = (mJ1 Y 28 7 lv st σ (fun x => x = 0)) := (mStep_d dX0_score_4).trans (mIf1_J jt_4_24 jp_4_24)
theorem vX0_score_7 : mStep h k cX0_score bl Q Y (7, lv, st, σ) = (mLdA Y 8 lv st σ 0) := mStep_d dX0_score_7
theorem vX0_score_8 : mStep h k cX0_score bl Q Y (8, lv, st, σ) = (mLdI Y 9 lv st σ 2) := mStep_d dX0_score_8
theorem vX0_score_9 : mStep h k cX0_score bl Q Y (9, lv, st, σ) = (mCaV k Y 12 lv st σ 63) := mStep_d dX0_score_9
theorem vX0_score_12 : mStep h k cX0_score bl Q Y (12, lv, st, σ) = (mJ1 Y 28 15 lv st σ (fun x => x = 0)) := (mStep_d dX0_score_12).trans (mIf1_J jt_12_16 jp_12_16)
theorem vX0_score_15 : mStep h k cX0_score bl Q Y (15, lv, st, σ) = (mLdA Y 16 lv st σ 0) := mStep_d dX0_score_15
theorem vX0_score_16 : mStep h k cX0_score bl Q Y (16, lv, st, σ) = (mLdA Y 17 lv st σ 0) := mStep_d dX0_score_16
theorem vX0_score_17 : mStep h k cX0_score bl Q Y (17, lv, st, σ) = (mLdI Y 18 lv st σ 1) := mStep_d dX0_score_17
theorem vX0_score_18 : mStep h k cX0_score bl Q Y (18, lv, st, σ) = (mCaV k Y 21 lv st σ 125) := mStep_d dX0_score_18
theorem vX0_score_21 : mStep h k cX0_score bl Q Y (21, lv, st, σ) = (mLdI Y 22 lv st σ 2) := mStep_d dX0_score_21
theorem vX0_score_22 : mStep h k cX0_score bl Q Y (22, lv, st, σ) = (mCaV k Y 25 lv st σ 128) := mStep_d dX0_score_22
theorem vX0_score_25 : mStep h k cX0_score bl Q Y (25, lv, st, σ) = (Y (30, lv, st, σ)) := (mStep_d dX0_score_25).trans (mJ_J jt_25_5 jp_25_5)
theorem vX0_score_28 : mStep h k cX0_score bl Q Y (28, lv, st, σ) = (mKon k Y 30 lv st σ 117) := mStep_d dX0_score_28
theorem vX0_score_30 : mStep h k cX0_score bl Q Y (30, lv, st, σ) = (mRetI bl Q st σ) := mStep_d dX0_score_30
theorem vX0_may_0 : mStep h k cX0_may bl Q Y (0, lv, st, σ) = (mLdI Y 1 lv st σ 1) := mStep_d dX0_may_0
theorem vX0_may_1 : mStep h k cX0_may bl Q Y (1, lv, st, σ) = (mCaS k Y 4 lv st σ 77) := mStep_d dX0_may_1
theorem vX0_may_4 : mStep h k cX0_may bl Q Y (4, lv, st, σ) = (mJ1 Y 15 7 lv st σ (fun x => x = 0)) := (mStep_d dX0_may_4).trans (mIf1_J jt_4_11 jp_4_11)
theorem vX0_may_7 : mStep h k cX0_may bl Q Y (7, lv, st, σ) = (mLdA Y 8 lv st σ 0) := mStep_d dX0_may_7
theorem vX0_may_8 : mStep h k cX0_may bl Q Y (8, lv, st, σ) = (mLdI Y 9 lv st σ 1) := mStep_d dX0_may_8
theorem vX0_may_9 : mStep h k cX0_may bl Q Y (9, lv, st, σ) = (mCaV k Y 12 lv st σ 131) := mStep_d dX0_may_9
theorem vX0_may_12 : mStep h k cX0_may bl Q Y (12, lv, st, σ) = (Y (16, lv, st, σ)) := (mStep_d dX0_may_12).trans (mJ_J jt_12_4 jp_12_4)
theorem vX0_may_15 : mStep h k cX0_may bl Q Y (15, lv, st, σ) = (Y (16, lv, .int (-1) :: st, σ)) := by rw [mStep_d dX0_may_15, ← mx_cm1]; rfl
theorem vX0_may_16 : mStep h k cX0_may bl Q Y (16, lv, st, σ) = (mRetI bl Q st σ) := mStep_d dX0_may_16
theorem vX0_list_0 : mStep h k cX0_list bl Q Y (0, lv, st, σ) = (mLdA Y 1 lv st σ 0) := mStep_d dX0_list_0
theorem vX0_list_1 : mStep h k cX0_list bl Q Y (1, lv, st, σ) = (mLdI Y 2 lv st σ 1) := mStep_d dX0_list_1
theorem vX0_list_2 : mStep h k cX0_list bl Q Y (2, lv, st, σ) = (mLdI Y 3 lv st σ 2) := mStep_d dX0_list_2
theorem vX0_list_3 : mStep h k cX0_list bl Q Y (3, lv, st, σ) = (mCaV k Y 6 lv st σ 134) := mStep_d dX0_list_3
theorem vX0_list_6 : mStep h k cX0_list bl Q Y (6, lv, st, σ) = (mJ1 Y 18 9 lv st σ (fun x => x = 0)) := (mStep_d dX0_list_6).trans (mIf1_J jt_6_12 jp_6_12)
theorem vX0_list_9 : mStep h k cX0_list bl Q Y (9, lv, st, σ) = (mLdI Y 10 lv st σ 3) := mStep_d dX0_list_9
theorem vX0_list_10 : mStep h k cX0_list bl Q Y (10, lv, st, σ) = (mJ1 Y 18 13 lv st σ (fun x => x < 0)) := (mStep_d dX0_list_10).trans (mIf1_J jt_10_8 jp_10_8)
theorem vX0_list_13 : mStep h k cX0_list bl Q Y (13, lv, st, σ) = (mLdI Y 14 lv st σ 3) := mStep_d dX0_list_13
theorem vX0_list_14 : mStep h k cX0_list bl Q Y (14, lv, st, σ) = (Y (15, lv, .int (1) :: st, σ)) := by rw [mStep_d dX0_list_14, ← mx_c1]; rfl
theorem vX0_list_15 : mStep h k cX0_list bl Q Y (15, lv, st, σ) = (mJ2 Y 21 18 lv st σ (fun x y => x ≤ y)) := (mStep_d dX0_list_15).trans (mIf2_J jt_15_6 jp_15_6)
theorem vX0_list_18 : mStep h k cX0_list bl Q Y (18, lv, st, σ) = (mKon k Y 20 lv st σ 117) := mStep_d dX0_list_18
theorem vX0_list_20 : mStep h k cX0_list bl Q Y (20, lv, st, σ) = (mRetI bl Q st σ) := mStep_d dX0_list_20
theorem vX0_list_21 : mStep h k cX0_list bl Q Y (21, lv, st, σ) = (mLdA Y 22 lv st σ 0) := mStep_d dX0_list_21
theorem vX0_list_22 : mStep h k cX0_list bl Q Y (22, lv, st, σ) = (mLdI Y 23 lv st σ 1) := mStep_d dX0_list_22
theorem vX0_list_23 : mStep h k cX0_list bl Q Y (23, lv, st, σ) = (mLdI Y 24 lv st σ 2) := mStep_d dX0_list_23
theorem vX0_list_24 : mStep h k cX0_list bl Q Y (24, lv, st, σ) = (mCaV k Y 27 lv st σ 137) := mStep_d dX0_list_24
theorem vX0_list_27 : mStep h k cX0_list bl Q Y (27, lv, st, σ) = (mStI Y 29 lv st σ 4) := mStep_d dX0_list_27
theorem vX0_list_29 : mStep h k cX0_list bl Q Y (29, lv, st, σ) = (mLdI Y 30 lv st σ 3) := mStep_d dX0_list_29
theorem vX0_list_30 : mStep h k cX0_list bl Q Y (30, lv, st, σ) = (mN1 Y 38 33 lv st σ) := (mStep_d dX0_list_30).trans (mIfN1_J jt_30_8 jp_30_8)
theorem vX0_list_33 : mStep h k cX0_list bl Q Y (33, lv, st, σ) = (mLdI Y 35 lv st σ 4) := mStep_d dX0_list_33
theorem vX0_list_35 : mStep h k cX0_list bl Q Y (35, lv, st, σ) = (Y (44, lv, st, σ)) := (mStep_d dX0_list_35).trans (mJ_J jt_35_9 jp_35_9)
theorem vX0_list_38 : mStep h k cX0_list bl Q Y (38, lv, st, σ) = (mLdA Y 39 lv st σ 0) := mStep_d dX0_list_38
theorem vX0_list_39 : mStep h k cX0_list bl Q Y (39, lv, st, σ) = (mLdI Y 41 lv st σ 4) := mStep_d dX0_list_39
theorem vX0_list_41 : mStep h k cX0_list bl Q Y (41, lv, st, σ) = (mCaV k Y 44 lv st σ 140) := mStep_d dX0_list_41
theorem vX0_list_44 : mStep h k cX0_list bl Q Y (44, lv, st, σ) = (mRetI bl Q st σ) := mStep_d dX0_list_44
theorem vX0_show_0 : mStep h k cX0_show bl Q Y (0, lv, st, σ) = (mLdA Y 1 lv st σ 0) := mStep_d dX0_show_0
theorem vX0_show_1 : mStep h k cX0_show bl Q Y (1, lv, st, σ) = (mLdI Y 2 lv st σ 1) := mStep_d dX0_show_1
theorem vX0_show_2 : mStep h k cX0_show bl Q Y (2, lv, st, σ) = (mLdI Y 3 lv st σ 2) := mStep_d dX0_show_2
theorem vX0_show_3 : mStep h k cX0_show bl Q Y (3, lv, st, σ) = (mCaV k Y 6 lv st σ 134) := mStep_d dX0_show_3
theorem vX0_show_6 : mStep h k cX0_show bl Q Y (6, lv, st, σ) = (mN1 Y 11 9 lv st σ) := (mStep_d dX0_show_6).trans (mIfN1_J jt_6_5 jp_6_5)
theorem vX0_show_9 : mStep h k cX0_show bl Q Y (9, lv, st, σ) = (Y (10, lv, .int (-1) :: st, σ)) := by rw [mStep_d dX0_show_9, ← mx_cm1]; rfl
theorem vX0_show_10 : mStep h k cX0_show bl Q Y (10, lv, st, σ) = (mRetI bl Q st σ) := mStep_d dX0_show_10
theorem vX0_show_11 : mStep h k cX0_show bl Q Y (11, lv, st, σ) = (mLdA Y 12 lv st σ 0) := mStep_d dX0_show_11
theorem vX0_show_12 : mStep h k cX0_show bl Q Y (12, lv, st, σ) = (mLdI Y 13 lv st σ 1) := mStep_d dX0_show_12
theorem vX0_show_13 : mStep h k cX0_show bl Q Y (13, lv, st, σ) = (mLdI Y 14 lv st σ 2) := mStep_d dX0_show_13
theorem vX0_show_14 : mStep h k cX0_show bl Q Y (14, lv, st, σ) = (mCaV k Y 17 lv st σ 137) := mStep_d dX0_show_14
theorem vX0_show_17 : mStep h k cX0_show bl Q Y (17, lv, st, σ) = (mStI Y 18 lv st σ 3) := mStep_d dX0_show_17
theorem vX0_show_18 : mStep h k cX0_show bl Q Y (18, lv, st, σ) = (mLdA Y 19 lv st σ 0) := mStep_d dX0_show_18
theorem vX0_show_19 : mStep h k cX0_show bl Q Y (19, lv, st, σ) = (mGet h k Y 22 lv st σ 39) := mStep_d dX0_show_19
theorem vX0_show_22 : mStep h k cX0_show bl Q Y (22, lv, st, σ) = (mLdI Y 23 lv st σ 1) := mStep_d dX0_show_22
theorem vX0_show_23 : mStep h k cX0_show bl Q Y (23, lv, st, σ) = (mDup2 Y 24 lv st σ) := mStep_d dX0_show_23
theorem vX0_show_24 : mStep h k cX0_show bl Q Y (24, lv, st, σ) = (mLdE h Y 25 lv st σ) := mStep_d dX0_show_24
theorem vX0_show_25 : mStep h k cX0_show bl Q Y (25, lv, st, σ) = (Y (26, lv, .int (1) :: st, σ)) := by rw [mStep_d dX0_show_25, ← mx_c1]; rfl
theorem vX0_show_26 : mStep h k cX0_show bl Q Y (26, lv, st, σ) = (mBin Y 27 lv st σ (fun x y => x + y)) := mStep_d dX0_show_26
theorem vX0_show_27 : mStep h k cX0_show bl Q Y (27, lv, st, σ) = (mStE h Y 28 lv st σ) := mStep_d dX0_show_27
theorem vX0_show_28 : mStep h k cX0_show bl Q Y (28, lv, st, σ) = (Y (29, lv, .int (0) :: st, σ)) := by rw [mStep_d dX0_show_28, ← mx_c0]; rfl
theorem vX0_show_29 : mStep h k cX0_show bl Q Y (29, lv, st, σ) = (mStI Y 31 lv st σ 4) := mStep_d dX0_show_29
theorem vX0_show_31 : mStep h k cX0_show bl Q Y (31, lv, st, σ) = (mLdI Y 33 lv st σ 4) := mStep_d dX0_show_31
theorem vX0_show_33 : mStep h k cX0_show bl Q Y (33, lv, st, σ) = (mLdA Y 34 lv st σ 0) := mStep_d dX0_show_33
theorem vX0_show_34 : mStep h k cX0_show bl Q Y (34, lv, st, σ) = (mGet h k Y 37 lv st σ 53) := mStep_d dX0_show_34
theorem vX0_show_37 : mStep h k cX0_show bl Q Y (37, lv, st, σ) = (mJ2 Y 62 40 lv st σ (fun x y => y ≤ x)) := (mStep_d dX0_show_37).trans (mIf2_J jt_37_25 jp_37_25)
theorem vX0_show_40 : mStep h k cX0_show bl Q Y (40, lv, st, σ) = (mLdI Y 41 lv st σ 3) := mStep_d dX0_show_40
theorem vX0_show_41 : mStep h k cX0_show bl Q Y (41, lv, st, σ) = (mLdI Y 43 lv st σ 4) := mStep_d dX0_show_41
theorem vX0_show_43 : mStep h k cX0_show bl Q Y (43, lv, st, σ) = (mCaS k Y 46 lv st σ 67) := mStep_d dX0_show_43
theorem vX0_show_46 : mStep h k cX0_show bl Q Y (46, lv, st, σ) = (mJ1 Y 56 49 lv st σ (fun x => x = 0)) := (mStep_d dX0_show_46).trans (mIf1_J jt_46_10 jp_46_10)
theorem vX0_show_49 : mStep h k cX0_show bl Q Y (49, lv, st, σ) = (mLdA Y 50 lv st σ 0) := mStep_d dX0_show_49
theorem vX0_show_50 : mStep h k cX0_show bl Q Y (50, lv, st, σ) = (mLdI Y 51 lv st σ 1) := mStep_d dX0_show_50
theorem vX0_show_51 : mStep h k cX0_show bl Q Y (51, lv, st, σ) = (mLdI Y 53 lv st σ 4) := mStep_d dX0_show_51
theorem vX0_show_53 : mStep h k cX0_show bl Q Y (53, lv, st, σ) = (mCaV k Y 56 lv st σ 143) := mStep_d dX0_show_53
theorem vX0_show_56 : mStep h k cX0_show bl Q Y (56, lv, st, σ) = (mInc Y 59 lv st σ 4 (1)) := by rw [mStep_d dX0_show_56, ← mx_c1]; rfl
theorem vX0_show_59 : mStep h k cX0_show bl Q Y (59, lv, st, σ) = (Y (31, lv, st, σ)) := (mStep_d dX0_show_59).trans (mJ_J jt_59_m28 jp_59_m28)
theorem vX0_show_62 : mStep h k cX0_show bl Q Y (62, lv, st, σ) = (mLdI Y 63 lv st σ 3) := mStep_d dX0_show_62
theorem vX0_show_63 : mStep h k cX0_show bl Q Y (63, lv, st, σ) = (mRetI bl Q st σ) := mStep_d dX0_show_63
theorem vX0_shown_0 : mStep h k cX0_shown bl Q Y (0, lv, st, σ) = (mLdI Y 1 lv st σ 1) := mStep_d dX0_shown_0
theorem vX0_shown_1 : mStep h k cX0_shown bl Q Y (1, lv, st, σ) = (mCaS k Y 4 lv st σ 77) := mStep_d dX0_shown_1
theorem vX0_shown_4 : mStep h k cX0_shown bl Q Y (4, lv, st, σ) = (mN1 Y 9 7 lv st σ) := (mStep_d dX0_shown_4).trans (mIfN1_J jt_4_5 jp_4_5)
theorem vX0_shown_7 : mStep h k cX0_shown bl Q Y (7, lv, st, σ) = (Y (8, lv, .int (-1) :: st, σ)) := by rw [mStep_d dX0_shown_7, ← mx_cm1]; rfl
theorem vX0_shown_8 : mStep h k cX0_shown bl Q Y (8, lv, st, σ) = (mRetI bl Q st σ) := mStep_d dX0_shown_8
theorem vX0_shown_9 : mStep h k cX0_shown bl Q Y (9, lv, st, σ) = (mLdI Y 10 lv st σ 3) := mStep_d dX0_shown_9
theorem vX0_shown_10 : mStep h k cX0_shown bl Q Y (10, lv, st, σ) = (Y (11, lv, .int (2) :: st, σ)) := by rw [mStep_d dX0_shown_10, ← mx_c2]; rfl
theorem vX0_shown_11 : mStep h k cX0_shown bl Q Y (11, lv, st, σ) = (mN2 Y 30 14 lv st σ) := (mStep_d dX0_shown_11).trans (mIfN2_J jt_11_19 jp_11_19)
theorem vX0_shown_14 : mStep h k cX0_shown bl Q Y (14, lv, st, σ) = (mLdI Y 15 lv st σ 2) := mStep_d dX0_shown_14
theorem vX0_shown_15 : mStep h k cX0_shown bl Q Y (15, lv, st, σ) = (Y (16, lv, .int (-1) :: st, σ)) := by rw [mStep_d dX0_shown_15, ← mx_cm1]; rfl
theorem vX0_shown_16 : mStep h k cX0_shown bl Q Y (16, lv, st, σ) = (mN2 Y 28 19 lv st σ) := (mStep_d dX0_shown_16).trans (mIfN2_J jt_16_12 jp_16_12)
theorem vX0_shown_19 : mStep h k cX0_shown bl Q Y (19, lv, st, σ) = (mLdA Y 20 lv st σ 0) := mStep_d dX0_shown_19
theorem vX0_shown_20 : mStep h k cX0_shown bl Q Y (20, lv, st, σ) = (mGet h k Y 23 lv st σ 39) := mStep_d dX0_shown_20
theorem vX0_shown_23 : mStep h k cX0_shown bl Q Y (23, lv, st, σ) = (mLdI Y 24 lv st σ 1) := mStep_d dX0_shown_23
theorem vX0_shown_24 : mStep h k cX0_shown bl Q Y (24, lv, st, σ) = (mLdE h Y 25 lv st σ) := mStep_d dX0_shown_24
theorem vX0_shown_25 : mStep h k cX0_shown bl Q Y (25, lv, st, σ) = (Y (29, lv, st, σ)) := (mStep_d dX0_shown_25).trans (mJ_J jt_25_4 jp_25_4)
theorem vX0_shown_28 : mStep h k cX0_shown bl Q Y (28, lv, st, σ) = (Y (29, lv, .int (-1) :: st, σ)) := by rw [mStep_d dX0_shown_28, ← mx_cm1]; rfl
theorem vX0_shown_29 : mStep h k cX0_shown bl Q Y (29, lv, st, σ) = (mRetI bl Q st σ) := mStep_d dX0_shown_29
theorem vX0_shown_30 : mStep h k cX0_shown bl Q Y (30, lv, st, σ) = (mLdA Y 31 lv st σ 0) := mStep_d dX0_shown_30
theorem vX0_shown_31 : mStep h k cX0_shown bl Q Y (31, lv, st, σ) = (mLdI Y 32 lv st σ 2) := mStep_d dX0_shown_31
theorem vX0_shown_32 : mStep h k cX0_shown bl Q Y (32, lv, st, σ) = (mCaV k Y 35 lv st σ 63) := mStep_d dX0_shown_32
theorem vX0_shown_35 : mStep h k cX0_shown bl Q Y (35, lv, st, σ) = (mN1 Y 40 38 lv st σ) := (mStep_d dX0_shown_35).trans (mIfN1_J jt_35_5 jp_35_5)
theorem vX0_shown_38 : mStep h k cX0_shown bl Q Y (38, lv, st, σ) = (Y (39, lv, .int (-1) :: st, σ)) := by rw [mStep_d dX0_shown_38, ← mx_cm1]; rfl
theorem vX0_shown_39 : mStep h k cX0_shown bl Q Y (39, lv, st, σ) = (mRetI bl Q st σ) := mStep_d dX0_shown_39
theorem vX0_shown_40 : mStep h k cX0_shown bl Q Y (40, lv, st, σ) = (mLdI Y 41 lv st σ 3) := mStep_d dX0_shown_40
theorem vX0_shown_41 : mStep h k cX0_shown bl Q Y (41, lv, st, σ) = (mLsw Y 41 lv st σ 43 [(0, 27), (1, 36)]) := mStep_d dX0_shown_41
theorem vX0_shown_68 : mStep h k cX0_shown bl Q Y (68, lv, st, σ) = (mLdA Y 69 lv st σ 0) := mStep_d dX0_shown_68
theorem vX0_shown_69 : mStep h k cX0_shown bl Q Y (69, lv, st, σ) = (mGet h k Y 72 lv st σ 44) := mStep_d dX0_shown_69
theorem vX0_shown_72 : mStep h k cX0_shown bl Q Y (72, lv, st, σ) = (mLdI Y 73 lv st σ 1) := mStep_d dX0_shown_72
theorem vX0_shown_73 : mStep h k cX0_shown bl Q Y (73, lv, st, σ) = (mLdR h Y 74 lv st σ) := mStep_d dX0_shown_73
theorem vX0_shown_74 : mStep h k cX0_shown bl Q Y (74, lv, st, σ) = (mLdI Y 75 lv st σ 2) := mStep_d dX0_shown_74
theorem vX0_shown_75 : mStep h k cX0_shown bl Q Y (75, lv, st, σ) = (mLdE h Y 76 lv st σ) := mStep_d dX0_shown_75
theorem vX0_shown_76 : mStep h k cX0_shown bl Q Y (76, lv, st, σ) = (mRetI bl Q st σ) := mStep_d dX0_shown_76
theorem vX0_shown_77 : mStep h k cX0_shown bl Q Y (77, lv, st, σ) = (mLdA Y 78 lv st σ 0) := mStep_d dX0_shown_77
theorem vX0_shown_78 : mStep h k cX0_shown bl Q Y (78, lv, st, σ) = (mLdI Y 79 lv st σ 1) := mStep_d dX0_shown_78
theorem vX0_shown_79 : mStep h k cX0_shown bl Q Y (79, lv, st, σ) = (mLdI Y 80 lv st σ 2) := mStep_d dX0_shown_79
theorem vX0_shown_80 : mStep h k cX0_shown bl Q Y (80, lv, st, σ) = (mCaV k Y 83 lv st σ 146) := mStep_d dX0_shown_80
theorem vX0_shown_83 : mStep h k cX0_shown bl Q Y (83, lv, st, σ) = (mRetI bl Q st σ) := mStep_d dX0_shown_83
theorem vX0_shown_84 : mStep h k cX0_shown bl Q Y (84, lv, st, σ) = (Y (85, lv, .int (-1) :: st, σ)) := by rw [mStep_d dX0_shown_84, ← mx_cm1]; rfl
theorem vX0_shown_85 : mStep h k cX0_shown bl Q Y (85, lv, st, σ) = (mRetI bl Q st σ) := mStep_d dX0_shown_85
theorem vX0_why_0 : mStep h k cX0_why bl Q Y (0, lv, st, σ) = (mLdI Y 1 lv st σ 1) := mStep_d dX0_why_0
theorem vX0_why_1 : mStep h k cX0_why bl Q Y (1, lv, st, σ) = (mCaS k Y 4 lv st σ 77) := mStep_d dX0_why_1
theorem vX0_why_4 : mStep h k cX0_why bl Q Y (4, lv, st, σ) = (mJ1 Y 15 7 lv st σ (fun x => x = 0)) := (mStep_d dX0_why_4).trans (mIf1_J jt_4_11 jp_4_11)
theorem vX0_why_7 : mStep h k cX0_why bl Q Y (7, lv, st, σ) = (mLdA Y 8 lv st σ 0) := mStep_d dX0_why_7
theorem vX0_why_8 : mStep h k cX0_why bl Q Y (8, lv, st, σ) = (mLdI Y 9 lv st σ 2) := mStep_d dX0_why_8
theorem vX0_why_9 : mStep h k cX0_why bl Q Y (9, lv, st, σ) = (mCaV k Y 12 lv st σ 63) := mStep_d dX0_why_9
theorem vX0_why_12 : mStep h k cX0_why bl Q Y (12, lv, st, σ) = (mN1 Y 18 15 lv st σ) := (mStep_d dX0_why_12).trans (mIfN1_J jt_12_6 jp_12_6)
theorem vX0_why_15 : mStep h k cX0_why bl Q Y (15, lv, st, σ) = (mKon k Y 17 lv st σ 117) := mStep_d dX0_why_15
theorem vX0_why_17 : mStep h k cX0_why bl Q Y (17, lv, st, σ) = (mRetI bl Q st σ) := mStep_d dX0_why_17
theorem vX0_why_18 : mStep h k cX0_why bl Q Y (18, lv, st, σ) = (mLdA Y 19 lv st σ 0) := mStep_d dX0_why_18
theorem vX0_why_19 : mStep h k cX0_why bl Q Y (19, lv, st, σ) = (mLdI Y 20 lv st σ 1) := mStep_d dX0_why_19
theorem vX0_why_20 : mStep h k cX0_why bl Q Y (20, lv, st, σ) = (mCaV k Y 23 lv st σ 125) := mStep_d dX0_why_20
theorem vX0_why_23 : mStep h k cX0_why bl Q Y (23, lv, st, σ) = (Y (24, lv, .int (1) :: st, σ)) := by rw [mStep_d dX0_why_23, ← mx_c1]; rfl
theorem vX0_why_24 : mStep h k cX0_why bl Q Y (24, lv, st, σ) = (mLdI Y 25 lv st σ 2) := mStep_d dX0_why_24
theorem vX0_why_25 : mStep h k cX0_why bl Q Y (25, lv, st, σ) = (mBin Y 26 lv st σ (fun x y => x <<< (y &&& 31))) := mStep_d dX0_why_25
theorem vX0_why_26 : mStep h k cX0_why bl Q Y (26, lv, st, σ) = (Y (27, lv, .int (-1) :: st, σ)) := by rw [mStep_d dX0_why_26, ← mx_cm1]; rfl
theorem vX0_why_27 : mStep h k cX0_why bl Q Y (27, lv, st, σ) = (mBin Y 28 lv st σ (fun x y => x ^^^ y)) := mStep_d dX0_why_27
theorem vX0_why_28 : mStep h k cX0_why bl Q Y (28, lv, st, σ) = (mBin Y 29 lv st σ (fun x y => x &&& y)) := mStep_d dX0_why_28
theorem vX0_why_29 : mStep h k cX0_why bl Q Y (29, lv, st, σ) = (mStI Y 31 lv st σ 4) := mStep_d dX0_why_29
theorem vX0_why_31 : mStep h k cX0_why bl Q Y (31, lv, st, σ) = (mLdI Y 33 lv st σ 4) := mStep_d dX0_why_31
theorem vX0_why_33 : mStep h k cX0_why bl Q Y (33, lv, st, σ) = (mN1 Y 39 36 lv st σ) := (mStep_d dX0_why_33).trans (mIfN1_J jt_33_6 jp_33_6)
theorem vX0_why_36 : mStep h k cX0_why bl Q Y (36, lv, st, σ) = (mKon k Y 38 lv st σ 117) := mStep_d dX0_why_36
theorem vX0_why_38 : mStep h k cX0_why bl Q Y (38, lv, st, σ) = (mRetI bl Q st σ) := mStep_d dX0_why_38
theorem vX0_why_39 : mStep h k cX0_why bl Q Y (39, lv, st, σ) = (mLdA Y 40 lv st σ 0) := mStep_d dX0_why_39
theorem vX0_why_40 : mStep h k cX0_why bl Q Y (40, lv, st, σ) = (mLdI Y 41 lv st σ 2) := mStep_d dX0_why_40
theorem vX0_why_41 : mStep h k cX0_why bl Q Y (41, lv, st, σ) = (mLdI Y 43 lv st σ 4) := mStep_d dX0_why_41
theorem vX0_why_43 : mStep h k cX0_why bl Q Y (43, lv, st, σ) = (mCaV k Y 46 lv st σ 118) := mStep_d dX0_why_43
theorem vX0_why_46 : mStep h k cX0_why bl Q Y (46, lv, st, σ) = (mLdA Y 47 lv st σ 0) := mStep_d dX0_why_46
theorem vX0_why_47 : mStep h k cX0_why bl Q Y (47, lv, st, σ) = (mLdI Y 49 lv st σ 4) := mStep_d dX0_why_47
theorem vX0_why_49 : mStep h k cX0_why bl Q Y (49, lv, st, σ) = (mCaV k Y 52 lv st σ 121) := mStep_d dX0_why_49
theorem vX0_why_52 : mStep h k cX0_why bl Q Y (52, lv, st, σ) = (mStI Y 54 lv st σ 5) := mStep_d dX0_why_52
theorem vX0_why_54 : mStep h k cX0_why bl Q Y (54, lv, st, σ) = (mLdI Y 55 lv st σ 3) := mStep_d dX0_why_54
theorem vX0_why_55 : mStep h k cX0_why bl Q Y (55, lv, st, σ) = (mTsw Y 55 lv st σ 44 0 2 [25, 28, 36]) := mStep_d dX0_why_55
theorem vX0_why_80 : mStep h k cX0_why bl Q Y (80, lv, st, σ) = (mLdI Y 82 lv st σ 5) := mStep_d dX0_why_80
theorem vX0_why_82 : mStep h k cX0_why bl Q Y (82, lv, st, σ) = (mRetI bl Q st σ) := mStep_d dX0_why_82
theorem vX0_why_83 : mStep h k cX0_why bl Q Y (83, lv, st, σ) = (mLdA Y 84 lv st σ 0) := mStep_d dX0_why_83
theorem vX0_why_84 : mStep h k cX0_why bl Q Y (84, lv, st, σ) = (mLdI Y 85 lv st σ 2) := mStep_d dX0_why_84
theorem vX0_why_85 : mStep h k cX0_why bl Q Y (85, lv, st, σ) = (mLdI Y 87 lv st σ 5) := mStep_d dX0_why_85
theorem vX0_why_87 : mStep h k cX0_why bl Q Y (87, lv, st, σ) = (mCaV k Y 90 lv st σ 114) := mStep_d dX0_why_87
theorem vX0_why_90 : mStep h k cX0_why bl Q Y (90, lv, st, σ) = (mRetI bl Q st σ) := mStep_d dX0_why_90
theorem vX0_why_91 : mStep h k cX0_why bl Q Y (91, lv, st, σ) = (mLdA Y 92 lv st σ 0) := mStep_d dX0_why_91
theorem vX0_why_92 : mStep h k cX0_why bl Q Y (92, lv, st, σ) = (mLdI Y 93 lv st σ 2) := mStep_d dX0_why_92
theorem vX0_why_93 : mStep h k cX0_why bl Q Y (93, lv, st, σ) = (mLdI Y 95 lv st σ 5) := mStep_d dX0_why_93
theorem vX0_why_95 : mStep h k cX0_why bl Q Y (95, lv, st, σ) = (mCaV k Y 98 lv st σ 107) := mStep_d dX0_why_95
theorem vX0_why_98 : mStep h k cX0_why bl Q Y (98, lv, st, σ) = (mRetI bl Q st σ) := mStep_d dX0_why_98
theorem vX0_why_99 : mStep h k cX0_why bl Q Y (99, lv, st, σ) = (mKon k Y 101 lv st σ 117) := mStep_d dX0_why_99
theorem vX0_why_101 : mStep h k cX0_why bl Q Y (101, lv, st, σ) = (mRetI bl Q st σ) := mStep_d dX0_why_101
theorem vX0_isThing_0 : mStep h k cX0_isThing bl Q Y (0, lv, st, σ) = (mLdI Y 1 lv st σ 1) := mStep_d dX0_isThing_0
theorem vX0_isThing_1 : mStep h k cX0_isThing bl Q Y (1, lv, st, σ) = (mJ1 Y 16 4 lv st σ (fun x => x < 0)) := (mStep_d dX0_isThing_1).trans (mIf1_J jt_1_15 jp_1_15)
theorem vX0_isThing_4 : mStep h k cX0_isThing bl Q Y (4, lv, st, σ) = (mLdI Y 5 lv st σ 1) := mStep_d dX0_isThing_4
theorem vX0_isThing_5 : mStep h k cX0_isThing bl Q Y (5, lv, st, σ) = (mLdA Y 6 lv st σ 0) := mStep_d dX0_isThing_5
theorem vX0_isThing_6 : mStep h k cX0_isThing bl Q Y (6, lv, st, σ) = (mGet h k Y 9 lv st σ 53) := mStep_d dX0_isThing_6
theorem vX0_isThing_9 : mStep h k cX0_isThing bl Q Y (9, lv, st, σ) = (mJ2 Y 16 12 lv st σ (fun x y => y ≤ x)) := (mStep_d dX0_isThing_9).trans (mIf2_J jt_9_7 jp_9_7)
theorem vX0_isThing_12 : mStep h k cX0_isThing bl Q Y (12, lv, st, σ) = (Y (13, lv, .int (1) :: st, σ)) := by rw [mStep_d dX0_isThing_12, ← mx_c1]; rfl
theorem vX0_isThing_13 : mStep h k cX0_isThing bl Q Y (13, lv, st, σ) = (Y (17, lv, st, σ)) := (mStep_d dX0_isThing_13).trans (mJ_J jt_13_4 jp_13_4)
theorem vX0_isThing_16 : mStep h k cX0_isThing bl Q Y (16, lv, st, σ) = (Y (17, lv, .int (0) :: st, σ)) := by rw [mStep_d dX0_isThing_16, ← mx_c0]; rfl
theorem vX0_isThing_17 : mStep h k cX0_isThing bl Q Y (17, lv, st, σ) = (mRetI bl Q st σ) := mStep_d dX0_isThing_17
theorem vX0_areTwoThings_0 : mStep h k cX0_areTwoThings bl Q Y (0, lv, st, σ) = (mLdA Y 1 lv st σ 0) := mStep_d dX0_areTwoThings_0
theorem vX0_areTwoThings_1 : mStep h k cX0_areTwoThings bl Q Y (1, lv, st, σ) = (mLdI Y 2 lv st σ 1) := mStep_d dX0_areTwoThings_1
theorem vX0_areTwoThings_2 : mStep h k cX0_areTwoThings bl Q Y (2, lv, st, σ) = (mCaV k Y 5 lv st σ 63) := mStep_d dX0_areTwoThings_2
theorem vX0_areTwoThings_5 : mStep h k cX0_areTwoThings bl Q Y (5, lv, st, σ) = (mJ1 Y 25 8 lv st σ (fun x => x = 0)) := (mStep_d dX0_areTwoThings_5).trans (mIf1_J jt_5_20 jp_5_20)
theorem vX0_areTwoThings_8 : mStep h k cX0_areTwoThings bl Q Y (8, lv, st, σ) = (mLdA Y 9 lv st σ 0) := mStep_d dX0_areTwoThings_8
theorem vX0_areTwoThings_9 : mStep h k cX0_areTwoThings bl Q Y (9, lv, st, σ) = (mLdI Y 10 lv st σ 2) := mStep_d dX0_areTwoThings_9
theorem vX0_areTwoThings_10 : mStep h k cX0_areTwoThings bl Q Y (10, lv, st, σ) = (mCaV k Y 13 lv st σ 63) := mStep_d dX0_areTwoThings_10
theorem vX0_areTwoThings_13 : mStep h k cX0_areTwoThings bl Q Y (13, lv, st, σ) = (mJ1 Y 25 16 lv st σ (fun x => x = 0)) := (mStep_d dX0_areTwoThings_13).trans (mIf1_J jt_13_12 jp_13_12)
theorem vX0_areTwoThings_16 : mStep h k cX0_areTwoThings bl Q Y (16, lv, st, σ) = (mLdI Y 17 lv st σ 1) := mStep_d dX0_areTwoThings_16
theorem vX0_areTwoThings_17 : mStep h k cX0_areTwoThings bl Q Y (17, lv, st, σ) = (mLdI Y 18 lv st σ 2) := mStep_d dX0_areTwoThings_17
theorem vX0_areTwoThings_18 : mStep h k cX0_areTwoThings bl Q Y (18, lv, st, σ) = (mJ2 Y 25 21 lv st σ (fun x y => x = y)) := (mStep_d dX0_areTwoThings_18).trans (mIf2_J jt_18_7 jp_18_7)
theorem vX0_areTwoThings_21 : mStep h k cX0_areTwoThings bl Q Y (21, lv, st, σ) = (Y (22, lv, .int (1) :: st, σ)) := by rw [mStep_d dX0_areTwoThings_21, ← mx_c1]; rfl
theorem vX0_areTwoThings_22 : mStep h k cX0_areTwoThings bl Q Y (22, lv, st, σ) = (Y (26, lv, st, σ)) := (mStep_d dX0_areTwoThings_22).trans (mJ_J jt_22_4 jp_22_4)
theorem vX0_areTwoThings_25 : mStep h k cX0_areTwoThings bl Q Y (25, lv, st, σ) = (Y (26, lv, .int (0) :: st, σ)) := by rw [mStep_d dX0_areTwoThings_25, ← mx_c0]; rfl
theorem vX0_areTwoThings_26 : mStep h k cX0_areTwoThings bl Q Y (26, lv, st, σ) = (mRetI bl Q st σ) := mStep_d dX0_areTwoThings_26
theorem vX0_isSetOfThings_0 : mStep h k cX0_isSetOfThings bl Q Y (0, lv, st, σ) = (mLdI Y 1 lv st σ 1) := mStep_d dX0_isSetOfThings_0
theorem vX0_isSetOfThings_1 : mStep h k cX0_isSetOfThings bl Q Y (1, lv, st, σ) = (mLdA Y 2 lv st σ 0) := mStep_d dX0_isSetOfThings_1
theorem vX0_isSetOfThings_2 : mStep h k cX0_isSetOfThings bl Q Y (2, lv, st, σ) = (mCaV k Y 5 lv st σ 97) := mStep_d dX0_isSetOfThings_2
theorem vX0_isSetOfThings_5 : mStep h k cX0_isSetOfThings bl Q Y (5, lv, st, σ) = (Y (6, lv, .int (-1) :: st, σ)) := by rw [mStep_d dX0_isSetOfThings_5, ← mx_cm1]; rfl
theorem vX0_isSetOfThings_6 : mStep h k cX0_isSetOfThings bl Q Y (6, lv, st, σ) = (mBin Y 7 lv st σ (fun x y => x ^^^ y)) := mStep_d dX0_isSetOfThings_6
theorem vX0_isSetOfThings_7 : mStep h k cX0_isSetOfThings bl Q Y (7, lv, st, σ) = (mBin Y 8 lv st σ (fun x y => x &&& y)) := mStep_d dX0_isSetOfThings_7
theorem vX0_isSetOfThings_8 : mStep h k cX0_isSetOfThings bl Q Y (8, lv, st, σ) = (mN1 Y 15 11 lv st σ) := (mStep_d dX0_isSetOfThings_8).trans (mIfN1_J jt_8_7 jp_8_7)
theorem vX0_isSetOfThings_11 : mStep h k cX0_isSetOfThings bl Q Y (11, lv, st, σ) = (Y (12, lv, .int (1) :: st, σ)) := by rw [mStep_d dX0_isSetOfThings_11, ← mx_c1]; rfl
theorem vX0_isSetOfThings_12 : mStep h k cX0_isSetOfThings bl Q Y (12, lv, st, σ) = (Y (16, lv, st, σ)) := (mStep_d dX0_isSetOfThings_12).trans (mJ_J jt_12_4 jp_12_4)
theorem vX0_isSetOfThings_15 : mStep h k cX0_isSetOfThings bl Q Y (15, lv, st, σ) = (Y (16, lv, .int (0) :: st, σ)) := by rw [mStep_d dX0_isSetOfThings_15, ← mx_c0]; rfl
theorem vX0_isSetOfThings_16 : mStep h k cX0_isSetOfThings bl Q Y (16, lv, st, σ) = (mRetI bl Q st σ) := mStep_d dX0_isSetOfThings_16
theorem vX0_isBasket_0 : mStep h k cX0_isBasket bl Q Y (0, lv, st, σ) = (mLdI Y 1 lv st σ 1) := mStep_d dX0_isBasket_0
theorem vX0_isBasket_1 : mStep h k cX0_isBasket bl Q Y (1, lv, st, σ) = (mJ1 Y 16 4 lv st σ (fun x => x < 0)) := (mStep_d dX0_isBasket_1).trans (mIf1_J jt_1_15 jp_1_15)
theorem vX0_isBasket_4 : mStep h k cX0_isBasket bl Q Y (4, lv, st, σ) = (mLdI Y 5 lv st σ 1) := mStep_d dX0_isBasket_4
theorem vX0_isBasket_5 : mStep h k cX0_isBasket bl Q Y (5, lv, st, σ) = (mLdA Y 6 lv st σ 0) := mStep_d dX0_isBasket_5
theorem vX0_isBasket_6 : mStep h k cX0_isBasket bl Q Y (6, lv, st, σ) = (mGet h k Y 9 lv st σ 83) := mStep_d dX0_isBasket_6
theorem vX0_isBasket_9 : mStep h k cX0_isBasket bl Q Y (9, lv, st, σ) = (mJ2 Y 16 12 lv st σ (fun x y => y ≤ x)) := (mStep_d dX0_isBasket_9).trans (mIf2_J jt_9_7 jp_9_7)
theorem vX0_isBasket_12 : mStep h k cX0_isBasket bl Q Y (12, lv, st, σ) = (Y (13, lv, .int (1) :: st, σ)) := by rw [mStep_d dX0_isBasket_12, ← mx_c1]; rfl
theorem vX0_isBasket_13 : mStep h k cX0_isBasket bl Q Y (13, lv, st, σ) = (Y (17, lv, st, σ)) := (mStep_d dX0_isBasket_13).trans (mJ_J jt_13_4 jp_13_4)
theorem vX0_isBasket_16 : mStep h k cX0_isBasket bl Q Y (16, lv, st, σ) = (Y (17, lv, .int (0) :: st, σ)) := by rw [mStep_d dX0_isBasket_16, ← mx_c0]; rfl
theorem vX0_isBasket_17 : mStep h k cX0_isBasket bl Q Y (17, lv, st, σ) = (mRetI bl Q st σ) := mStep_d dX0_isBasket_17
theorem vX0_canList_0 : mStep h k cX0_canList bl Q Y (0, lv, st, σ) = (mLdI Y 1 lv st σ 1) := mStep_d dX0_canList_0
theorem vX0_canList_1 : mStep h k cX0_canList bl Q Y (1, lv, st, σ) = (mCaS k Y 4 lv st σ 77) := mStep_d dX0_canList_1
theorem vX0_canList_4 : mStep h k cX0_canList bl Q Y (4, lv, st, σ) = (mJ1 Y 21 7 lv st σ (fun x => x = 0)) := (mStep_d dX0_canList_4).trans (mIf1_J jt_4_17 jp_4_17)
theorem vX0_canList_7 : mStep h k cX0_canList bl Q Y (7, lv, st, σ) = (mLdI Y 8 lv st σ 2) := mStep_d dX0_canList_7
theorem vX0_canList_8 : mStep h k cX0_canList bl Q Y (8, lv, st, σ) = (Y (9, lv, .int (1) :: st, σ)) := by rw [mStep_d dX0_canList_8, ← mx_c1]; rfl
theorem vX0_canList_9 : mStep h k cX0_canList bl Q Y (9, lv, st, σ) = (mJ2 Y 21 12 lv st σ (fun x y => x < y)) := (mStep_d dX0_canList_9).trans (mIf2_J jt_9_12 jp_9_12)
theorem vX0_canList_12 : mStep h k cX0_canList bl Q Y (12, lv, st, σ) = (mLdI Y 13 lv st σ 2) := mStep_d dX0_canList_12
theorem vX0_canList_13 : mStep h k cX0_canList bl Q Y (13, lv, st, σ) = (Y (14, lv, .int (5) :: st, σ)) := by rw [mStep_d dX0_canList_13, ← mx_c5]; rfl
theorem vX0_canList_14 : mStep h k cX0_canList bl Q Y (14, lv, st, σ) = (mJ2 Y 21 17 lv st σ (fun x y => y < x)) := (mStep_d dX0_canList_14).trans (mIf2_J jt_14_7 jp_14_7)
theorem vX0_canList_17 : mStep h k cX0_canList bl Q Y (17, lv, st, σ) = (Y (18, lv, .int (1) :: st, σ)) := by rw [mStep_d dX0_canList_17, ← mx_c1]; rfl
theorem vX0_canList_18 : mStep h k cX0_canList bl Q Y (18, lv, st, σ) = (Y (22, lv, st, σ)) := (mStep_d dX0_canList_18).trans (mJ_J jt_18_4 jp_18_4)
theorem vX0_canList_21 : mStep h k cX0_canList bl Q Y (21, lv, st, σ) = (Y (22, lv, .int (0) :: st, σ)) := by rw [mStep_d dX0_canList_21, ← mx_c0]; rfl
theorem vX0_canList_22 : mStep h k cX0_canList bl Q Y (22, lv, st, σ) = (mRetI bl Q st σ) := mStep_d dX0_canList_22
theorem vX0_isPerson_0 : mStep h k cX0_isPerson bl Q Y (0, lv, st, σ) = (mLdI Y 1 lv st σ 0) := mStep_d dX0_isPerson_0
theorem vX0_isPerson_1 : mStep h k cX0_isPerson bl Q Y (1, lv, st, σ) = (mJ1 Y 14 4 lv st σ (fun x => x < 0)) := (mStep_d dX0_isPerson_1).trans (mIf1_J jt_1_13 jp_1_13)
theorem vX0_isPerson_4 : mStep h k cX0_isPerson bl Q Y (4, lv, st, σ) = (mLdI Y 5 lv st σ 0) := mStep_d dX0_isPerson_4
theorem vX0_isPerson_5 : mStep h k cX0_isPerson bl Q Y (5, lv, st, σ) = (Y (7, lv, .int (8) :: st, σ)) := by rw [mStep_d dX0_isPerson_5, ← mx_b8]; rfl
theorem vX0_isPerson_7 : mStep h k cX0_isPerson bl Q Y (7, lv, st, σ) = (mJ2 Y 14 10 lv st σ (fun x y => y ≤ x)) := (mStep_d dX0_isPerson_7).trans (mIf2_J jt_7_7 jp_7_7)
theorem vX0_isPerson_10 : mStep h k cX0_isPerson bl Q Y (10, lv, st, σ) = (Y (11, lv, .int (1) :: st, σ)) := by rw [mStep_d dX0_isPerson_10, ← mx_c1]; rfl
theorem vX0_isPerson_11 : mStep h k cX0_isPerson bl Q Y (11, lv, st, σ) = (Y (15, lv, st, σ)) := (mStep_d dX0_isPerson_11).trans (mJ_J jt_11_4 jp_11_4)
theorem vX0_isPerson_14 : mStep h k cX0_isPerson bl Q Y (14, lv, st, σ) = (Y (15, lv, .int (0) :: st, σ)) := by rw [mStep_d dX0_isPerson_14, ← mx_c0]; rfl
theorem vX0_isPerson_15 : mStep h k cX0_isPerson bl Q Y (15, lv, st, σ) = (mRetI bl Q st σ) := mStep_d dX0_isPerson_15
theorem vX0_has_0 : mStep h k cX0_has bl Q Y (0, lv, st, σ) = (mLdI Y 1 lv st σ 0) := mStep_d dX0_has_0
theorem vX0_has_1 : mStep h k cX0_has bl Q Y (1, lv, st, σ) = (mLdI Y 2 lv st σ 1) := mStep_d dX0_has_1
theorem vX0_has_2 : mStep h k cX0_has bl Q Y (2, lv, st, σ) = (mBin Y 3 lv st σ (fun x y => x >>> (y &&& 31))) := mStep_d dX0_has_2
theorem vX0_has_3 : mStep h k cX0_has bl Q Y (3, lv, st, σ) = (Y (4, lv, .int (1) :: st, σ)) := by rw [mStep_d dX0_has_3, ← mx_c1]; rfl
theorem vX0_has_4 : mStep h k cX0_has bl Q Y (4, lv, st, σ) = (mBin Y 5 lv st σ (fun x y => x &&& y)) := mStep_d dX0_has_4
theorem vX0_has_5 : mStep h k cX0_has bl Q Y (5, lv, st, σ) = (Y (6, lv, .int (1) :: st, σ)) := by rw [mStep_d dX0_has_5, ← mx_c1]; rfl
theorem vX0_has_6 : mStep h k cX0_has bl Q Y (6, lv, st, σ) = (mN2 Y 13 9 lv st σ) := (mStep_d dX0_has_6).trans (mIfN2_J jt_6_7 jp_6_7)
theorem vX0_has_9 : mStep h k cX0_has bl Q Y (9, lv, st, σ) = (Y (10, lv, .int (1) :: st, σ)) := by rw [mStep_d dX0_has_9, ← mx_c1]; rfl
theorem vX0_has_10 : mStep h k cX0_has bl Q Y (10, lv, st, σ) = (Y (14, lv, st, σ)) := (mStep_d dX0_has_10).trans (mJ_J jt_10_4 jp_10_4)
theorem vX0_has_13 : mStep h k cX0_has bl Q Y (13, lv, st, σ) = (Y (14, lv, .int (0) :: st, σ)) := by rw [mStep_d dX0_has_13, ← mx_c0]; rfl
theorem vX0_has_14 : mStep h k cX0_has bl Q Y (14, lv, st, σ) = (mRetI bl Q st σ) := mStep_d dX0_has_14
theorem vX0_allThings_0 : mStep h k cX0_allThings bl Q Y (0, lv, st, σ) = (Y (1, lv, .int (1) :: st, σ)) := by rw [mStep_d dX0_allThings_0, ← mx_c1]; rfl
theorem vX0_allThings_1 : mStep h k cX0_allThings bl Q Y (1, lv, st, σ) = (mLdA Y 2 lv st σ 0) := mStep_d dX0_allThings_1
theorem vX0_allThings_2 : mStep h k cX0_allThings bl Q Y (2, lv, st, σ) = (mGet h k Y 5 lv st σ 53) := mStep_d dX0_allThings_2
theorem vX0_allThings_5 : mStep h k cX0_allThings bl Q Y (5, lv, st, σ) = (mBin Y 6 lv st σ (fun x y => x <<< (y &&& 31))) := mStep_d dX0_allThings_5
theorem vX0_allThings_6 : mStep h k cX0_allThings bl Q Y (6, lv, st, σ) = (Y (7, lv, .int (1) :: st, σ)) := by rw [mStep_d dX0_allThings_6, ← mx_c1]; rfl
theorem vX0_allThings_7 : mStep h k cX0_allThings bl Q Y (7, lv, st, σ) = (mBin Y 8 lv st σ (fun x y => x - y)) := mStep_d dX0_allThings_7
theorem vX0_allThings_8 : mStep h k cX0_allThings bl Q Y (8, lv, st, σ) = (mRetI bl Q st σ) := mStep_d dX0_allThings_8
theorem vX0_newThings_0 : mStep h k cX0_newThings bl Q Y (0, lv, st, σ) = (Y (1, lv, .int (0) :: st, σ)) := by rw [mStep_d dX0_newThings_0, ← mx_c0]; rfl
theorem vX0_newThings_1 : mStep h k cX0_newThings bl Q Y (1, lv, st, σ) = (mStI Y 2 lv st σ 1) := mStep_d dX0_newThings_1
theorem vX0_newThings_2 : mStep h k cX0_newThings bl Q Y (2, lv, st, σ) = (Y (3, lv, .int (0) :: st, σ)) := by rw [mStep_d dX0_newThings_2, ← mx_c0]; rfl
theorem vX0_newThings_3 : mStep h k cX0_newThings bl Q Y (3, lv, st, σ) = (mStI Y 4 lv st σ 2) := mStep_d dX0_newThings_3
theorem vX0_newThings_4 : mStep h k cX0_newThings bl Q Y (4, lv, st, σ) = (mLdI Y 5 lv st σ 2) := mStep_d dX0_newThings_4
theorem vX0_newThings_5 : mStep h k cX0_newThings bl Q Y (5, lv, st, σ) = (mLdA Y 6 lv st σ 0) := mStep_d dX0_newThings_5
theorem vX0_newThings_6 : mStep h k cX0_newThings bl Q Y (6, lv, st, σ) = (mGet h k Y 9 lv st σ 53) := mStep_d dX0_newThings_6
theorem vX0_newThings_9 : mStep h k cX0_newThings bl Q Y (9, lv, st, σ) = (mJ2 Y 40 12 lv st σ (fun x y => y ≤ x)) := (mStep_d dX0_newThings_9).trans (mIf2_J jt_9_31 jp_9_31)
theorem vX0_newThings_12 : mStep h k cX0_newThings bl Q Y (12, lv, st, σ) = (mLdA Y 13 lv st σ 0) := mStep_d dX0_newThings_12
theorem vX0_newThings_13 : mStep h k cX0_newThings bl Q Y (13, lv, st, σ) = (mGet h k Y 16 lv st σ 57) := mStep_d dX0_newThings_13
theorem vX0_newThings_16 : mStep h k cX0_newThings bl Q Y (16, lv, st, σ) = (mLdA Y 17 lv st σ 0) := mStep_d dX0_newThings_16
theorem vX0_newThings_17 : mStep h k cX0_newThings bl Q Y (17, lv, st, σ) = (mGet h k Y 20 lv st σ 21) := mStep_d dX0_newThings_17
theorem vX0_newThings_20 : mStep h k cX0_newThings bl Q Y (20, lv, st, σ) = (mLdI Y 21 lv st σ 2) := mStep_d dX0_newThings_20
theorem vX0_newThings_21 : mStep h k cX0_newThings bl Q Y (21, lv, st, σ) = (mLdE h Y 22 lv st σ) := mStep_d dX0_newThings_21
theorem vX0_newThings_22 : mStep h k cX0_newThings bl Q Y (22, lv, st, σ) = (mBin Y 23 lv st σ (fun x y => x - y)) := mStep_d dX0_newThings_22
theorem vX0_newThings_23 : mStep h k cX0_newThings bl Q Y (23, lv, st, σ) = (Y (25, lv, .int (10) :: st, σ)) := by rw [mStep_d dX0_newThings_23, ← mx_b10]; rfl
theorem vX0_newThings_25 : mStep h k cX0_newThings bl Q Y (25, lv, st, σ) = (mJ2 Y 34 28 lv st σ (fun x y => y ≤ x)) := (mStep_d dX0_newThings_25).trans (mIf2_J jt_25_9 jp_25_9)
theorem vX0_newThings_28 : mStep h k cX0_newThings bl Q Y (28, lv, st, σ) = (mLdI Y 29 lv st σ 1) := mStep_d dX0_newThings_28
theorem vX0_newThings_29 : mStep h k cX0_newThings bl Q Y (29, lv, st, σ) = (Y (30, lv, .int (1) :: st, σ)) := by rw [mStep_d dX0_newThings_29, ← mx_c1]; rfl
theorem vX0_newThings_30 : mStep h k cX0_newThings bl Q Y (30, lv, st, σ) = (mLdI Y 31 lv st σ 2) := mStep_d dX0_newThings_30
theorem vX0_newThings_31 : mStep h k cX0_newThings bl Q Y (31, lv, st, σ) = (mBin Y 32 lv st σ (fun x y => x <<< (y &&& 31))) := mStep_d dX0_newThings_31
theorem vX0_newThings_32 : mStep h k cX0_newThings bl Q Y (32, lv, st, σ) = (mBin Y 33 lv st σ (fun x y => x ||| y)) := mStep_d dX0_newThings_32
theorem vX0_newThings_33 : mStep h k cX0_newThings bl Q Y (33, lv, st, σ) = (mStI Y 34 lv st σ 1) := mStep_d dX0_newThings_33
theorem vX0_newThings_34 : mStep h k cX0_newThings bl Q Y (34, lv, st, σ) = (mInc Y 37 lv st σ 2 (1)) := by rw [mStep_d dX0_newThings_34, ← mx_c1]; rfl
theorem vX0_newThings_37 : mStep h k cX0_newThings bl Q Y (37, lv, st, σ) = (Y (4, lv, st, σ)) := (mStep_d dX0_newThings_37).trans (mJ_J jt_37_m33 jp_37_m33)
theorem vX0_newThings_40 : mStep h k cX0_newThings bl Q Y (40, lv, st, σ) = (mLdI Y 41 lv st σ 1) := mStep_d dX0_newThings_40
theorem vX0_newThings_41 : mStep h k cX0_newThings bl Q Y (41, lv, st, σ) = (mRetI bl Q st σ) := mStep_d dX0_newThings_41
theorem vX0_removeBasket_0 : mStep h k cX0_removeBasket bl Q Y (0, lv, st, σ) = (mLdA Y 1 lv st σ 0) := mStep_d dX0_removeBasket_0
theorem vX0_removeBasket_1 : mStep h k cX0_removeBasket bl Q Y (1, lv, st, σ) = (mDup Y 2 lv st σ) := mStep_d dX0_removeBasket_1
theorem vX0_removeBasket_2 : mStep h k cX0_removeBasket bl Q Y (2, lv, st, σ) = (mGet h k Y 5 lv st σ 83) := mStep_d dX0_removeBasket_2
theorem vX0_removeBasket_5 : mStep h k cX0_removeBasket bl Q Y (5, lv, st, σ) = (Y (6, lv, .int (1) :: st, σ)) := by rw [mStep_d dX0_removeBasket_5, ← mx_c1]; rfl
theorem vX0_removeBasket_6 : mStep h k cX0_removeBasket bl Q Y (6, lv, st, σ) = (mBin Y 7 lv st σ (fun x y => x - y)) := mStep_d dX0_removeBasket_6
theorem vX0_removeBasket_7 : mStep h k cX0_removeBasket bl Q Y (7, lv, st, σ) = (mPut h k Y 10 lv st σ 83) := mStep_d dX0_removeBasket_7
theorem vX0_removeBasket_10 : mStep h k cX0_removeBasket bl Q Y (10, lv, st, σ) = (mLdI Y 11 lv st σ 1) := mStep_d dX0_removeBasket_10
theorem vX0_removeBasket_11 : mStep h k cX0_removeBasket bl Q Y (11, lv, st, σ) = (mStI Y 12 lv st σ 2) := mStep_d dX0_removeBasket_11
theorem vX0_removeBasket_12 : mStep h k cX0_removeBasket bl Q Y (12, lv, st, σ) = (mLdI Y 13 lv st σ 2) := mStep_d dX0_removeBasket_12
theorem vX0_removeBasket_13 : mStep h k cX0_removeBasket bl Q Y (13, lv, st, σ) = (mLdA Y 14 lv st σ 0) := mStep_d dX0_removeBasket_13
theorem vX0_removeBasket_14 : mStep h k cX0_removeBasket bl Q Y (14, lv, st, σ) = (mGet h k Y 17 lv st σ 83) := mStep_d dX0_removeBasket_14
theorem vX0_removeBasket_17 : mStep h k cX0_removeBasket bl Q Y (17, lv, st, σ) = (mJ2 Y 68 20 lv st σ (fun x y => y ≤ x)) := (mStep_d dX0_removeBasket_17).trans (mIf2_J jt_17_51 jp_17_51)
theorem vX0_removeBasket_20 : mStep h k cX0_removeBasket bl Q Y (20, lv, st, σ) = (mLdA Y 21 lv st σ 0) := mStep_d dX0_removeBasket_20
theorem vX0_removeBasket_21 : mStep h k cX0_removeBasket bl Q Y (21, lv, st, σ) = (mGet h k Y 24 lv st σ 30) := mStep_d dX0_removeBasket_21
theorem vX0_removeBasket_24 : mStep h k cX0_removeBasket bl Q Y (24, lv, st, σ) = (mLdI Y 25 lv st σ 2) := mStep_d dX0_removeBasket_24
theorem vX0_removeBasket_25 : mStep h k cX0_removeBasket bl Q Y (25, lv, st, σ) = (mLdA Y 26 lv st σ 0) := mStep_d dX0_removeBasket_25
theorem vX0_removeBasket_26 : mStep h k cX0_removeBasket bl Q Y (26, lv, st, σ) = (mGet h k Y 29 lv st σ 30) := mStep_d dX0_removeBasket_26
theorem vX0_removeBasket_29 : mStep h k cX0_removeBasket bl Q Y (29, lv, st, σ) = (mLdI Y 30 lv st σ 2) := mStep_d dX0_removeBasket_29
theorem vX0_removeBasket_30 : mStep h k cX0_removeBasket bl Q Y (30, lv, st, σ) = (Y (31, lv, .int (1) :: st, σ)) := by rw [mStep_d dX0_removeBasket_30, ← mx_c1]; rfl
theorem vX0_removeBasket_31 : mStep h k cX0_removeBasket bl Q Y (31, lv, st, σ) = (mBin Y 32 lv st σ (fun x y => x + y)) := mStep_d dX0_removeBasket_31
theorem vX0_removeBasket_32 : mStep h k cX0_removeBasket bl Q Y (32, lv, st, σ) = (mLdE h Y 33 lv st σ) := mStep_d dX0_removeBasket_32
theorem vX0_removeBasket_33 : mStep h k cX0_removeBasket bl Q Y (33, lv, st, σ) = (mStE h Y 34 lv st σ) := mStep_d dX0_removeBasket_33
theorem vX0_removeBasket_34 : mStep h k cX0_removeBasket bl Q Y (34, lv, st, σ) = (mLdA Y 35 lv st σ 0) := mStep_d dX0_removeBasket_34
theorem vX0_removeBasket_35 : mStep h k cX0_removeBasket bl Q Y (35, lv, st, σ) = (mGet h k Y 38 lv st σ 33) := mStep_d dX0_removeBasket_35
theorem vX0_removeBasket_38 : mStep h k cX0_removeBasket bl Q Y (38, lv, st, σ) = (mLdI Y 39 lv st σ 2) := mStep_d dX0_removeBasket_38
theorem vX0_removeBasket_39 : mStep h k cX0_removeBasket bl Q Y (39, lv, st, σ) = (mLdA Y 40 lv st σ 0) := mStep_d dX0_removeBasket_39
theorem vX0_removeBasket_40 : mStep h k cX0_removeBasket bl Q Y (40, lv, st, σ) = (mGet h k Y 43 lv st σ 33) := mStep_d dX0_removeBasket_40
theorem vX0_removeBasket_43 : mStep h k cX0_removeBasket bl Q Y (43, lv, st, σ) = (mLdI Y 44 lv st σ 2) := mStep_d dX0_removeBasket_43
theorem vX0_removeBasket_44 : mStep h k cX0_removeBasket bl Q Y (44, lv, st, σ) = (Y (45, lv, .int (1) :: st, σ)) := by rw [mStep_d dX0_removeBasket_44, ← mx_c1]; rfl
theorem vX0_removeBasket_45 : mStep h k cX0_removeBasket bl Q Y (45, lv, st, σ) = (mBin Y 46 lv st σ (fun x y => x + y)) := mStep_d dX0_removeBasket_45
theorem vX0_removeBasket_46 : mStep h k cX0_removeBasket bl Q Y (46, lv, st, σ) = (mLdE h Y 47 lv st σ) := mStep_d dX0_removeBasket_46
theorem vX0_removeBasket_47 : mStep h k cX0_removeBasket bl Q Y (47, lv, st, σ) = (mStE h Y 48 lv st σ) := mStep_d dX0_removeBasket_47
theorem vX0_removeBasket_48 : mStep h k cX0_removeBasket bl Q Y (48, lv, st, σ) = (mLdA Y 49 lv st σ 0) := mStep_d dX0_removeBasket_48
theorem vX0_removeBasket_49 : mStep h k cX0_removeBasket bl Q Y (49, lv, st, σ) = (mGet h k Y 52 lv st σ 36) := mStep_d dX0_removeBasket_49
theorem vX0_removeBasket_52 : mStep h k cX0_removeBasket bl Q Y (52, lv, st, σ) = (mLdI Y 53 lv st σ 2) := mStep_d dX0_removeBasket_52
theorem vX0_removeBasket_53 : mStep h k cX0_removeBasket bl Q Y (53, lv, st, σ) = (mLdA Y 54 lv st σ 0) := mStep_d dX0_removeBasket_53
theorem vX0_removeBasket_54 : mStep h k cX0_removeBasket bl Q Y (54, lv, st, σ) = (mGet h k Y 57 lv st σ 36) := mStep_d dX0_removeBasket_54
theorem vX0_removeBasket_57 : mStep h k cX0_removeBasket bl Q Y (57, lv, st, σ) = (mLdI Y 58 lv st σ 2) := mStep_d dX0_removeBasket_57
theorem vX0_removeBasket_58 : mStep h k cX0_removeBasket bl Q Y (58, lv, st, σ) = (Y (59, lv, .int (1) :: st, σ)) := by rw [mStep_d dX0_removeBasket_58, ← mx_c1]; rfl
theorem vX0_removeBasket_59 : mStep h k cX0_removeBasket bl Q Y (59, lv, st, σ) = (mBin Y 60 lv st σ (fun x y => x + y)) := mStep_d dX0_removeBasket_59
theorem vX0_removeBasket_60 : mStep h k cX0_removeBasket bl Q Y (60, lv, st, σ) = (mLdE h Y 61 lv st σ) := mStep_d dX0_removeBasket_60
theorem vX0_removeBasket_61 : mStep h k cX0_removeBasket bl Q Y (61, lv, st, σ) = (mStE h Y 62 lv st σ) := mStep_d dX0_removeBasket_61
theorem vX0_removeBasket_62 : mStep h k cX0_removeBasket bl Q Y (62, lv, st, σ) = (mInc Y 65 lv st σ 2 (1)) := by rw [mStep_d dX0_removeBasket_62, ← mx_c1]; rfl
theorem vX0_removeBasket_65 : mStep h k cX0_removeBasket bl Q Y (65, lv, st, σ) = (Y (12, lv, st, σ)) := (mStep_d dX0_removeBasket_65).trans (mJ_J jt_65_m53 jp_65_m53)
theorem vX0_removeBasket_68 : mStep h k cX0_removeBasket bl Q Y (68, lv, st, σ) = (mRetV bl Q st σ) := mStep_d dX0_removeBasket_68
theorem vX0_removeOldBaskets_0 : mStep h k cX0_removeOldBaskets bl Q Y (0, lv, st, σ) = (mLdA Y 1 lv st σ 0) := mStep_d dX0_removeOldBaskets_0
theorem vX0_removeOldBaskets_1 : mStep h k cX0_removeOldBaskets bl Q Y (1, lv, st, σ) = (mGet h k Y 4 lv st σ 83) := mStep_d dX0_removeOldBaskets_1
theorem vX0_removeOldBaskets_4 : mStep h k cX0_removeOldBaskets bl Q Y (4, lv, st, σ) = (Y (5, lv, .int (1) :: st, σ)) := by rw [mStep_d dX0_removeOldBaskets_4, ← mx_c1]; rfl
theorem vX0_removeOldBaskets_5 : mStep h k cX0_removeOldBaskets bl Q Y (5, lv, st, σ) = (mBin Y 6 lv st σ (fun x y => x - y)) := mStep_d dX0_removeOldBaskets_5
theorem vX0_removeOldBaskets_6 : mStep h k cX0_removeOldBaskets bl Q Y (6, lv, st, σ) = (mStI Y 7 lv st σ 1) := mStep_d dX0_removeOldBaskets_6
theorem vX0_removeOldBaskets_7 : mStep h k cX0_removeOldBaskets bl Q Y (7, lv, st, σ) = (mLdI Y 8 lv st σ 1) := mStep_d dX0_removeOldBaskets_7
theorem vX0_removeOldBaskets_8 : mStep h k cX0_removeOldBaskets bl Q Y (8, lv, st, σ) = (mJ1 Y 38 11 lv st σ (fun x => x < 0)) := (mStep_d dX0_removeOldBaskets_8).trans (mIf1_J jt_8_30 jp_8_30)
theorem vX0_removeOldBaskets_11 : mStep h k cX0_removeOldBaskets bl Q Y (11, lv, st, σ) = (mLdA Y 12 lv st σ 0) := mStep_d dX0_removeOldBaskets_11
theorem vX0_removeOldBaskets_12 : mStep h k cX0_removeOldBaskets bl Q Y (12, lv, st, σ) = (mGet h k Y 15 lv st σ 57) := mStep_d dX0_removeOldBaskets_12
theorem vX0_removeOldBaskets_15 : mStep h k cX0_removeOldBaskets bl Q Y (15, lv, st, σ) = (mLdA Y 16 lv st σ 0) := mStep_d dX0_removeOldBaskets_15
theorem vX0_removeOldBaskets_16 : mStep h k cX0_removeOldBaskets bl Q Y (16, lv, st, σ) = (mGet h k Y 19 lv st σ 33) := mStep_d dX0_removeOldBaskets_16
theorem vX0_removeOldBaskets_19 : mStep h k cX0_removeOldBaskets bl Q Y (19, lv, st, σ) = (mLdI Y 20 lv st σ 1) := mStep_d dX0_removeOldBaskets_19
theorem vX0_removeOldBaskets_20 : mStep h k cX0_removeOldBaskets bl Q Y (20, lv, st, σ) = (mLdE h Y 21 lv st σ) := mStep_d dX0_removeOldBaskets_20
theorem vX0_removeOldBaskets_21 : mStep h k cX0_removeOldBaskets bl Q Y (21, lv, st, σ) = (mBin Y 22 lv st σ (fun x y => x - y)) := mStep_d dX0_removeOldBaskets_21
theorem vX0_removeOldBaskets_22 : mStep h k cX0_removeOldBaskets bl Q Y (22, lv, st, σ) = (Y (24, lv, .int (28) :: st, σ)) := by rw [mStep_d dX0_removeOldBaskets_22, ← mx_b28]; rfl
theorem vX0_removeOldBaskets_24 : mStep h k cX0_removeOldBaskets bl Q Y (24, lv, st, σ) = (mJ2 Y 32 27 lv st σ (fun x y => x < y)) := (mStep_d dX0_removeOldBaskets_24).trans (mIf2_J jt_24_8 jp_24_8)
theorem vX0_removeOldBaskets_27 : mStep h k cX0_removeOldBaskets bl Q Y (27, lv, st, σ) = (mLdA Y 28 lv st σ 0) := mStep_d dX0_removeOldBaskets_27
theorem vX0_removeOldBaskets_28 : mStep h k cX0_removeOldBaskets bl Q Y (28, lv, st, σ) = (mLdI Y 29 lv st σ 1) := mStep_d dX0_removeOldBaskets_28
theorem vX0_removeOldBaskets_29 : mStep h k cX0_removeOldBaskets bl Q Y (29, lv, st, σ) = (mCaV k Y 32 lv st σ 93) := mStep_d dX0_removeOldBaskets_29
theorem vX0_removeOldBaskets_32 : mStep h k cX0_removeOldBaskets bl Q Y (32, lv, st, σ) = (mInc Y 35 lv st σ 1 (-1)) := by rw [mStep_d dX0_removeOldBaskets_32, ← mx_cm1]; rfl
theorem vX0_removeOldBaskets_35 : mStep h k cX0_removeOldBaskets bl Q Y (35, lv, st, σ) = (Y (7, lv, st, σ)) := (mStep_d dX0_removeOldBaskets_35).trans (mJ_J jt_35_m28 jp_35_m28)
theorem vX0_removeOldBaskets_38 : mStep h k cX0_removeOldBaskets bl Q Y (38, lv, st, σ) = (mRetV bl Q st σ) := mStep_d dX0_removeOldBaskets_38
theorem vX0_basketsWith_0 : mStep h k cX0_basketsWith bl Q Y (0, lv, st, σ) = (Y (1, lv, .int (1) :: st, σ)) := by rw [mStep_d dX0_basketsWith_0, ← mx_c1]; rfl
theorem vX0_basketsWith_1 : mStep h k cX0_basketsWith bl Q Y (1, lv, st, σ) = (mLdI Y 2 lv st σ 1) := mStep_d dX0_basketsWith_1
theorem vX0_basketsWith_2 : mStep h k cX0_basketsWith bl Q Y (2, lv, st, σ) = (mBin Y 3 lv st σ (fun x y => x <<< (y &&& 31))) := mStep_d dX0_basketsWith_2
theorem vX0_basketsWith_3 : mStep h k cX0_basketsWith bl Q Y (3, lv, st, σ) = (Y (4, lv, .int (1) :: st, σ)) := by rw [mStep_d dX0_basketsWith_3, ← mx_c1]; rfl
theorem vX0_basketsWith_4 : mStep h k cX0_basketsWith bl Q Y (4, lv, st, σ) = (mLdI Y 5 lv st σ 2) := mStep_d dX0_basketsWith_4
theorem vX0_basketsWith_5 : mStep h k cX0_basketsWith bl Q Y (5, lv, st, σ) = (mBin Y 6 lv st σ (fun x y => x <<< (y &&& 31))) := mStep_d dX0_basketsWith_5
theorem vX0_basketsWith_6 : mStep h k cX0_basketsWith bl Q Y (6, lv, st, σ) = (mBin Y 7 lv st σ (fun x y => x ||| y)) := mStep_d dX0_basketsWith_6
theorem vX0_basketsWith_7 : mStep h k cX0_basketsWith bl Q Y (7, lv, st, σ) = (mStI Y 8 lv st σ 3) := mStep_d dX0_basketsWith_7
theorem vX0_basketsWith_8 : mStep h k cX0_basketsWith bl Q Y (8, lv, st, σ) = (Y (9, lv, .int (0) :: st, σ)) := by rw [mStep_d dX0_basketsWith_8, ← mx_c0]; rfl
theorem vX0_basketsWith_9 : mStep h k cX0_basketsWith bl Q Y (9, lv, st, σ) = (mStI Y 11 lv st σ 4) := mStep_d dX0_basketsWith_9
theorem vX0_basketsWith_11 : mStep h k cX0_basketsWith bl Q Y (11, lv, st, σ) = (Y (12, lv, .int (0) :: st, σ)) := by rw [mStep_d dX0_basketsWith_11, ← mx_c0]; rfl
theorem vX0_basketsWith_12 : mStep h k cX0_basketsWith bl Q Y (12, lv, st, σ) = (mStI Y 14 lv st σ 5) := mStep_d dX0_basketsWith_12
theorem vX0_basketsWith_14 : mStep h k cX0_basketsWith bl Q Y (14, lv, st, σ) = (mLdI Y 16 lv st σ 5) := mStep_d dX0_basketsWith_14
theorem vX0_basketsWith_16 : mStep h k cX0_basketsWith bl Q Y (16, lv, st, σ) = (mLdA Y 17 lv st σ 0) := mStep_d dX0_basketsWith_16
theorem vX0_basketsWith_17 : mStep h k cX0_basketsWith bl Q Y (17, lv, st, σ) = (mGet h k Y 20 lv st σ 83) := mStep_d dX0_basketsWith_17
theorem vX0_basketsWith_20 : mStep h k cX0_basketsWith bl Q Y (20, lv, st, σ) = (mJ2 Y 45 23 lv st σ (fun x y => y ≤ x)) := (mStep_d dX0_basketsWith_20).trans (mIf2_J jt_20_25 jp_20_25)
theorem vX0_basketsWith_23 : mStep h k cX0_basketsWith bl Q Y (23, lv, st, σ) = (mLdA Y 24 lv st σ 0) := mStep_d dX0_basketsWith_23
theorem vX0_basketsWith_24 : mStep h k cX0_basketsWith bl Q Y (24, lv, st, σ) = (mGet h k Y 27 lv st σ 36) := mStep_d dX0_basketsWith_24
theorem vX0_basketsWith_27 : mStep h k cX0_basketsWith bl Q Y (27, lv, st, σ) = (mLdI Y 29 lv st σ 5) := mStep_d dX0_basketsWith_27
theorem vX0_basketsWith_29 : mStep h k cX0_basketsWith bl Q Y (29, lv, st, σ) = (mLdE h Y 30 lv st σ) := mStep_d dX0_basketsWith_29
theorem vX0_basketsWith_30 : mStep h k cX0_basketsWith bl Q Y (30, lv, st, σ) = (mLdI Y 31 lv st σ 3) := mStep_d dX0_basketsWith_30
theorem vX0_basketsWith_31 : mStep h k cX0_basketsWith bl Q Y (31, lv, st, σ) = (mBin Y 32 lv st σ (fun x y => x &&& y)) := mStep_d dX0_basketsWith_31
theorem vX0_basketsWith_32 : mStep h k cX0_basketsWith bl Q Y (32, lv, st, σ) = (mLdI Y 33 lv st σ 3) := mStep_d dX0_basketsWith_32
theorem vX0_basketsWith_33 : mStep h k cX0_basketsWith bl Q Y (33, lv, st, σ) = (mN2 Y 39 36 lv st σ) := (mStep_d dX0_basketsWith_33).trans (mIfN2_J jt_33_6 jp_33_6)
theorem vX0_basketsWith_36 : mStep h k cX0_basketsWith bl Q Y (36, lv, st, σ) = (mInc Y 39 lv st σ 4 (1)) := by rw [mStep_d dX0_basketsWith_36, ← mx_c1]; rfl
theorem vX0_basketsWith_39 : mStep h k cX0_basketsWith bl Q Y (39, lv, st, σ) = (mInc Y 42 lv st σ 5 (1)) := by rw [mStep_d dX0_basketsWith_39, ← mx_c1]; rfl
theorem vX0_basketsWith_42 : mStep h k cX0_basketsWith bl Q Y (42, lv, st, σ) = (Y (14, lv, st, σ)) := (mStep_d dX0_basketsWith_42).trans (mJ_J jt_42_m28 jp_42_m28)
theorem vX0_basketsWith_45 : mStep h k cX0_basketsWith bl Q Y (45, lv, st, σ) = (mLdI Y 47 lv st σ 4) := mStep_d dX0_basketsWith_45
theorem vX0_basketsWith_47 : mStep h k cX0_basketsWith bl Q Y (47, lv, st, σ) = (mRetI bl Q st σ) := mStep_d dX0_basketsWith_47
theorem vX0_peopleWith_0 : mStep h k cX0_peopleWith bl Q Y (0, lv, st, σ) = (Y (1, lv, .int (1) :: st, σ)) := by rw [mStep_d dX0_peopleWith_0, ← mx_c1]; rfl
theorem vX0_peopleWith_1 : mStep h k cX0_peopleWith bl Q Y (1, lv, st, σ) = (mLdI Y 2 lv st σ 1) := mStep_d dX0_peopleWith_1
theorem vX0_peopleWith_2 : mStep h k cX0_peopleWith bl Q Y (2, lv, st, σ) = (mBin Y 3 lv st σ (fun x y => x <<< (y &&& 31))) := mStep_d dX0_peopleWith_2
theorem vX0_peopleWith_3 : mStep h k cX0_peopleWith bl Q Y (3, lv, st, σ) = (Y (4, lv, .int (1) :: st, σ)) := by rw [mStep_d dX0_peopleWith_3, ← mx_c1]; rfl
theorem vX0_peopleWith_4 : mStep h k cX0_peopleWith bl Q Y (4, lv, st, σ) = (mLdI Y 5 lv st σ 2) := mStep_d dX0_peopleWith_4
theorem vX0_peopleWith_5 : mStep h k cX0_peopleWith bl Q Y (5, lv, st, σ) = (mBin Y 6 lv st σ (fun x y => x <<< (y &&& 31))) := mStep_d dX0_peopleWith_5
theorem vX0_peopleWith_6 : mStep h k cX0_peopleWith bl Q Y (6, lv, st, σ) = (mBin Y 7 lv st σ (fun x y => x ||| y)) := mStep_d dX0_peopleWith_6
theorem vX0_peopleWith_7 : mStep h k cX0_peopleWith bl Q Y (7, lv, st, σ) = (mStI Y 8 lv st σ 3) := mStep_d dX0_peopleWith_7
theorem vX0_peopleWith_8 : mStep h k cX0_peopleWith bl Q Y (8, lv, st, σ) = (Y (9, lv, .int (0) :: st, σ)) := by rw [mStep_d dX0_peopleWith_8, ← mx_c0]; rfl
theorem vX0_peopleWith_9 : mStep h k cX0_peopleWith bl Q Y (9, lv, st, σ) = (mStI Y 11 lv st σ 4) := mStep_d dX0_peopleWith_9
theorem vX0_peopleWith_11 : mStep h k cX0_peopleWith bl Q Y (11, lv, st, σ) = (Y (12, lv, .int (0) :: st, σ)) := by rw [mStep_d dX0_peopleWith_11, ← mx_c0]; rfl
theorem vX0_peopleWith_12 : mStep h k cX0_peopleWith bl Q Y (12, lv, st, σ) = (mStI Y 14 lv st σ 5) := mStep_d dX0_peopleWith_12
theorem vX0_peopleWith_14 : mStep h k cX0_peopleWith bl Q Y (14, lv, st, σ) = (mLdI Y 16 lv st σ 5) := mStep_d dX0_peopleWith_14
theorem vX0_peopleWith_16 : mStep h k cX0_peopleWith bl Q Y (16, lv, st, σ) = (mLdA Y 17 lv st σ 0) := mStep_d dX0_peopleWith_16
theorem vX0_peopleWith_17 : mStep h k cX0_peopleWith bl Q Y (17, lv, st, σ) = (mGet h k Y 20 lv st σ 83) := mStep_d dX0_peopleWith_17
theorem vX0_peopleWith_20 : mStep h k cX0_peopleWith bl Q Y (20, lv, st, σ) = (mJ2 Y 56 23 lv st σ (fun x y => y ≤ x)) := (mStep_d dX0_peopleWith_20).trans (mIf2_J jt_20_36 jp_20_36)
theorem vX0_peopleWith_23 : mStep h k cX0_peopleWith bl Q Y (23, lv, st, σ) = (mLdA Y 24 lv st σ 0) := mStep_d dX0_peopleWith_23
theorem vX0_peopleWith_24 : mStep h k cX0_peopleWith bl Q Y (24, lv, st, σ) = (mGet h k Y 27 lv st σ 36) := mStep_d dX0_peopleWith_24
theorem vX0_peopleWith_27 : mStep h k cX0_peopleWith bl Q Y (27, lv, st, σ) = (mLdI Y 29 lv st σ 5) := mStep_d dX0_peopleWith_27
theorem vX0_peopleWith_29 : mStep h k cX0_peopleWith bl Q Y (29, lv, st, σ) = (mLdE h Y 30 lv st σ) := mStep_d dX0_peopleWith_29
theorem vX0_peopleWith_30 : mStep h k cX0_peopleWith bl Q Y (30, lv, st, σ) = (mLdI Y 31 lv st σ 3) := mStep_d dX0_peopleWith_30
theorem vX0_peopleWith_31 : mStep h k cX0_peopleWith bl Q Y (31, lv, st, σ) = (mBin Y 32 lv st σ (fun x y => x &&& y)) := mStep_d dX0_peopleWith_31
theorem vX0_peopleWith_32 : mStep h k cX0_peopleWith bl Q Y (32, lv, st, σ) = (mLdI Y 33 lv st σ 3) := mStep_d dX0_peopleWith_32
theorem vX0_peopleWith_33 : mStep h k cX0_peopleWith bl Q Y (33, lv, st, σ) = (mN2 Y 50 36 lv st σ) := (mStep_d dX0_peopleWith_33).trans (mIfN2_J jt_33_17 jp_33_17)
theorem vX0_peopleWith_36 : mStep h k cX0_peopleWith bl Q Y (36, lv, st, σ) = (mLdI Y 38 lv st σ 4) := mStep_d dX0_peopleWith_36
theorem vX0_peopleWith_38 : mStep h k cX0_peopleWith bl Q Y (38, lv, st, σ) = (Y (39, lv, .int (1) :: st, σ)) := by rw [mStep_d dX0_peopleWith_38, ← mx_c1]; rfl
theorem vX0_peopleWith_39 : mStep h k cX0_peopleWith bl Q Y (39, lv, st, σ) = (mLdA Y 40 lv st σ 0) := mStep_d dX0_peopleWith_39
theorem vX0_peopleWith_40 : mStep h k cX0_peopleWith bl Q Y (40, lv, st, σ) = (mGet h k Y 43 lv st σ 30) := mStep_d dX0_peopleWith_40
theorem vX0_peopleWith_43 : mStep h k cX0_peopleWith bl Q Y (43, lv, st, σ) = (mLdI Y 45 lv st σ 5) := mStep_d dX0_peopleWith_43
theorem vX0_peopleWith_45 : mStep h k cX0_peopleWith bl Q Y (45, lv, st, σ) = (mLdE h Y 46 lv st σ) := mStep_d dX0_peopleWith_45
theorem vX0_peopleWith_46 : mStep h k cX0_peopleWith bl Q Y (46, lv, st, σ) = (mBin Y 47 lv st σ (fun x y => x <<< (y &&& 31))) := mStep_d dX0_peopleWith_46
theorem vX0_peopleWith_47 : mStep h k cX0_peopleWith bl Q Y (47, lv, st, σ) = (mBin Y 48 lv st σ (fun x y => x ||| y)) := mStep_d dX0_peopleWith_47
theorem vX0_peopleWith_48 : mStep h k cX0_peopleWith bl Q Y (48, lv, st, σ) = (mStI Y 50 lv st σ 4) := mStep_d dX0_peopleWith_48
theorem vX0_peopleWith_50 : mStep h k cX0_peopleWith bl Q Y (50, lv, st, σ) = (mInc Y 53 lv st σ 5 (1)) := by rw [mStep_d dX0_peopleWith_50, ← mx_c1]; rfl
theorem vX0_peopleWith_53 : mStep h k cX0_peopleWith bl Q Y (53, lv, st, σ) = (Y (14, lv, st, σ)) := (mStep_d dX0_peopleWith_53).trans (mJ_J jt_53_m39 jp_53_m39)
theorem vX0_peopleWith_56 : mStep h k cX0_peopleWith bl Q Y (56, lv, st, σ) = (mLdI Y 58 lv st σ 4) := mStep_d dX0_peopleWith_56
theorem vX0_peopleWith_58 : mStep h k cX0_peopleWith bl Q Y (58, lv, st, σ) = (mCaS k Y 61 lv st σ 149) := mStep_d dX0_peopleWith_58
theorem vX0_peopleWith_61 : mStep h k cX0_peopleWith bl Q Y (61, lv, st, σ) = (mRetI bl Q st σ) := mStep_d dX0_peopleWith_61
theorem vX0_kinOf_0 : mStep h k cX0_kinOf bl Q Y (0, lv, st, σ) = (mLdA Y 1 lv st σ 0) := mStep_d dX0_kinOf_0
theorem vX0_kinOf_1 : mStep h k cX0_kinOf bl Q Y (1, lv, st, σ) = (mLdI Y 2 lv st σ 1) := mStep_d dX0_kinOf_1
theorem vX0_kinOf_2 : mStep h k cX0_kinOf bl Q Y (2, lv, st, σ) = (mLdI Y 3 lv st σ 2) := mStep_d dX0_kinOf_2
theorem vX0_kinOf_3 : mStep h k cX0_kinOf bl Q Y (3, lv, st, σ) = (mCaV k Y 6 lv st σ 111) := mStep_d dX0_kinOf_3
theorem vX0_kinOf_6 : mStep h k cX0_kinOf bl Q Y (6, lv, st, σ) = (mLdA Y 7 lv st σ 0) := mStep_d dX0_kinOf_6
theorem vX0_kinOf_7 : mStep h k cX0_kinOf bl Q Y (7, lv, st, σ) = (mGet h k Y 10 lv st σ 18) := mStep_d dX0_kinOf_7
theorem vX0_kinOf_10 : mStep h k cX0_kinOf bl Q Y (10, lv, st, σ) = (Y (11, lv, .int (0) :: st, σ)) := by rw [mStep_d dX0_kinOf_10, ← mx_c0]; rfl
theorem vX0_kinOf_11 : mStep h k cX0_kinOf bl Q Y (11, lv, st, σ) = (mLdE h Y 12 lv st σ) := mStep_d dX0_kinOf_11
theorem vX0_kinOf_12 : mStep h k cX0_kinOf bl Q Y (12, lv, st, σ) = (mJ2 Y 17 15 lv st σ (fun x y => y ≤ x)) := (mStep_d dX0_kinOf_12).trans (mIf2_J jt_12_5 jp_12_5)
theorem vX0_kinOf_15 : mStep h k cX0_kinOf bl Q Y (15, lv, st, σ) = (Y (16, lv, .int (0) :: st, σ)) := by rw [mStep_d dX0_kinOf_15, ← mx_c0]; rfl
theorem vX0_kinOf_16 : mStep h k cX0_kinOf bl Q Y (16, lv, st, σ) = (mRetI bl Q st σ) := mStep_d dX0_kinOf_16
theorem vX0_kinOf_17 : mStep h k cX0_kinOf bl Q Y (17, lv, st, σ) = (mLdA Y 18 lv st σ 0) := mStep_d dX0_kinOf_17
theorem vX0_kinOf_18 : mStep h k cX0_kinOf bl Q Y (18, lv, st, σ) = (mLdI Y 19 lv st σ 1) := mStep_d dX0_kinOf_18
theorem vX0_kinOf_19 : mStep h k cX0_kinOf bl Q Y (19, lv, st, σ) = (mLdI Y 20 lv st σ 1) := mStep_d dX0_kinOf_19
theorem vX0_kinOf_20 : mStep h k cX0_kinOf bl Q Y (20, lv, st, σ) = (mCaV k Y 23 lv st σ 107) := mStep_d dX0_kinOf_20
theorem vX0_kinOf_23 : mStep h k cX0_kinOf bl Q Y (23, lv, st, σ) = (mLdA Y 24 lv st σ 0) := mStep_d dX0_kinOf_23
theorem vX0_kinOf_24 : mStep h k cX0_kinOf bl Q Y (24, lv, st, σ) = (mLdI Y 25 lv st σ 2) := mStep_d dX0_kinOf_24
theorem vX0_kinOf_25 : mStep h k cX0_kinOf bl Q Y (25, lv, st, σ) = (mLdI Y 26 lv st σ 2) := mStep_d dX0_kinOf_25
theorem vX0_kinOf_26 : mStep h k cX0_kinOf bl Q Y (26, lv, st, σ) = (mCaV k Y 29 lv st σ 107) := mStep_d dX0_kinOf_26
theorem vX0_kinOf_29 : mStep h k cX0_kinOf bl Q Y (29, lv, st, σ) = (mBin Y 30 lv st σ (fun x y => x * y)) := mStep_d dX0_kinOf_29
theorem vX0_kinOf_30 : mStep h k cX0_kinOf bl Q Y (30, lv, st, σ) = (mStI Y 31 lv st σ 3) := mStep_d dX0_kinOf_30
theorem vX0_kinOf_31 : mStep h k cX0_kinOf bl Q Y (31, lv, st, σ) = (mLdI Y 32 lv st σ 3) := mStep_d dX0_kinOf_31
theorem vX0_kinOf_32 : mStep h k cX0_kinOf bl Q Y (32, lv, st, σ) = (mN1 Y 37 35 lv st σ) := (mStep_d dX0_kinOf_32).trans (mIfN1_J jt_32_5 jp_32_5)
theorem vX0_kinOf_35 : mStep h k cX0_kinOf bl Q Y (35, lv, st, σ) = (Y (36, lv, .int (0) :: st, σ)) := by rw [mStep_d dX0_kinOf_35, ← mx_c0]; rfl
theorem vX0_kinOf_36 : mStep h k cX0_kinOf bl Q Y (36, lv, st, σ) = (mRetI bl Q st σ) := mStep_d dX0_kinOf_36
theorem vX0_kinOf_37 : mStep h k cX0_kinOf bl Q Y (37, lv, st, σ) = (Y (40, lv, .int (1000) :: st, σ)) := by rw [mStep_d dX0_kinOf_37, ← mx_s1000]; rfl
theorem vX0_kinOf_40 : mStep h k cX0_kinOf bl Q Y (40, lv, st, σ) = (mLdA Y 41 lv st σ 0) := mStep_d dX0_kinOf_40
theorem vX0_kinOf_41 : mStep h k cX0_kinOf bl Q Y (41, lv, st, σ) = (mLdI Y 42 lv st σ 1) := mStep_d dX0_kinOf_41
theorem vX0_kinOf_42 : mStep h k cX0_kinOf bl Q Y (42, lv, st, σ) = (mLdI Y 43 lv st σ 2) := mStep_d dX0_kinOf_42
theorem vX0_kinOf_43 : mStep h k cX0_kinOf bl Q Y (43, lv, st, σ) = (mCaV k Y 46 lv st σ 107) := mStep_d dX0_kinOf_43
theorem vX0_kinOf_46 : mStep h k cX0_kinOf bl Q Y (46, lv, st, σ) = (mBin Y 47 lv st σ (fun x y => x * y)) := mStep_d dX0_kinOf_46
theorem vX0_kinOf_47 : mStep h k cX0_kinOf bl Q Y (47, lv, st, σ) = (mLdA Y 48 lv st σ 0) := mStep_d dX0_kinOf_47
theorem vX0_kinOf_48 : mStep h k cX0_kinOf bl Q Y (48, lv, st, σ) = (mGet h k Y 51 lv st σ 83) := mStep_d dX0_kinOf_48
theorem vX0_kinOf_51 : mStep h k cX0_kinOf bl Q Y (51, lv, st, σ) = (mBin Y 52 lv st σ (fun x y => x * y)) := mStep_d dX0_kinOf_51
theorem vX0_kinOf_52 : mStep h k cX0_kinOf bl Q Y (52, lv, st, σ) = (mLdI Y 53 lv st σ 3) := mStep_d dX0_kinOf_52
theorem vX0_kinOf_53 : mStep h k cX0_kinOf bl Q Y (53, lv, st, σ) = (mDiv Y 54 lv st σ (fun x y => x / y)) := mStep_d dX0_kinOf_53
theorem vX0_kinOf_54 : mStep h k cX0_kinOf bl Q Y (54, lv, st, σ) = (Y (57, lv, .int (1000) :: st, σ)) := by rw [mStep_d dX0_kinOf_54, ← mx_s1000]; rfl
theorem vX0_kinOf_57 : mStep h k cX0_kinOf bl Q Y (57, lv, st, σ) = (mBin Y 58 lv st σ (fun x y => x - y)) := mStep_d dX0_kinOf_57
theorem vX0_kinOf_58 : mStep h k cX0_kinOf bl Q Y (58, lv, st, σ) = (mRetI bl Q st σ) := mStep_d dX0_kinOf_58
theorem vX0_takenBy_0 : mStep h k cX0_takenBy bl Q Y (0, lv, st, σ) = (Y (1, lv, .int (0) :: st, σ)) := by rw [mStep_d dX0_takenBy_0, ← mx_c0]; rfl
theorem vX0_takenBy_1 : mStep h k cX0_takenBy bl Q Y (1, lv, st, σ) = (mStI Y 2 lv st σ 2) := mStep_d dX0_takenBy_1
theorem vX0_takenBy_2 : mStep h k cX0_takenBy bl Q Y (2, lv, st, σ) = (Y (3, lv, .int (0) :: st, σ)) := by rw [mStep_d dX0_takenBy_2, ← mx_c0]; rfl
theorem vX0_takenBy_3 : mStep h k cX0_takenBy bl Q Y (3, lv, st, σ) = (mStI Y 4 lv st σ 3) := mStep_d dX0_takenBy_3
theorem vX0_takenBy_4 : mStep h k cX0_takenBy bl Q Y (4, lv, st, σ) = (mLdI Y 5 lv st σ 3) := mStep_d dX0_takenBy_4
theorem vX0_takenBy_5 : mStep h k cX0_takenBy bl Q Y (5, lv, st, σ) = (mLdA Y 6 lv st σ 0) := mStep_d dX0_takenBy_5
theorem vX0_takenBy_6 : mStep h k cX0_takenBy bl Q Y (6, lv, st, σ) = (mGet h k Y 9 lv st σ 83) := mStep_d dX0_takenBy_6
theorem vX0_takenBy_9 : mStep h k cX0_takenBy bl Q Y (9, lv, st, σ) = (mJ2 Y 37 12 lv st σ (fun x y => y ≤ x)) := (mStep_d dX0_takenBy_9).trans (mIf2_J jt_9_28 jp_9_28)
theorem vX0_takenBy_12 : mStep h k cX0_takenBy bl Q Y (12, lv, st, σ) = (mLdA Y 13 lv st σ 0) := mStep_d dX0_takenBy_12
theorem vX0_takenBy_13 : mStep h k cX0_takenBy bl Q Y (13, lv, st, σ) = (mGet h k Y 16 lv st σ 30) := mStep_d dX0_takenBy_13
theorem vX0_takenBy_16 : mStep h k cX0_takenBy bl Q Y (16, lv, st, σ) = (mLdI Y 17 lv st σ 3) := mStep_d dX0_takenBy_16
theorem vX0_takenBy_17 : mStep h k cX0_takenBy bl Q Y (17, lv, st, σ) = (mLdE h Y 18 lv st σ) := mStep_d dX0_takenBy_17
theorem vX0_takenBy_18 : mStep h k cX0_takenBy bl Q Y (18, lv, st, σ) = (mLdI Y 19 lv st σ 1) := mStep_d dX0_takenBy_18
theorem vX0_takenBy_19 : mStep h k cX0_takenBy bl Q Y (19, lv, st, σ) = (mN2 Y 31 22 lv st σ) := (mStep_d dX0_takenBy_19).trans (mIfN2_J jt_19_12 jp_19_12)
theorem vX0_takenBy_22 : mStep h k cX0_takenBy bl Q Y (22, lv, st, σ) = (mLdI Y 23 lv st σ 2) := mStep_d dX0_takenBy_22
theorem vX0_takenBy_23 : mStep h k cX0_takenBy bl Q Y (23, lv, st, σ) = (mLdA Y 24 lv st σ 0) := mStep_d dX0_takenBy_23
theorem vX0_takenBy_24 : mStep h k cX0_takenBy bl Q Y (24, lv, st, σ) = (mGet h k Y 27 lv st σ 36) := mStep_d dX0_takenBy_24
theorem vX0_takenBy_27 : mStep h k cX0_takenBy bl Q Y (27, lv, st, σ) = (mLdI Y 28 lv st σ 3) := mStep_d dX0_takenBy_27
theorem vX0_takenBy_28 : mStep h k cX0_takenBy bl Q Y (28, lv, st, σ) = (mLdE h Y 29 lv st σ) := mStep_d dX0_takenBy_28
theorem vX0_takenBy_29 : mStep h k cX0_takenBy bl Q Y (29, lv, st, σ) = (mBin Y 30 lv st σ (fun x y => x ||| y)) := mStep_d dX0_takenBy_29
theorem vX0_takenBy_30 : mStep h k cX0_takenBy bl Q Y (30, lv, st, σ) = (mStI Y 31 lv st σ 2) := mStep_d dX0_takenBy_30
theorem vX0_takenBy_31 : mStep h k cX0_takenBy bl Q Y (31, lv, st, σ) = (mInc Y 34 lv st σ 3 (1)) := by rw [mStep_d dX0_takenBy_31, ← mx_c1]; rfl
theorem vX0_takenBy_34 : mStep h k cX0_takenBy bl Q Y (34, lv, st, σ) = (Y (4, lv, st, σ)) := (mStep_d dX0_takenBy_34).trans (mJ_J jt_34_m30 jp_34_m30)
theorem vX0_takenBy_37 : mStep h k cX0_takenBy bl Q Y (37, lv, st, σ) = (mLdI Y 38 lv st σ 2) := mStep_d dX0_takenBy_37
theorem vX0_takenBy_38 : mStep h k cX0_takenBy bl Q Y (38, lv, st, σ) = (mRetI bl Q st σ) := mStep_d dX0_takenBy_38
theorem vX0_scoreOf_0 : mStep h k cX0_scoreOf bl Q Y (0, lv, st, σ) = (Y (1, lv, .int (0) :: st, σ)) := by rw [mStep_d dX0_scoreOf_0, ← mx_c0]; rfl
theorem vX0_scoreOf_1 : mStep h k cX0_scoreOf bl Q Y (1, lv, st, σ) = (mStI Y 2 lv st σ 3) := mStep_d dX0_scoreOf_1
theorem vX0_scoreOf_2 : mStep h k cX0_scoreOf bl Q Y (2, lv, st, σ) = (Y (3, lv, .int (0) :: st, σ)) := by rw [mStep_d dX0_scoreOf_2, ← mx_c0]; rfl
theorem vX0_scoreOf_3 : mStep h k cX0_scoreOf bl Q Y (3, lv, st, σ) = (mStI Y 5 lv st σ 4) := mStep_d dX0_scoreOf_3
theorem vX0_scoreOf_5 : mStep h k cX0_scoreOf bl Q Y (5, lv, st, σ) = (mLdI Y 7 lv st σ 4) := mStep_d dX0_scoreOf_5
theorem vX0_scoreOf_7 : mStep h k cX0_scoreOf bl Q Y (7, lv, st, σ) = (mLdA Y 8 lv st σ 0) := mStep_d dX0_scoreOf_7
theorem vX0_scoreOf_8 : mStep h k cX0_scoreOf bl Q Y (8, lv, st, σ) = (mGet h k Y 11 lv st σ 53) := mStep_d dX0_scoreOf_8
theorem vX0_scoreOf_11 : mStep h k cX0_scoreOf bl Q Y (11, lv, st, σ) = (mJ2 Y 45 14 lv st σ (fun x y => y ≤ x)) := (mStep_d dX0_scoreOf_11).trans (mIf2_J jt_11_34 jp_11_34)
theorem vX0_scoreOf_14 : mStep h k cX0_scoreOf bl Q Y (14, lv, st, σ) = (mLdI Y 16 lv st σ 4) := mStep_d dX0_scoreOf_14
theorem vX0_scoreOf_16 : mStep h k cX0_scoreOf bl Q Y (16, lv, st, σ) = (mLdI Y 17 lv st σ 2) := mStep_d dX0_scoreOf_16
theorem vX0_scoreOf_17 : mStep h k cX0_scoreOf bl Q Y (17, lv, st, σ) = (mJ2 Y 39 20 lv st σ (fun x y => x = y)) := (mStep_d dX0_scoreOf_17).trans (mIf2_J jt_17_22 jp_17_22)
theorem vX0_scoreOf_20 : mStep h k cX0_scoreOf bl Q Y (20, lv, st, σ) = (mLdI Y 21 lv st σ 1) := mStep_d dX0_scoreOf_20
theorem vX0_scoreOf_21 : mStep h k cX0_scoreOf bl Q Y (21, lv, st, σ) = (mLdI Y 23 lv st σ 4) := mStep_d dX0_scoreOf_21
theorem vX0_scoreOf_23 : mStep h k cX0_scoreOf bl Q Y (23, lv, st, σ) = (mCaS k Y 26 lv st σ 67) := mStep_d dX0_scoreOf_23
theorem vX0_scoreOf_26 : mStep h k cX0_scoreOf bl Q Y (26, lv, st, σ) = (mJ1 Y 39 29 lv st σ (fun x => x = 0)) := (mStep_d dX0_scoreOf_26).trans (mIf1_J jt_26_13 jp_26_13)
theorem vX0_scoreOf_29 : mStep h k cX0_scoreOf bl Q Y (29, lv, st, σ) = (mLdI Y 30 lv st σ 3) := mStep_d dX0_scoreOf_29
theorem vX0_scoreOf_30 : mStep h k cX0_scoreOf bl Q Y (30, lv, st, σ) = (mLdA Y 31 lv st σ 0) := mStep_d dX0_scoreOf_30
theorem vX0_scoreOf_31 : mStep h k cX0_scoreOf bl Q Y (31, lv, st, σ) = (mLdI Y 32 lv st σ 2) := mStep_d dX0_scoreOf_31
theorem vX0_scoreOf_32 : mStep h k cX0_scoreOf bl Q Y (32, lv, st, σ) = (mLdI Y 34 lv st σ 4) := mStep_d dX0_scoreOf_32
theorem vX0_scoreOf_34 : mStep h k cX0_scoreOf bl Q Y (34, lv, st, σ) = (mCaV k Y 37 lv st σ 114) := mStep_d dX0_scoreOf_34
theorem vX0_scoreOf_37 : mStep h k cX0_scoreOf bl Q Y (37, lv, st, σ) = (mBin Y 38 lv st σ (fun x y => x + y)) := mStep_d dX0_scoreOf_37
theorem vX0_scoreOf_38 : mStep h k cX0_scoreOf bl Q Y (38, lv, st, σ) = (mStI Y 39 lv st σ 3) := mStep_d dX0_scoreOf_38
theorem vX0_scoreOf_39 : mStep h k cX0_scoreOf bl Q Y (39, lv, st, σ) = (mInc Y 42 lv st σ 4 (1)) := by rw [mStep_d dX0_scoreOf_39, ← mx_c1]; rfl
theorem vX0_scoreOf_42 : mStep h k cX0_scoreOf bl Q Y (42, lv, st, σ) = (Y (5, lv, st, σ)) := (mStep_d dX0_scoreOf_42).trans (mJ_J jt_42_m37 jp_42_m37)
theorem vX0_scoreOf_45 : mStep h k cX0_scoreOf bl Q Y (45, lv, st, σ) = (mLdI Y 46 lv st σ 3) := mStep_d dX0_scoreOf_45
theorem vX0_scoreOf_46 : mStep h k cX0_scoreOf bl Q Y (46, lv, st, σ) = (mRetI bl Q st σ) := mStep_d dX0_scoreOf_46
theorem vX0_writeKin_0 : mStep h k cX0_writeKin bl Q Y (0, lv, st, σ) = (Y (1, lv, .int (0) :: st, σ)) := by rw [mStep_d dX0_writeKin_0, ← mx_c0]; rfl
theorem vX0_writeKin_1 : mStep h k cX0_writeKin bl Q Y (1, lv, st, σ) = (mStI Y 2 lv st σ 3) := mStep_d dX0_writeKin_1
theorem vX0_writeKin_2 : mStep h k cX0_writeKin bl Q Y (2, lv, st, σ) = (mLdI Y 3 lv st σ 3) := mStep_d dX0_writeKin_2
theorem vX0_writeKin_3 : mStep h k cX0_writeKin bl Q Y (3, lv, st, σ) = (mLdA Y 4 lv st σ 0) := mStep_d dX0_writeKin_3
theorem vX0_writeKin_4 : mStep h k cX0_writeKin bl Q Y (4, lv, st, σ) = (mGet h k Y 7 lv st σ 53) := mStep_d dX0_writeKin_4
theorem vX0_writeKin_7 : mStep h k cX0_writeKin bl Q Y (7, lv, st, σ) = (mJ2 Y 36 10 lv st σ (fun x y => y ≤ x)) := (mStep_d dX0_writeKin_7).trans (mIf2_J jt_7_29 jp_7_29)
theorem vX0_writeKin_10 : mStep h k cX0_writeKin bl Q Y (10, lv, st, σ) = (mLdI Y 11 lv st σ 2) := mStep_d dX0_writeKin_10
theorem vX0_writeKin_11 : mStep h k cX0_writeKin bl Q Y (11, lv, st, σ) = (mLdI Y 12 lv st σ 3) := mStep_d dX0_writeKin_11
theorem vX0_writeKin_12 : mStep h k cX0_writeKin bl Q Y (12, lv, st, σ) = (mCaS k Y 15 lv st σ 67) := mStep_d dX0_writeKin_12
theorem vX0_writeKin_15 : mStep h k cX0_writeKin bl Q Y (15, lv, st, σ) = (mJ1 Y 30 18 lv st σ (fun x => x = 0)) := (mStep_d dX0_writeKin_15).trans (mIf1_J jt_15_15 jp_15_15)
theorem vX0_writeKin_18 : mStep h k cX0_writeKin bl Q Y (18, lv, st, σ) = (mLdA Y 19 lv st σ 0) := mStep_d dX0_writeKin_18
theorem vX0_writeKin_19 : mStep h k cX0_writeKin bl Q Y (19, lv, st, σ) = (mGet h k Y 22 lv st σ 50) := mStep_d dX0_writeKin_19
theorem vX0_writeKin_22 : mStep h k cX0_writeKin bl Q Y (22, lv, st, σ) = (mLdI Y 23 lv st σ 3) := mStep_d dX0_writeKin_22
theorem vX0_writeKin_23 : mStep h k cX0_writeKin bl Q Y (23, lv, st, σ) = (mLdA Y 24 lv st σ 0) := mStep_d dX0_writeKin_23
theorem vX0_writeKin_24 : mStep h k cX0_writeKin bl Q Y (24, lv, st, σ) = (mLdI Y 25 lv st σ 1) := mStep_d dX0_writeKin_24
theorem vX0_writeKin_25 : mStep h k cX0_writeKin bl Q Y (25, lv, st, σ) = (mLdI Y 26 lv st σ 3) := mStep_d dX0_writeKin_25
theorem vX0_writeKin_26 : mStep h k cX0_writeKin bl Q Y (26, lv, st, σ) = (mCaV k Y 29 lv st σ 114) := mStep_d dX0_writeKin_26
theorem vX0_writeKin_29 : mStep h k cX0_writeKin bl Q Y (29, lv, st, σ) = (mStE h Y 30 lv st σ) := mStep_d dX0_writeKin_29
theorem vX0_writeKin_30 : mStep h k cX0_writeKin bl Q Y (30, lv, st, σ) = (mInc Y 33 lv st σ 3 (1)) := by rw [mStep_d dX0_writeKin_30, ← mx_c1]; rfl
theorem vX0_writeKin_33 : mStep h k cX0_writeKin bl Q Y (33, lv, st, σ) = (Y (2, lv, st, σ)) := (mStep_d dX0_writeKin_33).trans (mJ_J jt_33_m31 jp_33_m31)
theorem vX0_writeKin_36 : mStep h k cX0_writeKin bl Q Y (36, lv, st, σ) = (mRetV bl Q st σ) := mStep_d dX0_writeKin_36
theorem vX0_writeScores_0 : mStep h k cX0_writeScores bl Q Y (0, lv, st, σ) = (mLdA Y 1 lv st σ 0) := mStep_d dX0_writeScores_0
theorem vX0_writeScores_1 : mStep h k cX0_writeScores bl Q Y (1, lv, st, σ) = (mLdI Y 2 lv st σ 1) := mStep_d dX0_writeScores_1
theorem vX0_writeScores_2 : mStep h k cX0_writeScores bl Q Y (2, lv, st, σ) = (mCaV k Y 5 lv st σ 125) := mStep_d dX0_writeScores_2
theorem vX0_writeScores_5 : mStep h k cX0_writeScores bl Q Y (5, lv, st, σ) = (mStI Y 6 lv st σ 3) := mStep_d dX0_writeScores_5
theorem vX0_writeScores_6 : mStep h k cX0_writeScores bl Q Y (6, lv, st, σ) = (Y (7, lv, .int (0) :: st, σ)) := by rw [mStep_d dX0_writeScores_6, ← mx_c0]; rfl
theorem vX0_writeScores_7 : mStep h k cX0_writeScores bl Q Y (7, lv, st, σ) = (mStI Y 9 lv st σ 4) := mStep_d dX0_writeScores_7
theorem vX0_writeScores_9 : mStep h k cX0_writeScores bl Q Y (9, lv, st, σ) = (mLdI Y 11 lv st σ 4) := mStep_d dX0_writeScores_9
theorem vX0_writeScores_11 : mStep h k cX0_writeScores bl Q Y (11, lv, st, σ) = (mLdA Y 12 lv st σ 0) := mStep_d dX0_writeScores_11
theorem vX0_writeScores_12 : mStep h k cX0_writeScores bl Q Y (12, lv, st, σ) = (mGet h k Y 15 lv st σ 53) := mStep_d dX0_writeScores_12
theorem vX0_writeScores_15 : mStep h k cX0_writeScores bl Q Y (15, lv, st, σ) = (mJ2 Y 47 18 lv st σ (fun x y => y ≤ x)) := (mStep_d dX0_writeScores_15).trans (mIf2_J jt_15_32 jp_15_32)
theorem vX0_writeScores_18 : mStep h k cX0_writeScores bl Q Y (18, lv, st, σ) = (mLdI Y 19 lv st σ 2) := mStep_d dX0_writeScores_18
theorem vX0_writeScores_19 : mStep h k cX0_writeScores bl Q Y (19, lv, st, σ) = (mLdI Y 21 lv st σ 4) := mStep_d dX0_writeScores_19
theorem vX0_writeScores_21 : mStep h k cX0_writeScores bl Q Y (21, lv, st, σ) = (mCaS k Y 24 lv st σ 67) := mStep_d dX0_writeScores_21
theorem vX0_writeScores_24 : mStep h k cX0_writeScores bl Q Y (24, lv, st, σ) = (mJ1 Y 41 27 lv st σ (fun x => x = 0)) := (mStep_d dX0_writeScores_24).trans (mIf1_J jt_24_17 jp_24_17)
theorem vX0_writeScores_27 : mStep h k cX0_writeScores bl Q Y (27, lv, st, σ) = (mLdA Y 28 lv st σ 0) := mStep_d dX0_writeScores_27
theorem vX0_writeScores_28 : mStep h k cX0_writeScores bl Q Y (28, lv, st, σ) = (mGet h k Y 31 lv st σ 50) := mStep_d dX0_writeScores_28
theorem vX0_writeScores_31 : mStep h k cX0_writeScores bl Q Y (31, lv, st, σ) = (mLdI Y 33 lv st σ 4) := mStep_d dX0_writeScores_31
theorem vX0_writeScores_33 : mStep h k cX0_writeScores bl Q Y (33, lv, st, σ) = (mLdA Y 34 lv st σ 0) := mStep_d dX0_writeScores_33
theorem vX0_writeScores_34 : mStep h k cX0_writeScores bl Q Y (34, lv, st, σ) = (mLdI Y 35 lv st σ 3) := mStep_d dX0_writeScores_34
theorem vX0_writeScores_35 : mStep h k cX0_writeScores bl Q Y (35, lv, st, σ) = (mLdI Y 37 lv st σ 4) := mStep_d dX0_writeScores_35
theorem vX0_writeScores_37 : mStep h k cX0_writeScores bl Q Y (37, lv, st, σ) = (mCaV k Y 40 lv st σ 128) := mStep_d dX0_writeScores_37
theorem vX0_writeScores_40 : mStep h k cX0_writeScores bl Q Y (40, lv, st, σ) = (mStE h Y 41 lv st σ) := mStep_d dX0_writeScores_40
theorem vX0_writeScores_41 : mStep h k cX0_writeScores bl Q Y (41, lv, st, σ) = (mInc Y 44 lv st σ 4 (1)) := by rw [mStep_d dX0_writeScores_41, ← mx_c1]; rfl
theorem vX0_writeScores_44 : mStep h k cX0_writeScores bl Q Y (44, lv, st, σ) = (Y (9, lv, st, σ)) := (mStep_d dX0_writeScores_44).trans (mJ_J jt_44_m35 jp_44_m35)
theorem vX0_writeScores_47 : mStep h k cX0_writeScores bl Q Y (47, lv, st, σ) = (mRetV bl Q st σ) := mStep_d dX0_writeScores_47
theorem vX0_bestByPoints_0 : mStep h k cX0_bestByPoints bl Q Y (0, lv, st, σ) = (Y (1, lv, .int (0) :: st, σ)) := by rw [mStep_d dX0_bestByPoints_0, ← mx_c0]; rfl
theorem vX0_bestByPoints_1 : mStep h k cX0_bestByPoints bl Q Y (1, lv, st, σ) = (mStI Y 2 lv st σ 2) := mStep_d dX0_bestByPoints_1
theorem vX0_bestByPoints_2 : mStep h k cX0_bestByPoints bl Q Y (2, lv, st, σ) = (Y (3, lv, .int (0) :: st, σ)) := by rw [mStep_d dX0_bestByPoints_2, ← mx_c0]; rfl
theorem vX0_bestByPoints_3 : mStep h k cX0_bestByPoints bl Q Y (3, lv, st, σ) = (mStI Y 4 lv st σ 3) := mStep_d dX0_bestByPoints_3
theorem vX0_bestByPoints_4 : mStep h k cX0_bestByPoints bl Q Y (4, lv, st, σ) = (Y (5, lv, .int (0) :: st, σ)) := by rw [mStep_d dX0_bestByPoints_4, ← mx_c0]; rfl
theorem vX0_bestByPoints_5 : mStep h k cX0_bestByPoints bl Q Y (5, lv, st, σ) = (mStI Y 7 lv st σ 4) := mStep_d dX0_bestByPoints_5
theorem vX0_bestByPoints_7 : mStep h k cX0_bestByPoints bl Q Y (7, lv, st, σ) = (mLdI Y 9 lv st σ 4) := mStep_d dX0_bestByPoints_7
theorem vX0_bestByPoints_9 : mStep h k cX0_bestByPoints bl Q Y (9, lv, st, σ) = (mLdA Y 10 lv st σ 0) := mStep_d dX0_bestByPoints_9
theorem vX0_bestByPoints_10 : mStep h k cX0_bestByPoints bl Q Y (10, lv, st, σ) = (mGet h k Y 13 lv st σ 53) := mStep_d dX0_bestByPoints_10
theorem vX0_bestByPoints_13 : mStep h k cX0_bestByPoints bl Q Y (13, lv, st, σ) = (mJ2 Y 56 16 lv st σ (fun x y => y ≤ x)) := (mStep_d dX0_bestByPoints_13).trans (mIf2_J jt_13_43 jp_13_43)
theorem vX0_bestByPoints_16 : mStep h k cX0_bestByPoints bl Q Y (16, lv, st, σ) = (mLdI Y 17 lv st σ 1) := mStep_d dX0_bestByPoints_16
theorem vX0_bestByPoints_17 : mStep h k cX0_bestByPoints bl Q Y (17, lv, st, σ) = (mLdI Y 19 lv st σ 4) := mStep_d dX0_bestByPoints_17
theorem vX0_bestByPoints_19 : mStep h k cX0_bestByPoints bl Q Y (19, lv, st, σ) = (mCaS k Y 22 lv st σ 67) := mStep_d dX0_bestByPoints_19
theorem vX0_bestByPoints_22 : mStep h k cX0_bestByPoints bl Q Y (22, lv, st, σ) = (mJ1 Y 50 25 lv st σ (fun x => x = 0)) := (mStep_d dX0_bestByPoints_22).trans (mIf1_J jt_22_28 jp_22_28)
theorem vX0_bestByPoints_25 : mStep h k cX0_bestByPoints bl Q Y (25, lv, st, σ) = (mLdI Y 26 lv st σ 3) := mStep_d dX0_bestByPoints_25
theorem vX0_bestByPoints_26 : mStep h k cX0_bestByPoints bl Q Y (26, lv, st, σ) = (mJ1 Y 45 29 lv st σ (fun x => x = 0)) := (mStep_d dX0_bestByPoints_26).trans (mIf1_J jt_26_19 jp_26_19)
theorem vX0_bestByPoints_29 : mStep h k cX0_bestByPoints bl Q Y (29, lv, st, σ) = (mLdA Y 30 lv st σ 0) := mStep_d dX0_bestByPoints_29
theorem vX0_bestByPoints_30 : mStep h k cX0_bestByPoints bl Q Y (30, lv, st, σ) = (mGet h k Y 33 lv st σ 50) := mStep_d dX0_bestByPoints_30
theorem vX0_bestByPoints_33 : mStep h k cX0_bestByPoints bl Q Y (33, lv, st, σ) = (mLdI Y 35 lv st σ 4) := mStep_d dX0_bestByPoints_33
theorem vX0_bestByPoints_35 : mStep h k cX0_bestByPoints bl Q Y (35, lv, st, σ) = (mLdE h Y 36 lv st σ) := mStep_d dX0_bestByPoints_35
theorem vX0_bestByPoints_36 : mStep h k cX0_bestByPoints bl Q Y (36, lv, st, σ) = (mLdA Y 37 lv st σ 0) := mStep_d dX0_bestByPoints_36
theorem vX0_bestByPoints_37 : mStep h k cX0_bestByPoints bl Q Y (37, lv, st, σ) = (mGet h k Y 40 lv st σ 50) := mStep_d dX0_bestByPoints_37
theorem vX0_bestByPoints_40 : mStep h k cX0_bestByPoints bl Q Y (40, lv, st, σ) = (mLdI Y 41 lv st σ 2) := mStep_d dX0_bestByPoints_40
theorem vX0_bestByPoints_41 : mStep h k cX0_bestByPoints bl Q Y (41, lv, st, σ) = (mLdE h Y 42 lv st σ) := mStep_d dX0_bestByPoints_41
theorem vX0_bestByPoints_42 : mStep h k cX0_bestByPoints bl Q Y (42, lv, st, σ) = (mJ2 Y 50 45 lv st σ (fun x y => x ≤ y)) := (mStep_d dX0_bestByPoints_42).trans (mIf2_J jt_42_8 jp_42_8)
theorem vX0_bestByPoints_45 : mStep h k cX0_bestByPoints bl Q Y (45, lv, st, σ) = (mLdI Y 47 lv st σ 4) := mStep_d dX0_bestByPoints_45
theorem vX0_bestByPoints_47 : mStep h k cX0_bestByPoints bl Q Y (47, lv, st, σ) = (mStI Y 48 lv st σ 2) := mStep_d dX0_bestByPoints_47
theorem vX0_bestByPoints_48 : mStep h k cX0_bestByPoints bl Q Y (48, lv, st, σ) = (Y (49, lv, .int (1) :: st, σ)) := by rw [mStep_d dX0_bestByPoints_48, ← mx_c1]; rfl
theorem vX0_bestByPoints_49 : mStep h k cX0_bestByPoints bl Q Y (49, lv, st, σ) = (mStI Y 50 lv st σ 3) := mStep_d dX0_bestByPoints_49
theorem vX0_bestByPoints_50 : mStep h k cX0_bestByPoints bl Q Y (50, lv, st, σ) = (mInc Y 53 lv st σ 4 (1)) := by rw [mStep_d dX0_bestByPoints_50, ← mx_c1]; rfl
theorem vX0_bestByPoints_53 : mStep h k cX0_bestByPoints bl Q Y (53, lv, st, σ) = (Y (7, lv, st, σ)) := (mStep_d dX0_bestByPoints_53).trans (mJ_J jt_53_m46 jp_53_m46)
theorem vX0_bestByPoints_56 : mStep h k cX0_bestByPoints bl Q Y (56, lv, st, σ) = (mLdI Y 57 lv st σ 2) := mStep_d dX0_bestByPoints_56
theorem vX0_bestByPoints_57 : mStep h k cX0_bestByPoints bl Q Y (57, lv, st, σ) = (mRetI bl Q st σ) := mStep_d dX0_bestByPoints_57
theorem vX0_sumOfPoints_0 : mStep h k cX0_sumOfPoints bl Q Y (0, lv, st, σ) = (Y (1, lv, .int (0) :: st, σ)) := by rw [mStep_d dX0_sumOfPoints_0, ← mx_c0]; rfl
theorem vX0_sumOfPoints_1 : mStep h k cX0_sumOfPoints bl Q Y (1, lv, st, σ) = (mStI Y 2 lv st σ 2) := mStep_d dX0_sumOfPoints_1
theorem vX0_sumOfPoints_2 : mStep h k cX0_sumOfPoints bl Q Y (2, lv, st, σ) = (Y (3, lv, .int (0) :: st, σ)) := by rw [mStep_d dX0_sumOfPoints_2, ← mx_c0]; rfl
theorem vX0_sumOfPoints_3 : mStep h k cX0_sumOfPoints bl Q Y (3, lv, st, σ) = (mStI Y 4 lv st σ 3) := mStep_d dX0_sumOfPoints_3
theorem vX0_sumOfPoints_4 : mStep h k cX0_sumOfPoints bl Q Y (4, lv, st, σ) = (mLdI Y 5 lv st σ 3) := mStep_d dX0_sumOfPoints_4
theorem vX0_sumOfPoints_5 : mStep h k cX0_sumOfPoints bl Q Y (5, lv, st, σ) = (mLdA Y 6 lv st σ 0) := mStep_d dX0_sumOfPoints_5
theorem vX0_sumOfPoints_6 : mStep h k cX0_sumOfPoints bl Q Y (6, lv, st, σ) = (mGet h k Y 9 lv st σ 53) := mStep_d dX0_sumOfPoints_6
theorem vX0_sumOfPoints_9 : mStep h k cX0_sumOfPoints bl Q Y (9, lv, st, σ) = (mJ2 Y 35 12 lv st σ (fun x y => y ≤ x)) := (mStep_d dX0_sumOfPoints_9).trans (mIf2_J jt_9_26 jp_9_26)
theorem vX0_sumOfPoints_12 : mStep h k cX0_sumOfPoints bl Q Y (12, lv, st, σ) = (mLdI Y 13 lv st σ 1) := mStep_d dX0_sumOfPoints_12
theorem vX0_sumOfPoints_13 : mStep h k cX0_sumOfPoints bl Q Y (13, lv, st, σ) = (mLdI Y 14 lv st σ 3) := mStep_d dX0_sumOfPoints_13
theorem vX0_sumOfPoints_14 : mStep h k cX0_sumOfPoints bl Q Y (14, lv, st, σ) = (mCaS k Y 17 lv st σ 67) := mStep_d dX0_sumOfPoints_14
theorem vX0_sumOfPoints_17 : mStep h k cX0_sumOfPoints bl Q Y (17, lv, st, σ) = (mJ1 Y 29 20 lv st σ (fun x => x = 0)) := (mStep_d dX0_sumOfPoints_17).trans (mIf1_J jt_17_12 jp_17_12)
theorem vX0_sumOfPoints_20 : mStep h k cX0_sumOfPoints bl Q Y (20, lv, st, σ) = (mLdI Y 21 lv st σ 2) := mStep_d dX0_sumOfPoints_20
theorem vX0_sumOfPoints_21 : mStep h k cX0_sumOfPoints bl Q Y (21, lv, st, σ) = (mLdA Y 22 lv st σ 0) := mStep_d dX0_sumOfPoints_21
theorem vX0_sumOfPoints_22 : mStep h k cX0_sumOfPoints bl Q Y (22, lv, st, σ) = (mGet h k Y 25 lv st σ 50) := mStep_d dX0_sumOfPoints_22
theorem vX0_sumOfPoints_25 : mStep h k cX0_sumOfPoints bl Q Y (25, lv, st, σ) = (mLdI Y 26 lv st σ 3) := mStep_d dX0_sumOfPoints_25
theorem vX0_sumOfPoints_26 : mStep h k cX0_sumOfPoints bl Q Y (26, lv, st, σ) = (mLdE h Y 27 lv st σ) := mStep_d dX0_sumOfPoints_26
theorem vX0_sumOfPoints_27 : mStep h k cX0_sumOfPoints bl Q Y (27, lv, st, σ) = (mBin Y 28 lv st σ (fun x y => x + y)) := mStep_d dX0_sumOfPoints_27
theorem vX0_sumOfPoints_28 : mStep h k cX0_sumOfPoints bl Q Y (28, lv, st, σ) = (mStI Y 29 lv st σ 2) := mStep_d dX0_sumOfPoints_28
theorem vX0_sumOfPoints_29 : mStep h k cX0_sumOfPoints bl Q Y (29, lv, st, σ) = (mInc Y 32 lv st σ 3 (1)) := by rw [mStep_d dX0_sumOfPoints_29, ← mx_c1]; rfl
theorem vX0_sumOfPoints_32 : mStep h k cX0_sumOfPoints bl Q Y (32, lv, st, σ) = (Y (4, lv, st, σ)) := (mStep_d dX0_sumOfPoints_32).trans (mJ_J jt_32_m28 jp_32_m28)
theorem vX0_sumOfPoints_35 : mStep h k cX0_sumOfPoints bl Q Y (35, lv, st, σ) = (mLdI Y 36 lv st σ 2) := mStep_d dX0_sumOfPoints_35
theorem vX0_sumOfPoints_36 : mStep h k cX0_sumOfPoints bl Q Y (36, lv, st, σ) = (mRetI bl Q st σ) := mStep_d dX0_sumOfPoints_36
theorem vX0_mayPutUp_0 : mStep h k cX0_mayPutUp bl Q Y (0, lv, st, σ) = (mLdA Y 1 lv st σ 0) := mStep_d dX0_mayPutUp_0
theorem vX0_mayPutUp_1 : mStep h k cX0_mayPutUp bl Q Y (1, lv, st, σ) = (mGet h k Y 4 lv st σ 60) := mStep_d dX0_mayPutUp_1
theorem vX0_mayPutUp_4 : mStep h k cX0_mayPutUp bl Q Y (4, lv, st, σ) = (mLdA Y 5 lv st σ 0) := mStep_d dX0_mayPutUp_4
theorem vX0_mayPutUp_5 : mStep h k cX0_mayPutUp bl Q Y (5, lv, st, σ) = (mLdI Y 6 lv st σ 1) := mStep_d dX0_mayPutUp_5
theorem vX0_mayPutUp_6 : mStep h k cX0_mayPutUp bl Q Y (6, lv, st, σ) = (mCaV k Y 9 lv st σ 125) := mStep_d dX0_mayPutUp_6
theorem vX0_mayPutUp_9 : mStep h k cX0_mayPutUp bl Q Y (9, lv, st, σ) = (Y (10, lv, .int (-1) :: st, σ)) := by rw [mStep_d dX0_mayPutUp_9, ← mx_cm1]; rfl
theorem vX0_mayPutUp_10 : mStep h k cX0_mayPutUp bl Q Y (10, lv, st, σ) = (mBin Y 11 lv st σ (fun x y => x ^^^ y)) := mStep_d dX0_mayPutUp_10
theorem vX0_mayPutUp_11 : mStep h k cX0_mayPutUp bl Q Y (11, lv, st, σ) = (mBin Y 12 lv st σ (fun x y => x &&& y)) := mStep_d dX0_mayPutUp_11
theorem vX0_mayPutUp_12 : mStep h k cX0_mayPutUp bl Q Y (12, lv, st, σ) = (mStI Y 13 lv st σ 2) := mStep_d dX0_mayPutUp_12
theorem vX0_mayPutUp_13 : mStep h k cX0_mayPutUp bl Q Y (13, lv, st, σ) = (Y (14, lv, .int (0) :: st, σ)) := by rw [mStep_d dX0_mayPutUp_13, ← mx_c0]; rfl
theorem vX0_mayPutUp_14 : mStep h k cX0_mayPutUp bl Q Y (14, lv, st, σ) = (mStI Y 15 lv st σ 3) := mStep_d dX0_mayPutUp_14
theorem vX0_mayPutUp_15 : mStep h k cX0_mayPutUp bl Q Y (15, lv, st, σ) = (mLdI Y 16 lv st σ 3) := mStep_d dX0_mayPutUp_15
theorem vX0_mayPutUp_16 : mStep h k cX0_mayPutUp bl Q Y (16, lv, st, σ) = (mLdA Y 17 lv st σ 0) := mStep_d dX0_mayPutUp_16
theorem vX0_mayPutUp_17 : mStep h k cX0_mayPutUp bl Q Y (17, lv, st, σ) = (mGet h k Y 20 lv st σ 53) := mStep_d dX0_mayPutUp_17
theorem vX0_mayPutUp_20 : mStep h k cX0_mayPutUp bl Q Y (20, lv, st, σ) = (mJ2 Y 46 23 lv st σ (fun x y => y ≤ x)) := (mStep_d dX0_mayPutUp_20).trans (mIf2_J jt_20_26 jp_20_26)
theorem vX0_mayPutUp_23 : mStep h k cX0_mayPutUp bl Q Y (23, lv, st, σ) = (mLdA Y 24 lv st σ 0) := mStep_d dX0_mayPutUp_23
theorem vX0_mayPutUp_24 : mStep h k cX0_mayPutUp bl Q Y (24, lv, st, σ) = (mLdI Y 25 lv st σ 1) := mStep_d dX0_mayPutUp_24
theorem vX0_mayPutUp_25 : mStep h k cX0_mayPutUp bl Q Y (25, lv, st, σ) = (mLdI Y 26 lv st σ 3) := mStep_d dX0_mayPutUp_25
theorem vX0_mayPutUp_26 : mStep h k cX0_mayPutUp bl Q Y (26, lv, st, σ) = (mCaV k Y 29 lv st σ 146) := mStep_d dX0_mayPutUp_26
theorem vX0_mayPutUp_29 : mStep h k cX0_mayPutUp bl Q Y (29, lv, st, σ) = (mJ1 Y 40 32 lv st σ (fun x => x ≤ 0)) := (mStep_d dX0_mayPutUp_29).trans (mIf1_J jt_29_11 jp_29_11)
theorem vX0_mayPutUp_32 : mStep h k cX0_mayPutUp bl Q Y (32, lv, st, σ) = (mLdI Y 33 lv st σ 2) := mStep_d dX0_mayPutUp_32
theorem vX0_mayPutUp_33 : mStep h k cX0_mayPutUp bl Q Y (33, lv, st, σ) = (Y (34, lv, .int (1) :: st, σ)) := by rw [mStep_d dX0_mayPutUp_33, ← mx_c1]; rfl
theorem vX0_mayPutUp_34 : mStep h k cX0_mayPutUp bl Q Y (34, lv, st, σ) = (mLdI Y 35 lv st σ 3) := mStep_d dX0_mayPutUp_34
theorem vX0_mayPutUp_35 : mStep h k cX0_mayPutUp bl Q Y (35, lv, st, σ) = (mBin Y 36 lv st σ (fun x y => x <<< (y &&& 31))) := mStep_d dX0_mayPutUp_35
theorem vX0_mayPutUp_36 : mStep h k cX0_mayPutUp bl Q Y (36, lv, st, σ) = (Y (37, lv, .int (-1) :: st, σ)) := by rw [mStep_d dX0_mayPutUp_36, ← mx_cm1]; rfl
theorem vX0_mayPutUp_37 : mStep h k cX0_mayPutUp bl Q Y (37, lv, st, σ) = (mBin Y 38 lv st σ (fun x y => x ^^^ y)) := mStep_d dX0_mayPutUp_37
theorem vX0_mayPutUp_38 : mStep h k cX0_mayPutUp bl Q Y (38, lv, st, σ) = (mBin Y 39 lv st σ (fun x y => x &&& y)) := mStep_d dX0_mayPutUp_38
theorem vX0_mayPutUp_39 : mStep h k cX0_mayPutUp bl Q Y (39, lv, st, σ) = (mStI Y 40 lv st σ 2) := mStep_d dX0_mayPutUp_39
theorem vX0_mayPutUp_40 : mStep h k cX0_mayPutUp bl Q Y (40, lv, st, σ) = (mInc Y 43 lv st σ 3 (1)) := by rw [mStep_d dX0_mayPutUp_40, ← mx_c1]; rfl
theorem vX0_mayPutUp_43 : mStep h k cX0_mayPutUp bl Q Y (43, lv, st, σ) = (Y (15, lv, st, σ)) := (mStep_d dX0_mayPutUp_43).trans (mJ_J jt_43_m28 jp_43_m28)
theorem vX0_mayPutUp_46 : mStep h k cX0_mayPutUp bl Q Y (46, lv, st, σ) = (mLdI Y 47 lv st σ 2) := mStep_d dX0_mayPutUp_46
theorem vX0_mayPutUp_47 : mStep h k cX0_mayPutUp bl Q Y (47, lv, st, σ) = (mRetI bl Q st σ) := mStep_d dX0_mayPutUp_47
theorem vX0_isTurnOfNew_0 : mStep h k cX0_isTurnOfNew bl Q Y (0, lv, st, σ) = (mLdA Y 1 lv st σ 0) := mStep_d dX0_isTurnOfNew_0
theorem vX0_isTurnOfNew_1 : mStep h k cX0_isTurnOfNew bl Q Y (1, lv, st, σ) = (mGet h k Y 4 lv st σ 18) := mStep_d dX0_isTurnOfNew_1
theorem vX0_isTurnOfNew_4 : mStep h k cX0_isTurnOfNew bl Q Y (4, lv, st, σ) = (Y (5, lv, .int (2) :: st, σ)) := by rw [mStep_d dX0_isTurnOfNew_4, ← mx_c2]; rfl
theorem vX0_isTurnOfNew_5 : mStep h k cX0_isTurnOfNew bl Q Y (5, lv, st, σ) = (mLdE h Y 6 lv st σ) := mStep_d dX0_isTurnOfNew_5
theorem vX0_isTurnOfNew_6 : mStep h k cX0_isTurnOfNew bl Q Y (6, lv, st, σ) = (mStI Y 7 lv st σ 2) := mStep_d dX0_isTurnOfNew_6
theorem vX0_isTurnOfNew_7 : mStep h k cX0_isTurnOfNew bl Q Y (7, lv, st, σ) = (mLdI Y 8 lv st σ 2) := mStep_d dX0_isTurnOfNew_7
theorem vX0_isTurnOfNew_8 : mStep h k cX0_isTurnOfNew bl Q Y (8, lv, st, σ) = (mJ1 Y 28 11 lv st σ (fun x => x ≤ 0)) := (mStep_d dX0_isTurnOfNew_8).trans (mIf1_J jt_8_20 jp_8_20)
theorem vX0_isTurnOfNew_11 : mStep h k cX0_isTurnOfNew bl Q Y (11, lv, st, σ) = (mLdA Y 12 lv st σ 0) := mStep_d dX0_isTurnOfNew_11
theorem vX0_isTurnOfNew_12 : mStep h k cX0_isTurnOfNew bl Q Y (12, lv, st, σ) = (mGet h k Y 15 lv st σ 39) := mStep_d dX0_isTurnOfNew_12
theorem vX0_isTurnOfNew_15 : mStep h k cX0_isTurnOfNew bl Q Y (15, lv, st, σ) = (mLdI Y 16 lv st σ 1) := mStep_d dX0_isTurnOfNew_15
theorem vX0_isTurnOfNew_16 : mStep h k cX0_isTurnOfNew bl Q Y (16, lv, st, σ) = (mLdE h Y 17 lv st σ) := mStep_d dX0_isTurnOfNew_16
theorem vX0_isTurnOfNew_17 : mStep h k cX0_isTurnOfNew bl Q Y (17, lv, st, σ) = (Y (18, lv, .int (1) :: st, σ)) := by rw [mStep_d dX0_isTurnOfNew_17, ← mx_c1]; rfl
theorem vX0_isTurnOfNew_18 : mStep h k cX0_isTurnOfNew bl Q Y (18, lv, st, σ) = (mBin Y 19 lv st σ (fun x y => x + y)) := mStep_d dX0_isTurnOfNew_18
theorem vX0_isTurnOfNew_19 : mStep h k cX0_isTurnOfNew bl Q Y (19, lv, st, σ) = (mLdI Y 20 lv st σ 2) := mStep_d dX0_isTurnOfNew_19
theorem vX0_isTurnOfNew_20 : mStep h k cX0_isTurnOfNew bl Q Y (20, lv, st, σ) = (mDiv Y 21 lv st σ (fun x y => x - x / y * y)) := mStep_d dX0_isTurnOfNew_20
theorem vX0_isTurnOfNew_21 : mStep h k cX0_isTurnOfNew bl Q Y (21, lv, st, σ) = (mN1 Y 28 24 lv st σ) := (mStep_d dX0_isTurnOfNew_21).trans (mIfN1_J jt_21_7 jp_21_7)
theorem vX0_isTurnOfNew_24 : mStep h k cX0_isTurnOfNew bl Q Y (24, lv, st, σ) = (Y (25, lv, .int (1) :: st, σ)) := by rw [mStep_d dX0_isTurnOfNew_24, ← mx_c1]; rfl
theorem vX0_isTurnOfNew_25 : mStep h k cX0_isTurnOfNew bl Q Y (25, lv, st, σ) = (Y (29, lv, st, σ)) := (mStep_d dX0_isTurnOfNew_25).trans (mJ_J jt_25_4 jp_25_4)
theorem vX0_isTurnOfNew_28 : mStep h k cX0_isTurnOfNew bl Q Y (28, lv, st, σ) = (Y (29, lv, .int (0) :: st, σ)) := by rw [mStep_d dX0_isTurnOfNew_28, ← mx_c0]; rfl
theorem vX0_isTurnOfNew_29 : mStep h k cX0_isTurnOfNew bl Q Y (29, lv, st, σ) = (mRetI bl Q st σ) := mStep_d dX0_isTurnOfNew_29
theorem vX0_keepsRules_0 : mStep h k cX0_keepsRules bl Q Y (0, lv, st, σ) = (Y (1, lv, .int (0) :: st, σ)) := by rw [mStep_d dX0_keepsRules_0, ← mx_c0]; rfl
theorem vX0_keepsRules_1 : mStep h k cX0_keepsRules bl Q Y (1, lv, st, σ) = (mStI Y 2 lv st σ 2) := mStep_d dX0_keepsRules_1
theorem vX0_keepsRules_2 : mStep h k cX0_keepsRules bl Q Y (2, lv, st, σ) = (mLdI Y 3 lv st σ 2) := mStep_d dX0_keepsRules_2
theorem vX0_keepsRules_3 : mStep h k cX0_keepsRules bl Q Y (3, lv, st, σ) = (Y (4, lv, .int (4) :: st, σ)) := by rw [mStep_d dX0_keepsRules_3, ← mx_c4]; rfl
theorem vX0_keepsRules_4 : mStep h k cX0_keepsRules bl Q Y (4, lv, st, σ) = (mJ2 Y 35 7 lv st σ (fun x y => y ≤ x)) := (mStep_d dX0_keepsRules_4).trans (mIf2_J jt_4_31 jp_4_31)
theorem vX0_keepsRules_7 : mStep h k cX0_keepsRules bl Q Y (7, lv, st, σ) = (mLdI Y 8 lv st σ 1) := mStep_d dX0_keepsRules_7
theorem vX0_keepsRules_8 : mStep h k cX0_keepsRules bl Q Y (8, lv, st, σ) = (mLdA Y 9 lv st σ 0) := mStep_d dX0_keepsRules_8
theorem vX0_keepsRules_9 : mStep h k cX0_keepsRules bl Q Y (9, lv, st, σ) = (mGet h k Y 12 lv st σ 24) := mStep_d dX0_keepsRules_9
theorem vX0_keepsRules_12 : mStep h k cX0_keepsRules bl Q Y (12, lv, st, σ) = (mLdI Y 13 lv st σ 2) := mStep_d dX0_keepsRules_12
theorem vX0_keepsRules_13 : mStep h k cX0_keepsRules bl Q Y (13, lv, st, σ) = (mLdE h Y 14 lv st σ) := mStep_d dX0_keepsRules_13
theorem vX0_keepsRules_14 : mStep h k cX0_keepsRules bl Q Y (14, lv, st, σ) = (mBin Y 15 lv st σ (fun x y => x &&& y)) := mStep_d dX0_keepsRules_14
theorem vX0_keepsRules_15 : mStep h k cX0_keepsRules bl Q Y (15, lv, st, σ) = (mCaS k Y 18 lv st σ 149) := mStep_d dX0_keepsRules_15
theorem vX0_keepsRules_18 : mStep h k cX0_keepsRules bl Q Y (18, lv, st, σ) = (mLdA Y 19 lv st σ 0) := mStep_d dX0_keepsRules_18
theorem vX0_keepsRules_19 : mStep h k cX0_keepsRules bl Q Y (19, lv, st, σ) = (mGet h k Y 22 lv st σ 18) := mStep_d dX0_keepsRules_19
theorem vX0_keepsRules_22 : mStep h k cX0_keepsRules bl Q Y (22, lv, st, σ) = (Y (23, lv, .int (1) :: st, σ)) := by rw [mStep_d dX0_keepsRules_22, ← mx_c1]; rfl
theorem vX0_keepsRules_23 : mStep h k cX0_keepsRules bl Q Y (23, lv, st, σ) = (mLdE h Y 24 lv st σ) := mStep_d dX0_keepsRules_23
theorem vX0_keepsRules_24 : mStep h k cX0_keepsRules bl Q Y (24, lv, st, σ) = (mJ2 Y 29 27 lv st σ (fun x y => x ≤ y)) := (mStep_d dX0_keepsRules_24).trans (mIf2_J jt_24_5 jp_24_5)
theorem vX0_keepsRules_27 : mStep h k cX0_keepsRules bl Q Y (27, lv, st, σ) = (Y (28, lv, .int (0) :: st, σ)) := by rw [mStep_d dX0_keepsRules_27, ← mx_c0]; rfl
theorem vX0_keepsRules_28 : mStep h k cX0_keepsRules bl Q Y (28, lv, st, σ) = (mRetI bl Q st σ) := mStep_d dX0_keepsRules_28
theorem vX0_keepsRules_29 : mStep h k cX0_keepsRules bl Q Y (29, lv, st, σ) = (mInc Y 32 lv st σ 2 (1)) := by rw [mStep_d dX0_keepsRules_29, ← mx_c1]; rfl
theorem vX0_keepsRules_32 : mStep h k cX0_keepsRules bl Q Y (32, lv, st, σ) = (Y (2, lv, st, σ)) := (mStep_d dX0_keepsRules_32).trans (mJ_J jt_32_m30 jp_32_m30)
theorem vX0_keepsRules_35 : mStep h k cX0_keepsRules bl Q Y (35, lv, st, σ) = (Y (36, lv, .int (0) :: st, σ)) := by rw [mStep_d dX0_keepsRules_35, ← mx_c0]; rfl
theorem vX0_keepsRules_36 : mStep h k cX0_keepsRules bl Q Y (36, lv, st, σ) = (mStI Y 37 lv st σ 2) := mStep_d dX0_keepsRules_36
theorem vX0_keepsRules_37 : mStep h k cX0_keepsRules bl Q Y (37, lv, st, σ) = (mLdI Y 38 lv st σ 2) := mStep_d dX0_keepsRules_37
theorem vX0_keepsRules_38 : mStep h k cX0_keepsRules bl Q Y (38, lv, st, σ) = (mLdA Y 39 lv st σ 0) := mStep_d dX0_keepsRules_38
theorem vX0_keepsRules_39 : mStep h k cX0_keepsRules bl Q Y (39, lv, st, σ) = (mGet h k Y 42 lv st σ 53) := mStep_d dX0_keepsRules_39
theorem vX0_keepsRules_42 : mStep h k cX0_keepsRules bl Q Y (42, lv, st, σ) = (mJ2 Y 72 45 lv st σ (fun x y => y ≤ x)) := (mStep_d dX0_keepsRules_42).trans (mIf2_J jt_42_30 jp_42_30)
theorem vX0_keepsRules_45 : mStep h k cX0_keepsRules bl Q Y (45, lv, st, σ) = (mLdI Y 46 lv st σ 1) := mStep_d dX0_keepsRules_45
theorem vX0_keepsRules_46 : mStep h k cX0_keepsRules bl Q Y (46, lv, st, σ) = (mLdI Y 47 lv st σ 2) := mStep_d dX0_keepsRules_46
theorem vX0_keepsRules_47 : mStep h k cX0_keepsRules bl Q Y (47, lv, st, σ) = (mCaS k Y 50 lv st σ 67) := mStep_d dX0_keepsRules_47
theorem vX0_keepsRules_50 : mStep h k cX0_keepsRules bl Q Y (50, lv, st, σ) = (mJ1 Y 66 53 lv st σ (fun x => x = 0)) := (mStep_d dX0_keepsRules_50).trans (mIf1_J jt_50_16 jp_50_16)
theorem vX0_keepsRules_53 : mStep h k cX0_keepsRules bl Q Y (53, lv, st, σ) = (mLdI Y 54 lv st σ 1) := mStep_d dX0_keepsRules_53
theorem vX0_keepsRules_54 : mStep h k cX0_keepsRules bl Q Y (54, lv, st, σ) = (mLdA Y 55 lv st σ 0) := mStep_d dX0_keepsRules_54
theorem vX0_keepsRules_55 : mStep h k cX0_keepsRules bl Q Y (55, lv, st, σ) = (mGet h k Y 58 lv st σ 27) := mStep_d dX0_keepsRules_55
theorem vX0_keepsRules_58 : mStep h k cX0_keepsRules bl Q Y (58, lv, st, σ) = (mLdI Y 59 lv st σ 2) := mStep_d dX0_keepsRules_58
theorem vX0_keepsRules_59 : mStep h k cX0_keepsRules bl Q Y (59, lv, st, σ) = (mLdE h Y 60 lv st σ) := mStep_d dX0_keepsRules_59
theorem vX0_keepsRules_60 : mStep h k cX0_keepsRules bl Q Y (60, lv, st, σ) = (mBin Y 61 lv st σ (fun x y => x &&& y)) := mStep_d dX0_keepsRules_60
theorem vX0_keepsRules_61 : mStep h k cX0_keepsRules bl Q Y (61, lv, st, σ) = (mJ1 Y 66 64 lv st σ (fun x => x = 0)) := (mStep_d dX0_keepsRules_61).trans (mIf1_J jt_61_5 jp_61_5)
theorem vX0_keepsRules_64 : mStep h k cX0_keepsRules bl Q Y (64, lv, st, σ) = (Y (65, lv, .int (0) :: st, σ)) := by rw [mStep_d dX0_keepsRules_64, ← mx_c0]; rfl
theorem vX0_keepsRules_65 : mStep h k cX0_keepsRules bl Q Y (65, lv, st, σ) = (mRetI bl Q st σ) := mStep_d dX0_keepsRules_65
theorem vX0_keepsRules_66 : mStep h k cX0_keepsRules bl Q Y (66, lv, st, σ) = (mInc Y 69 lv st σ 2 (1)) := by rw [mStep_d dX0_keepsRules_66, ← mx_c1]; rfl
theorem vX0_keepsRules_69 : mStep h k cX0_keepsRules bl Q Y (69, lv, st, σ) = (Y (37, lv, st, σ)) := (mStep_d dX0_keepsRules_69).trans (mJ_J jt_69_m32 jp_69_m32)
theorem vX0_keepsRules_72 : mStep h k cX0_keepsRules bl Q Y (72, lv, st, σ) = (Y (73, lv, .int (1) :: st, σ)) := by rw [mStep_d dX0_keepsRules_72, ← mx_c1]; rfl
theorem vX0_keepsRules_73 : mStep h k cX0_keepsRules bl Q Y (73, lv, st, σ) = (mRetI bl Q st σ) := mStep_d dX0_keepsRules_73
theorem vX0_bestList_0 : mStep h k cX0_bestList bl Q Y (0, lv, st, σ) = (mLdA Y 1 lv st σ 0) := mStep_d dX0_bestList_0
theorem vX0_bestList_1 : mStep h k cX0_bestList bl Q Y (1, lv, st, σ) = (mLdI Y 2 lv st σ 1) := mStep_d dX0_bestList_1
theorem vX0_bestList_2 : mStep h k cX0_bestList bl Q Y (2, lv, st, σ) = (mCaV k Y 5 lv st σ 131) := mStep_d dX0_bestList_2
theorem vX0_bestList_5 : mStep h k cX0_bestList bl Q Y (5, lv, st, σ) = (mStI Y 6 lv st σ 3) := mStep_d dX0_bestList_5
theorem vX0_bestList_6 : mStep h k cX0_bestList bl Q Y (6, lv, st, σ) = (mLdA Y 7 lv st σ 0) := mStep_d dX0_bestList_6
theorem vX0_bestList_7 : mStep h k cX0_bestList bl Q Y (7, lv, st, σ) = (mLdI Y 8 lv st σ 1) := mStep_d dX0_bestList_7
theorem vX0_bestList_8 : mStep h k cX0_bestList bl Q Y (8, lv, st, σ) = (mCaV k Y 11 lv st σ 154) := mStep_d dX0_bestList_8
theorem vX0_bestList_11 : mStep h k cX0_bestList bl Q Y (11, lv, st, σ) = (mJ1 Y 23 14 lv st σ (fun x => x = 0)) := (mStep_d dX0_bestList_11).trans (mIf1_J jt_11_12 jp_11_12)
theorem vX0_bestList_14 : mStep h k cX0_bestList bl Q Y (14, lv, st, σ) = (mLdI Y 15 lv st σ 3) := mStep_d dX0_bestList_14
theorem vX0_bestList_15 : mStep h k cX0_bestList bl Q Y (15, lv, st, σ) = (mLdA Y 16 lv st σ 0) := mStep_d dX0_bestList_15
theorem vX0_bestList_16 : mStep h k cX0_bestList bl Q Y (16, lv, st, σ) = (mCaV k Y 19 lv st σ 104) := mStep_d dX0_bestList_16
theorem vX0_bestList_19 : mStep h k cX0_bestList bl Q Y (19, lv, st, σ) = (mBin Y 20 lv st σ (fun x y => x &&& y)) := mStep_d dX0_bestList_19
theorem vX0_bestList_20 : mStep h k cX0_bestList bl Q Y (20, lv, st, σ) = (Y (24, lv, st, σ)) := (mStep_d dX0_bestList_20).trans (mJ_J jt_20_4 jp_20_4)
theorem vX0_bestList_23 : mStep h k cX0_bestList bl Q Y (23, lv, st, σ) = (Y (24, lv, .int (0) :: st, σ)) := by rw [mStep_d dX0_bestList_23, ← mx_c0]; rfl
theorem vX0_bestList_24 : mStep h k cX0_bestList bl Q Y (24, lv, st, σ) = (mStI Y 26 lv st σ 4) := mStep_d dX0_bestList_24
theorem vX0_bestList_26 : mStep h k cX0_bestList bl Q Y (26, lv, st, σ) = (mLdA Y 27 lv st σ 0) := mStep_d dX0_bestList_26
theorem vX0_bestList_27 : mStep h k cX0_bestList bl Q Y (27, lv, st, σ) = (mLdI Y 28 lv st σ 1) := mStep_d dX0_bestList_27
theorem vX0_bestList_28 : mStep h k cX0_bestList bl Q Y (28, lv, st, σ) = (mLdI Y 29 lv st σ 3) := mStep_d dX0_bestList_28
theorem vX0_bestList_29 : mStep h k cX0_bestList bl Q Y (29, lv, st, σ) = (mCaV k Y 32 lv st σ 157) := mStep_d dX0_bestList_29
theorem vX0_bestList_32 : mStep h k cX0_bestList bl Q Y (32, lv, st, σ) = (Y (33, lv, .int (0) :: st, σ)) := by rw [mStep_d dX0_bestList_32, ← mx_c0]; rfl
theorem vX0_bestList_33 : mStep h k cX0_bestList bl Q Y (33, lv, st, σ) = (mStI Y 35 lv st σ 5) := mStep_d dX0_bestList_33
theorem vX0_bestList_35 : mStep h k cX0_bestList bl Q Y (35, lv, st, σ) = (Y (36, lv, .int (0) :: st, σ)) := by rw [mStep_d dX0_bestList_35, ← mx_c0]; rfl
theorem vX0_bestList_36 : mStep h k cX0_bestList bl Q Y (36, lv, st, σ) = (mStI Y 38 lv st σ 6) := mStep_d dX0_bestList_36
theorem vX0_bestList_38 : mStep h k cX0_bestList bl Q Y (38, lv, st, σ) = (Y (39, lv, .int (0) :: st, σ)) := by rw [mStep_d dX0_bestList_38, ← mx_c0]; rfl
theorem vX0_bestList_39 : mStep h k cX0_bestList bl Q Y (39, lv, st, σ) = (mStI Y 41 lv st σ 7) := mStep_d dX0_bestList_39
theorem vX0_bestList_41 : mStep h k cX0_bestList bl Q Y (41, lv, st, σ) = (Y (42, lv, .int (0) :: st, σ)) := by rw [mStep_d dX0_bestList_41, ← mx_c0]; rfl
theorem vX0_bestList_42 : mStep h k cX0_bestList bl Q Y (42, lv, st, σ) = (mStI Y 44 lv st σ 8) := mStep_d dX0_bestList_42
theorem vX0_bestList_44 : mStep h k cX0_bestList bl Q Y (44, lv, st, σ) = (Y (45, lv, .int (1) :: st, σ)) := by rw [mStep_d dX0_bestList_44, ← mx_c1]; rfl
theorem vX0_bestList_45 : mStep h k cX0_bestList bl Q Y (45, lv, st, σ) = (mLdI Y 46 lv st σ 3) := mStep_d dX0_bestList_45
theorem vX0_bestList_46 : mStep h k cX0_bestList bl Q Y (46, lv, st, σ) = (mCaS k Y 49 lv st σ 149) := mStep_d dX0_bestList_46
theorem vX0_bestList_49 : mStep h k cX0_bestList bl Q Y (49, lv, st, σ) = (mBin Y 50 lv st σ (fun x y => x <<< (y &&& 31))) := mStep_d dX0_bestList_49
theorem vX0_bestList_50 : mStep h k cX0_bestList bl Q Y (50, lv, st, σ) = (mStI Y 52 lv st σ 9) := mStep_d dX0_bestList_50
theorem vX0_bestList_52 : mStep h k cX0_bestList bl Q Y (52, lv, st, σ) = (Y (53, lv, .int (1) :: st, σ)) := by rw [mStep_d dX0_bestList_52, ← mx_c1]; rfl
theorem vX0_bestList_53 : mStep h k cX0_bestList bl Q Y (53, lv, st, σ) = (mStI Y 55 lv st σ 10) := mStep_d dX0_bestList_53
theorem vX0_bestList_55 : mStep h k cX0_bestList bl Q Y (55, lv, st, σ) = (mLdI Y 57 lv st σ 10) := mStep_d dX0_bestList_55
theorem vX0_bestList_57 : mStep h k cX0_bestList bl Q Y (57, lv, st, σ) = (mLdI Y 59 lv st σ 9) := mStep_d dX0_bestList_57
theorem vX0_bestList_59 : mStep h k cX0_bestList bl Q Y (59, lv, st, σ) = (mJ2 Y 164 62 lv st σ (fun x y => y ≤ x)) := (mStep_d dX0_bestList_59).trans (mIf2_J jt_59_105 jp_59_105)
theorem vX0_bestList_62 : mStep h k cX0_bestList bl Q Y (62, lv, st, σ) = (mLdI Y 64 lv st σ 8) := mStep_d dX0_bestList_62
theorem vX0_bestList_64 : mStep h k cX0_bestList bl Q Y (64, lv, st, σ) = (mLdI Y 65 lv st σ 3) := mStep_d dX0_bestList_64
theorem vX0_bestList_65 : mStep h k cX0_bestList bl Q Y (65, lv, st, σ) = (mBin Y 66 lv st σ (fun x y => x - y)) := mStep_d dX0_bestList_65
theorem vX0_bestList_66 : mStep h k cX0_bestList bl Q Y (66, lv, st, σ) = (mLdI Y 67 lv st σ 3) := mStep_d dX0_bestList_66
theorem vX0_bestList_67 : mStep h k cX0_bestList bl Q Y (67, lv, st, σ) = (mBin Y 68 lv st σ (fun x y => x &&& y)) := mStep_d dX0_bestList_67
theorem vX0_bestList_68 : mStep h k cX0_bestList bl Q Y (68, lv, st, σ) = (mStI Y 70 lv st σ 8) := mStep_d dX0_bestList_68
theorem vX0_bestList_70 : mStep h k cX0_bestList bl Q Y (70, lv, st, σ) = (mLdI Y 72 lv st σ 8) := mStep_d dX0_bestList_70
theorem vX0_bestList_72 : mStep h k cX0_bestList bl Q Y (72, lv, st, σ) = (mCaS k Y 75 lv st σ 149) := mStep_d dX0_bestList_72
theorem vX0_bestList_75 : mStep h k cX0_bestList bl Q Y (75, lv, st, σ) = (mStI Y 77 lv st σ 11) := mStep_d dX0_bestList_75
theorem vX0_bestList_77 : mStep h k cX0_bestList bl Q Y (77, lv, st, σ) = (mLdI Y 79 lv st σ 11) := mStep_d dX0_bestList_77
theorem vX0_bestList_79 : mStep h k cX0_bestList bl Q Y (79, lv, st, σ) = (mLdI Y 80 lv st σ 2) := mStep_d dX0_bestList_79
theorem vX0_bestList_80 : mStep h k cX0_bestList bl Q Y (80, lv, st, σ) = (mJ2 Y 107 83 lv st σ (fun x y => y < x)) := (mStep_d dX0_bestList_80).trans (mIf2_J jt_80_27 jp_80_27)
theorem vX0_bestList_83 : mStep h k cX0_bestList bl Q Y (83, lv, st, σ) = (mLdI Y 85 lv st σ 11) := mStep_d dX0_bestList_83
theorem vX0_bestList_85 : mStep h k cX0_bestList bl Q Y (85, lv, st, σ) = (mLdI Y 87 lv st σ 6) := mStep_d dX0_bestList_85
theorem vX0_bestList_87 : mStep h k cX0_bestList bl Q Y (87, lv, st, σ) = (mJ2 Y 107 90 lv st σ (fun x y => x < y)) := (mStep_d dX0_bestList_87).trans (mIf2_J jt_87_20 jp_87_20)
theorem vX0_bestList_90 : mStep h k cX0_bestList bl Q Y (90, lv, st, σ) = (mLdI Y 92 lv st σ 4) := mStep_d dX0_bestList_90
theorem vX0_bestList_92 : mStep h k cX0_bestList bl Q Y (92, lv, st, σ) = (mJ1 Y 103 95 lv st σ (fun x => x = 0)) := (mStep_d dX0_bestList_92).trans (mIf1_J jt_92_11 jp_92_11)
theorem vX0_bestList_95 : mStep h k cX0_bestList bl Q Y (95, lv, st, σ) = (mLdI Y 97 lv st σ 8) := mStep_d dX0_bestList_95
theorem vX0_bestList_97 : mStep h k cX0_bestList bl Q Y (97, lv, st, σ) = (mLdI Y 99 lv st σ 4) := mStep_d dX0_bestList_97
theorem vX0_bestList_99 : mStep h k cX0_bestList bl Q Y (99, lv, st, σ) = (mBin Y 100 lv st σ (fun x y => x &&& y)) := mStep_d dX0_bestList_99
theorem vX0_bestList_100 : mStep h k cX0_bestList bl Q Y (100, lv, st, σ) = (mJ1 Y 107 103 lv st σ (fun x => x = 0)) := (mStep_d dX0_bestList_100).trans (mIf1_J jt_100_7 jp_100_7)
theorem vX0_bestList_103 : mStep h k cX0_bestList bl Q Y (103, lv, st, σ) = (Y (104, lv, .int (1) :: st, σ)) := by rw [mStep_d dX0_bestList_103, ← mx_c1]; rfl
theorem vX0_bestList_104 : mStep h k cX0_bestList bl Q Y (104, lv, st, σ) = (Y (108, lv, st, σ)) := (mStep_d dX0_bestList_104).trans (mJ_J jt_104_4 jp_104_4)
theorem vX0_bestList_107 : mStep h k cX0_bestList bl Q Y (107, lv, st, σ) = (Y (108, lv, .int (0) :: st, σ)) := by rw [mStep_d dX0_bestList_107, ← mx_c0]; rfl
theorem vX0_bestList_108 : mStep h k cX0_bestList bl Q Y (108, lv, st, σ) = (mStI Y 110 lv st σ 12) := mStep_d dX0_bestList_108
theorem vX0_bestList_110 : mStep h k cX0_bestList bl Q Y (110, lv, st, σ) = (mLdI Y 112 lv st σ 12) := mStep_d dX0_bestList_110
theorem vX0_bestList_112 : mStep h k cX0_bestList bl Q Y (112, lv, st, σ) = (mJ1 Y 158 115 lv st σ (fun x => x = 0)) := (mStep_d dX0_bestList_112).trans (mIf1_J jt_112_46 jp_112_46)
theorem vX0_bestList_115 : mStep h k cX0_bestList bl Q Y (115, lv, st, σ) = (mLdA Y 116 lv st σ 0) := mStep_d dX0_bestList_115
theorem vX0_bestList_116 : mStep h k cX0_bestList bl Q Y (116, lv, st, σ) = (mLdI Y 118 lv st σ 8) := mStep_d dX0_bestList_116
theorem vX0_bestList_118 : mStep h k cX0_bestList bl Q Y (118, lv, st, σ) = (mCaV k Y 121 lv st σ 160) := mStep_d dX0_bestList_118
theorem vX0_bestList_121 : mStep h k cX0_bestList bl Q Y (121, lv, st, σ) = (mJ1 Y 158 124 lv st σ (fun x => x = 0)) := (mStep_d dX0_bestList_121).trans (mIf1_J jt_121_37 jp_121_37)
theorem vX0_bestList_124 : mStep h k cX0_bestList bl Q Y (124, lv, st, σ) = (mLdA Y 125 lv st σ 0) := mStep_d dX0_bestList_124
theorem vX0_bestList_125 : mStep h k cX0_bestList bl Q Y (125, lv, st, σ) = (mLdI Y 127 lv st σ 8) := mStep_d dX0_bestList_125
theorem vX0_bestList_127 : mStep h k cX0_bestList bl Q Y (127, lv, st, σ) = (mCaV k Y 130 lv st σ 140) := mStep_d dX0_bestList_127
theorem vX0_bestList_130 : mStep h k cX0_bestList bl Q Y (130, lv, st, σ) = (mStI Y 132 lv st σ 13) := mStep_d dX0_bestList_130
theorem vX0_bestList_132 : mStep h k cX0_bestList bl Q Y (132, lv, st, σ) = (mLdI Y 134 lv st σ 11) := mStep_d dX0_bestList_132
theorem vX0_bestList_134 : mStep h k cX0_bestList bl Q Y (134, lv, st, σ) = (mLdI Y 136 lv st σ 6) := mStep_d dX0_bestList_134
theorem vX0_bestList_136 : mStep h k cX0_bestList bl Q Y (136, lv, st, σ) = (mJ2 Y 146 139 lv st σ (fun x y => y < x)) := (mStep_d dX0_bestList_136).trans (mIf2_J jt_136_10 jp_136_10)
theorem vX0_bestList_139 : mStep h k cX0_bestList bl Q Y (139, lv, st, σ) = (mLdI Y 141 lv st σ 13) := mStep_d dX0_bestList_139
theorem vX0_bestList_141 : mStep h k cX0_bestList bl Q Y (141, lv, st, σ) = (mLdI Y 143 lv st σ 7) := mStep_d dX0_bestList_141
theorem vX0_bestList_143 : mStep h k cX0_bestList bl Q Y (143, lv, st, σ) = (mJ2 Y 158 146 lv st σ (fun x y => x ≤ y)) := (mStep_d dX0_bestList_143).trans (mIf2_J jt_143_15 jp_143_15)
theorem vX0_bestList_146 : mStep h k cX0_bestList bl Q Y (146, lv, st, σ) = (mLdI Y 148 lv st σ 8) := mStep_d dX0_bestList_146
theorem vX0_bestList_148 : mStep h k cX0_bestList bl Q Y (148, lv, st, σ) = (mStI Y 150 lv st σ 5) := mStep_d dX0_bestList_148
theorem vX0_bestList_150 : mStep h k cX0_bestList bl Q Y (150, lv, st, σ) = (mLdI Y 152 lv st σ 11) := mStep_d dX0_bestList_150
theorem vX0_bestList_152 : mStep h k cX0_bestList bl Q Y (152, lv, st, σ) = (mStI Y 154 lv st σ 6) := mStep_d dX0_bestList_152
theorem vX0_bestList_154 : mStep h k cX0_bestList bl Q Y (154, lv, st, σ) = (mLdI Y 156 lv st σ 13) := mStep_d dX0_bestList_154
theorem vX0_bestList_156 : mStep h k cX0_bestList bl Q Y (156, lv, st, σ) = (mStI Y 158 lv st σ 7) := mStep_d dX0_bestList_156
theorem vX0_bestList_158 : mStep h k cX0_bestList bl Q Y (158, lv, st, σ) = (mInc Y 161 lv st σ 10 (1)) := by rw [mStep_d dX0_bestList_158, ← mx_c1]; rfl
theorem vX0_bestList_161 : mStep h k cX0_bestList bl Q Y (161, lv, st, σ) = (Y (55, lv, st, σ)) := (mStep_d dX0_bestList_161).trans (mJ_J jt_161_m106 jp_161_m106)
theorem vX0_bestList_164 : mStep h k cX0_bestList bl Q Y (164, lv, st, σ) = (mLdI Y 166 lv st σ 5) := mStep_d dX0_bestList_164
theorem vX0_bestList_166 : mStep h k cX0_bestList bl Q Y (166, lv, st, σ) = (mRetI bl Q st σ) := mStep_d dX0_bestList_166
theorem vX0_daysTired_0 : mStep h k cX0_daysTired bl Q Y (0, lv, st, σ) = (Y (1, lv, .int (0) :: st, σ)) := by rw [mStep_d dX0_daysTired_0, ← mx_c0]; rfl
theorem vX0_daysTired_1 : mStep h k cX0_daysTired bl Q Y (1, lv, st, σ) = (mLdA Y 2 lv st σ 0) := mStep_d dX0_daysTired_1
theorem vX0_daysTired_2 : mStep h k cX0_daysTired bl Q Y (2, lv, st, σ) = (mGet h k Y 5 lv st σ 47) := mStep_d dX0_daysTired_2
theorem vX0_daysTired_5 : mStep h k cX0_daysTired bl Q Y (5, lv, st, σ) = (mLdI Y 6 lv st σ 1) := mStep_d dX0_daysTired_5
theorem vX0_daysTired_6 : mStep h k cX0_daysTired bl Q Y (6, lv, st, σ) = (mLdR h Y 7 lv st σ) := mStep_d dX0_daysTired_6
theorem vX0_daysTired_7 : mStep h k cX0_daysTired bl Q Y (7, lv, st, σ) = (mLdI Y 8 lv st σ 2) := mStep_d dX0_daysTired_7
theorem vX0_daysTired_8 : mStep h k cX0_daysTired bl Q Y (8, lv, st, σ) = (mLdE h Y 9 lv st σ) := mStep_d dX0_daysTired_8
theorem vX0_daysTired_9 : mStep h k cX0_daysTired bl Q Y (9, lv, st, σ) = (mLdA Y 10 lv st σ 0) := mStep_d dX0_daysTired_9
theorem vX0_daysTired_10 : mStep h k cX0_daysTired bl Q Y (10, lv, st, σ) = (mGet h k Y 13 lv st σ 57) := mStep_d dX0_daysTired_10
theorem vX0_daysTired_13 : mStep h k cX0_daysTired bl Q Y (13, lv, st, σ) = (mBin Y 14 lv st σ (fun x y => x - y)) := mStep_d dX0_daysTired_13
theorem vX0_daysTired_14 : mStep h k cX0_daysTired bl Q Y (14, lv, st, σ) = (mCaS k Y 17 lv st σ 163) := mStep_d dX0_daysTired_14
theorem vX0_daysTired_17 : mStep h k cX0_daysTired bl Q Y (17, lv, st, σ) = (mRetI bl Q st σ) := mStep_d dX0_daysTired_17
theorem vX0_showOnce_0 : mStep h k cX0_showOnce bl Q Y (0, lv, st, σ) = (mLdA Y 1 lv st σ 0) := mStep_d dX0_showOnce_0
theorem vX0_showOnce_1 : mStep h k cX0_showOnce bl Q Y (1, lv, st, σ) = (mGet h k Y 4 lv st σ 44) := mStep_d dX0_showOnce_1
theorem vX0_showOnce_4 : mStep h k cX0_showOnce bl Q Y (4, lv, st, σ) = (mLdI Y 5 lv st σ 1) := mStep_d dX0_showOnce_4
theorem vX0_showOnce_5 : mStep h k cX0_showOnce bl Q Y (5, lv, st, σ) = (mLdR h Y 6 lv st σ) := mStep_d dX0_showOnce_5
theorem vX0_showOnce_6 : mStep h k cX0_showOnce bl Q Y (6, lv, st, σ) = (mLdI Y 7 lv st σ 2) := mStep_d dX0_showOnce_6
theorem vX0_showOnce_7 : mStep h k cX0_showOnce bl Q Y (7, lv, st, σ) = (mDup2 Y 8 lv st σ) := mStep_d dX0_showOnce_7
theorem vX0_showOnce_8 : mStep h k cX0_showOnce bl Q Y (8, lv, st, σ) = (mLdE h Y 9 lv st σ) := mStep_d dX0_showOnce_8
theorem vX0_showOnce_9 : mStep h k cX0_showOnce bl Q Y (9, lv, st, σ) = (Y (10, lv, .int (1) :: st, σ)) := by rw [mStep_d dX0_showOnce_9, ← mx_c1]; rfl
theorem vX0_showOnce_10 : mStep h k cX0_showOnce bl Q Y (10, lv, st, σ) = (mBin Y 11 lv st σ (fun x y => x + y)) := mStep_d dX0_showOnce_10
theorem vX0_showOnce_11 : mStep h k cX0_showOnce bl Q Y (11, lv, st, σ) = (mStE h Y 12 lv st σ) := mStep_d dX0_showOnce_11
theorem vX0_showOnce_12 : mStep h k cX0_showOnce bl Q Y (12, lv, st, σ) = (mLdA Y 13 lv st σ 0) := mStep_d dX0_showOnce_12
theorem vX0_showOnce_13 : mStep h k cX0_showOnce bl Q Y (13, lv, st, σ) = (mGet h k Y 16 lv st σ 44) := mStep_d dX0_showOnce_13
theorem vX0_showOnce_16 : mStep h k cX0_showOnce bl Q Y (16, lv, st, σ) = (mLdI Y 17 lv st σ 1) := mStep_d dX0_showOnce_16
theorem vX0_showOnce_17 : mStep h k cX0_showOnce bl Q Y (17, lv, st, σ) = (mLdR h Y 18 lv st σ) := mStep_d dX0_showOnce_17
theorem vX0_showOnce_18 : mStep h k cX0_showOnce bl Q Y (18, lv, st, σ) = (mLdI Y 19 lv st σ 2) := mStep_d dX0_showOnce_18
theorem vX0_showOnce_19 : mStep h k cX0_showOnce bl Q Y (19, lv, st, σ) = (mLdE h Y 20 lv st σ) := mStep_d dX0_showOnce_19
theorem vX0_showOnce_20 : mStep h k cX0_showOnce bl Q Y (20, lv, st, σ) = (mLdA Y 21 lv st σ 0) := mStep_d dX0_showOnce_20
theorem vX0_showOnce_21 : mStep h k cX0_showOnce bl Q Y (21, lv, st, σ) = (mGet h k Y 24 lv st σ 18) := mStep_d dX0_showOnce_21
theorem vX0_showOnce_24 : mStep h k cX0_showOnce bl Q Y (24, lv, st, σ) = (Y (25, lv, .int (3) :: st, σ)) := by rw [mStep_d dX0_showOnce_24, ← mx_c3]; rfl
theorem vX0_showOnce_25 : mStep h k cX0_showOnce bl Q Y (25, lv, st, σ) = (mLdE h Y 26 lv st σ) := mStep_d dX0_showOnce_25
theorem vX0_showOnce_26 : mStep h k cX0_showOnce bl Q Y (26, lv, st, σ) = (mJ2 Y 53 29 lv st σ (fun x y => x < y)) := (mStep_d dX0_showOnce_26).trans (mIf2_J jt_26_27 jp_26_27)
theorem vX0_showOnce_29 : mStep h k cX0_showOnce bl Q Y (29, lv, st, σ) = (mLdA Y 30 lv st σ 0) := mStep_d dX0_showOnce_29
theorem vX0_showOnce_30 : mStep h k cX0_showOnce bl Q Y (30, lv, st, σ) = (mGet h k Y 33 lv st σ 44) := mStep_d dX0_showOnce_30
theorem vX0_showOnce_33 : mStep h k cX0_showOnce bl Q Y (33, lv, st, σ) = (mLdI Y 34 lv st σ 1) := mStep_d dX0_showOnce_33
theorem vX0_showOnce_34 : mStep h k cX0_showOnce bl Q Y (34, lv, st, σ) = (mLdR h Y 35 lv st σ) := mStep_d dX0_showOnce_34
theorem vX0_showOnce_35 : mStep h k cX0_showOnce bl Q Y (35, lv, st, σ) = (mLdI Y 36 lv st σ 2) := mStep_d dX0_showOnce_35
theorem vX0_showOnce_36 : mStep h k cX0_showOnce bl Q Y (36, lv, st, σ) = (Y (37, lv, .int (0) :: st, σ)) := by rw [mStep_d dX0_showOnce_36, ← mx_c0]; rfl
theorem vX0_showOnce_37 : mStep h k cX0_showOnce bl Q Y (37, lv, st, σ) = (mStE h Y 38 lv st σ) := mStep_d dX0_showOnce_37
theorem vX0_showOnce_38 : mStep h k cX0_showOnce bl Q Y (38, lv, st, σ) = (mLdA Y 39 lv st σ 0) := mStep_d dX0_showOnce_38
theorem vX0_showOnce_39 : mStep h k cX0_showOnce bl Q Y (39, lv, st, σ) = (mGet h k Y 42 lv st σ 47) := mStep_d dX0_showOnce_39
theorem vX0_showOnce_42 : mStep h k cX0_showOnce bl Q Y (42, lv, st, σ) = (mLdI Y 43 lv st σ 1) := mStep_d dX0_showOnce_42
theorem vX0_showOnce_43 : mStep h k cX0_showOnce bl Q Y (43, lv, st, σ) = (mLdR h Y 44 lv st σ) := mStep_d dX0_showOnce_43
theorem vX0_showOnce_44 : mStep h k cX0_showOnce bl Q Y (44, lv, st, σ) = (mLdI Y 45 lv st σ 2) := mStep_d dX0_showOnce_44
theorem vX0_showOnce_45 : mStep h k cX0_showOnce bl Q Y (45, lv, st, σ) = (mLdA Y 46 lv st σ 0) := mStep_d dX0_showOnce_45
theorem vX0_showOnce_46 : mStep h k cX0_showOnce bl Q Y (46, lv, st, σ) = (mGet h k Y 49 lv st σ 57) := mStep_d dX0_showOnce_46
theorem vX0_showOnce_49 : mStep h k cX0_showOnce bl Q Y (49, lv, st, σ) = (Y (51, lv, .int (7) :: st, σ)) := by rw [mStep_d dX0_showOnce_49, ← mx_b7]; rfl
theorem vX0_showOnce_51 : mStep h k cX0_showOnce bl Q Y (51, lv, st, σ) = (mBin Y 52 lv st σ (fun x y => x + y)) := mStep_d dX0_showOnce_51
theorem vX0_showOnce_52 : mStep h k cX0_showOnce bl Q Y (52, lv, st, σ) = (mStE h Y 53 lv st σ) := mStep_d dX0_showOnce_52
theorem vX0_showOnce_53 : mStep h k cX0_showOnce bl Q Y (53, lv, st, σ) = (mRetV bl Q st σ) := mStep_d dX0_showOnce_53
theorem vX0_clearShown_0 : mStep h k cX0_clearShown bl Q Y (0, lv, st, σ) = (Y (1, lv, .int (0) :: st, σ)) := by rw [mStep_d dX0_clearShown_0, ← mx_c0]; rfl
theorem vX0_clearShown_1 : mStep h k cX0_clearShown bl Q Y (1, lv, st, σ) = (mStI Y 2 lv st σ 3) := mStep_d dX0_clearShown_1
theorem vX0_clearShown_2 : mStep h k cX0_clearShown bl Q Y (2, lv, st, σ) = (mLdI Y 3 lv st σ 3) := mStep_d dX0_clearShown_2
theorem vX0_clearShown_3 : mStep h k cX0_clearShown bl Q Y (3, lv, st, σ) = (mLdA Y 4 lv st σ 0) := mStep_d dX0_clearShown_3
theorem vX0_clearShown_4 : mStep h k cX0_clearShown bl Q Y (4, lv, st, σ) = (mGet h k Y 7 lv st σ 53) := mStep_d dX0_clearShown_4
theorem vX0_clearShown_7 : mStep h k cX0_clearShown bl Q Y (7, lv, st, σ) = (mJ2 Y 42 10 lv st σ (fun x y => y ≤ x)) := (mStep_d dX0_clearShown_7).trans (mIf2_J jt_7_35 jp_7_35)
theorem vX0_clearShown_10 : mStep h k cX0_clearShown bl Q Y (10, lv, st, σ) = (mLdI Y 11 lv st σ 2) := mStep_d dX0_clearShown_10
theorem vX0_clearShown_11 : mStep h k cX0_clearShown bl Q Y (11, lv, st, σ) = (mLdI Y 12 lv st σ 3) := mStep_d dX0_clearShown_11
theorem vX0_clearShown_12 : mStep h k cX0_clearShown bl Q Y (12, lv, st, σ) = (mCaS k Y 15 lv st σ 67) := mStep_d dX0_clearShown_12
theorem vX0_clearShown_15 : mStep h k cX0_clearShown bl Q Y (15, lv, st, σ) = (mJ1 Y 36 18 lv st σ (fun x => x = 0)) := (mStep_d dX0_clearShown_15).trans (mIf1_J jt_15_21 jp_15_21)
theorem vX0_clearShown_18 : mStep h k cX0_clearShown bl Q Y (18, lv, st, σ) = (mLdA Y 19 lv st σ 0) := mStep_d dX0_clearShown_18
theorem vX0_clearShown_19 : mStep h k cX0_clearShown bl Q Y (19, lv, st, σ) = (mGet h k Y 22 lv st σ 44) := mStep_d dX0_clearShown_19
theorem vX0_clearShown_22 : mStep h k cX0_clearShown bl Q Y (22, lv, st, σ) = (mLdI Y 23 lv st σ 1) := mStep_d dX0_clearShown_22
theorem vX0_clearShown_23 : mStep h k cX0_clearShown bl Q Y (23, lv, st, σ) = (mLdR h Y 24 lv st σ) := mStep_d dX0_clearShown_23
theorem vX0_clearShown_24 : mStep h k cX0_clearShown bl Q Y (24, lv, st, σ) = (mLdI Y 25 lv st σ 3) := mStep_d dX0_clearShown_24
theorem vX0_clearShown_25 : mStep h k cX0_clearShown bl Q Y (25, lv, st, σ) = (Y (26, lv, .int (0) :: st, σ)) := by rw [mStep_d dX0_clearShown_25, ← mx_c0]; rfl
theorem vX0_clearShown_26 : mStep h k cX0_clearShown bl Q Y (26, lv, st, σ) = (mStE h Y 27 lv st σ) := mStep_d dX0_clearShown_26
theorem vX0_clearShown_27 : mStep h k cX0_clearShown bl Q Y (27, lv, st, σ) = (mLdA Y 28 lv st σ 0) := mStep_d dX0_clearShown_27
theorem vX0_clearShown_28 : mStep h k cX0_clearShown bl Q Y (28, lv, st, σ) = (mGet h k Y 31 lv st σ 47) := mStep_d dX0_clearShown_28
theorem vX0_clearShown_31 : mStep h k cX0_clearShown bl Q Y (31, lv, st, σ) = (mLdI Y 32 lv st σ 1) := mStep_d dX0_clearShown_31
theorem vX0_clearShown_32 : mStep h k cX0_clearShown bl Q Y (32, lv, st, σ) = (mLdR h Y 33 lv st σ) := mStep_d dX0_clearShown_32
theorem vX0_clearShown_33 : mStep h k cX0_clearShown bl Q Y (33, lv, st, σ) = (mLdI Y 34 lv st σ 3) := mStep_d dX0_clearShown_33
theorem vX0_clearShown_34 : mStep h k cX0_clearShown bl Q Y (34, lv, st, σ) = (Y (35, lv, .int (0) :: st, σ)) := by rw [mStep_d dX0_clearShown_34, ← mx_c0]; rfl
theorem vX0_clearShown_35 : mStep h k cX0_clearShown bl Q Y (35, lv, st, σ) = (mStE h Y 36 lv st σ) := mStep_d dX0_clearShown_35
theorem vX0_clearShown_36 : mStep h k cX0_clearShown bl Q Y (36, lv, st, σ) = (mInc Y 39 lv st σ 3 (1)) := by rw [mStep_d dX0_clearShown_36, ← mx_c1]; rfl
theorem vX0_clearShown_39 : mStep h k cX0_clearShown bl Q Y (39, lv, st, σ) = (Y (2, lv, st, σ)) := (mStep_d dX0_clearShown_39).trans (mJ_J jt_39_m37 jp_39_m37)
theorem vX0_clearShown_42 : mStep h k cX0_clearShown bl Q Y (42, lv, st, σ) = (mRetV bl Q st σ) := mStep_d dX0_clearShown_42
theorem vJ6_bitCount_0f7a4_0 : mStep h k cJ6_bitCount_0f7a4 bl Q Y (0, lv, st, σ) = (mLdI Y 1 lv st σ 0) := mStep_d dJ6_bitCount_0f7a4_0
theorem vJ6_bitCount_0f7a4_1 : mStep h k cJ6_bitCount_0f7a4 bl Q Y (1, lv, st, σ) = (mLdI Y 2 lv st σ 0) := mStep_d dJ6_bitCount_0f7a4_1
theorem vJ6_bitCount_0f7a4_2 : mStep h k cJ6_bitCount_0f7a4 bl Q Y (2, lv, st, σ) = (Y (3, lv, .int (1) :: st, σ)) := by rw [mStep_d dJ6_bitCount_0f7a4_2, ← mx_c1]; rfl
theorem vJ6_bitCount_0f7a4_3 : mStep h k cJ6_bitCount_0f7a4 bl Q Y (3, lv, st, σ) = (mBin Y 4 lv st σ (fun x y => (x.toUInt32 >>> (y.toUInt32 &&& Int32.toUInt32 31)).toInt32)) := mStep_d dJ6_bitCount_0f7a4_3
theorem vJ6_bitCount_0f7a4_4 : mStep h k cJ6_bitCount_0f7a4 bl Q Y (4, lv, st, σ) = (mKon k Y 7 lv st σ 265) := mStep_d dJ6_bitCount_0f7a4_4
theorem vJ6_bitCount_0f7a4_7 : mStep h k cJ6_bitCount_0f7a4 bl Q Y (7, lv, st, σ) = (mBin Y 8 lv st σ (fun x y => x &&& y)) := mStep_d dJ6_bitCount_0f7a4_7
theorem vJ6_bitCount_0f7a4_8 : mStep h k cJ6_bitCount_0f7a4 bl Q Y (8, lv, st, σ) = (mBin Y 9 lv st σ (fun x y => x - y)) := mStep_d dJ6_bitCount_0f7a4_8
theorem vJ6_bitCount_0f7a4_9 : mStep h k cJ6_bitCount_0f7a4 bl Q Y (9, lv, st, σ) = (mStI Y 10 lv st σ 0) := mStep_d dJ6_bitCount_0f7a4_9
theorem vJ6_bitCount_0f7a4_10 : mStep h k cJ6_bitCount_0f7a4 bl Q Y (10, lv, st, σ) = (mLdI Y 11 lv st σ 0) := mStep_d dJ6_bitCount_0f7a4_10
theorem vJ6_bitCount_0f7a4_11 : mStep h k cJ6_bitCount_0f7a4 bl Q Y (11, lv, st, σ) = (mKon k Y 14 lv st σ 266) := mStep_d dJ6_bitCount_0f7a4_11
theorem vJ6_bitCount_0f7a4_14 : mStep h k cJ6_bitCount_0f7a4 bl Q Y (14, lv, st, σ) = (mBin Y 15 lv st σ (fun x y => x &&& y)) := mStep_d dJ6_bitCount_0f7a4_14
theorem vJ6_bitCount_0f7a4_15 : mStep h k cJ6_bitCount_0f7a4 bl Q Y (15, lv, st, σ) = (mLdI Y 16 lv st σ 0) := mStep_d dJ6_bitCount_0f7a4_15
theorem vJ6_bitCount_0f7a4_16 : mStep h k cJ6_bitCount_0f7a4 bl Q Y (16, lv, st, σ) = (Y (17, lv, .int (2) :: st, σ)) := by rw [mStep_d dJ6_bitCount_0f7a4_16, ← mx_c2]; rfl
theorem vJ6_bitCount_0f7a4_17 : mStep h k cJ6_bitCount_0f7a4 bl Q Y (17, lv, st, σ) = (mBin Y 18 lv st σ (fun x y => (x.toUInt32 >>> (y.toUInt32 &&& Int32.toUInt32 31)).toInt32)) := mStep_d dJ6_bitCount_0f7a4_17
theorem vJ6_bitCount_0f7a4_18 : mStep h k cJ6_bitCount_0f7a4 bl Q Y (18, lv, st, σ) = (mKon k Y 21 lv st σ 266) := mStep_d dJ6_bitCount_0f7a4_18
theorem vJ6_bitCount_0f7a4_21 : mStep h k cJ6_bitCount_0f7a4 bl Q Y (21, lv, st, σ) = (mBin Y 22 lv st σ (fun x y => x &&& y)) := mStep_d dJ6_bitCount_0f7a4_21
theorem vJ6_bitCount_0f7a4_22 : mStep h k cJ6_bitCount_0f7a4 bl Q Y (22, lv, st, σ) = (mBin Y 23 lv st σ (fun x y => x + y)) := mStep_d dJ6_bitCount_0f7a4_22
theorem vJ6_bitCount_0f7a4_23 : mStep h k cJ6_bitCount_0f7a4 bl Q Y (23, lv, st, σ) = (mStI Y 24 lv st σ 0) := mStep_d dJ6_bitCount_0f7a4_23
theorem vJ6_bitCount_0f7a4_24 : mStep h k cJ6_bitCount_0f7a4 bl Q Y (24, lv, st, σ) = (mLdI Y 25 lv st σ 0) := mStep_d dJ6_bitCount_0f7a4_24
theorem vJ6_bitCount_0f7a4_25 : mStep h k cJ6_bitCount_0f7a4 bl Q Y (25, lv, st, σ) = (mLdI Y 26 lv st σ 0) := mStep_d dJ6_bitCount_0f7a4_25
theorem vJ6_bitCount_0f7a4_26 : mStep h k cJ6_bitCount_0f7a4 bl Q Y (26, lv, st, σ) = (Y (27, lv, .int (4) :: st, σ)) := by rw [mStep_d dJ6_bitCount_0f7a4_26, ← mx_c4]; rfl
theorem vJ6_bitCount_0f7a4_27 : mStep h k cJ6_bitCount_0f7a4 bl Q Y (27, lv, st, σ) = (mBin Y 28 lv st σ (fun x y => (x.toUInt32 >>> (y.toUInt32 &&& Int32.toUInt32 31)).toInt32)) := mStep_d dJ6_bitCount_0f7a4_27
theorem vJ6_bitCount_0f7a4_28 : mStep h k cJ6_bitCount_0f7a4 bl Q Y (28, lv, st, σ) = (mBin Y 29 lv st σ (fun x y => x + y)) := mStep_d dJ6_bitCount_0f7a4_28
theorem vJ6_bitCount_0f7a4_29 : mStep h k cJ6_bitCount_0f7a4 bl Q Y (29, lv, st, σ) = (mKon k Y 32 lv st σ 267) := mStep_d dJ6_bitCount_0f7a4_29
theorem vJ6_bitCount_0f7a4_32 : mStep h k cJ6_bitCount_0f7a4 bl Q Y (32, lv, st, σ) = (mBin Y 33 lv st σ (fun x y => x &&& y)) := mStep_d dJ6_bitCount_0f7a4_32
theorem vJ6_bitCount_0f7a4_33 : mStep h k cJ6_bitCount_0f7a4 bl Q Y (33, lv, st, σ) = (mStI Y 34 lv st σ 0) := mStep_d dJ6_bitCount_0f7a4_33
theorem vJ6_bitCount_0f7a4_34 : mStep h k cJ6_bitCount_0f7a4 bl Q Y (34, lv, st, σ) = (mLdI Y 35 lv st σ 0) := mStep_d dJ6_bitCount_0f7a4_34
theorem vJ6_bitCount_0f7a4_35 : mStep h k cJ6_bitCount_0f7a4 bl Q Y (35, lv, st, σ) = (mLdI Y 36 lv st σ 0) := mStep_d dJ6_bitCount_0f7a4_35
theorem vJ6_bitCount_0f7a4_36 : mStep h k cJ6_bitCount_0f7a4 bl Q Y (36, lv, st, σ) = (Y (38, lv, .int (8) :: st, σ)) := by rw [mStep_d dJ6_bitCount_0f7a4_36, ← mx_b8]; rfl
theorem vJ6_bitCount_0f7a4_38 : mStep h k cJ6_bitCount_0f7a4 bl Q Y (38, lv, st, σ) = (mBin Y 39 lv st σ (fun x y => (x.toUInt32 >>> (y.toUInt32 &&& Int32.toUInt32 31)).toInt32)) := mStep_d dJ6_bitCount_0f7a4_38
theorem vJ6_bitCount_0f7a4_39 : mStep h k cJ6_bitCount_0f7a4 bl Q Y (39, lv, st, σ) = (mBin Y 40 lv st σ (fun x y => x + y)) := mStep_d dJ6_bitCount_0f7a4_39
theorem vJ6_bitCount_0f7a4_40 : mStep h k cJ6_bitCount_0f7a4 bl Q Y (40, lv, st, σ) = (mStI Y 41 lv st σ 0) := mStep_d dJ6_bitCount_0f7a4_40
theorem vJ6_bitCount_0f7a4_41 : mStep h k cJ6_bitCount_0f7a4 bl Q Y (41, lv, st, σ) = (mLdI Y 42 lv st σ 0) := mStep_d dJ6_bitCount_0f7a4_41
theorem vJ6_bitCount_0f7a4_42 : mStep h k cJ6_bitCount_0f7a4 bl Q Y (42, lv, st, σ) = (mLdI Y 43 lv st σ 0) := mStep_d dJ6_bitCount_0f7a4_42
theorem vJ6_bitCount_0f7a4_43 : mStep h k cJ6_bitCount_0f7a4 bl Q Y (43, lv, st, σ) = (Y (45, lv, .int (16) :: st, σ)) := by rw [mStep_d dJ6_bitCount_0f7a4_43, ← mx_b16]; rfl
theorem vJ6_bitCount_0f7a4_45 : mStep h k cJ6_bitCount_0f7a4 bl Q Y (45, lv, st, σ) = (mBin Y 46 lv st σ (fun x y => (x.toUInt32 >>> (y.toUInt32 &&& Int32.toUInt32 31)).toInt32)) := mStep_d dJ6_bitCount_0f7a4_45
theorem vJ6_bitCount_0f7a4_46 : mStep h k cJ6_bitCount_0f7a4 bl Q Y (46, lv, st, σ) = (mBin Y 47 lv st σ (fun x y => x + y)) := mStep_d dJ6_bitCount_0f7a4_46
theorem vJ6_bitCount_0f7a4_47 : mStep h k cJ6_bitCount_0f7a4 bl Q Y (47, lv, st, σ) = (mStI Y 48 lv st σ 0) := mStep_d dJ6_bitCount_0f7a4_47
theorem vJ6_bitCount_0f7a4_48 : mStep h k cJ6_bitCount_0f7a4 bl Q Y (48, lv, st, σ) = (mLdI Y 49 lv st σ 0) := mStep_d dJ6_bitCount_0f7a4_48
theorem vJ6_bitCount_0f7a4_49 : mStep h k cJ6_bitCount_0f7a4 bl Q Y (49, lv, st, σ) = (Y (51, lv, .int (63) :: st, σ)) := by rw [mStep_d dJ6_bitCount_0f7a4_49, ← mx_b63]; rfl
theorem vJ6_bitCount_0f7a4_51 : mStep h k cJ6_bitCount_0f7a4 bl Q Y (51, lv, st, σ) = (mBin Y 52 lv st σ (fun x y => x &&& y)) := mStep_d dJ6_bitCount_0f7a4_51
theorem vJ6_bitCount_0f7a4_52 : mStep h k cJ6_bitCount_0f7a4 bl Q Y (52, lv, st, σ) = (mRetI bl Q st σ) := mStep_d dJ6_bitCount_0f7a4_52
theorem vJ9_max_7cf53_0 : mStep h k cJ9_max_7cf53 bl Q Y (0, lv, st, σ) = (mLdI Y 1 lv st σ 0) := mStep_d dJ9_max_7cf53_0
theorem vJ9_max_7cf53_1 : mStep h k cJ9_max_7cf53 bl Q Y (1, lv, st, σ) = (mLdI Y 2 lv st σ 1) := mStep_d dJ9_max_7cf53_1
theorem vJ9_max_7cf53_2 : mStep h k cJ9_max_7cf53 bl Q Y (2, lv, st, σ) = (mJ2 Y 9 5 lv st σ (fun x y => x < y)) := (mStep_d dJ9_max_7cf53_2).trans (mIf2_J jt_2_7 jp_2_7)
theorem vJ9_max_7cf53_5 : mStep h k cJ9_max_7cf53 bl Q Y (5, lv, st, σ) = (mLdI Y 6 lv st σ 0) := mStep_d dJ9_max_7cf53_5
theorem vJ9_max_7cf53_6 : mStep h k cJ9_max_7cf53 bl Q Y (6, lv, st, σ) = (Y (10, lv, st, σ)) := (mStep_d dJ9_max_7cf53_6).trans (mJ_J jt_6_4 jp_6_4)
theorem vJ9_max_7cf53_9 : mStep h k cJ9_max_7cf53 bl Q Y (9, lv, st, σ) = (mLdI Y 10 lv st σ 1) := mStep_d dJ9_max_7cf53_9
theorem vJ9_max_7cf53_10 : mStep h k cJ9_max_7cf53 bl Q Y (10, lv, st, σ) = (mRetI bl Q st σ) := mStep_d dJ9_max_7cf53_10
end MROWS
end
section
section MROWS
variable (h : mH) (k : mK) (bl : Nat) (Q : Int32 → mS → Prop) (Y : mT → Prop) (lv : List (Option Value)) (st : List Value) (σ : mS)
theorem vX1_isIn_0 : mStep h k cX1_isIn bl Q Y (0, lv, st, σ) = (mLdI Y 1 lv st σ 0) := mStep_d dX1_isIn_0
theorem vX1_isIn_1 : mStep h k cX1_isIn bl Q Y (1, lv, st, σ) = (mLdI Y 2 lv st σ 1) := mStep_d dX1_isIn_1
theorem vX1_isIn_2 : mStep h k cX1_isIn bl Q Y (2, lv, st, σ) = (mJ2 Y 14 5 lv st σ (fun x y => x < y)) := (mStep_d dX1_isIn_2).trans (mIf2_J jt_2_12 jp_2_12)
theorem vX1_isIn_5 : mStep h k cX1_isIn bl Q Y (5, lv, st, σ) = (mLdI Y 6 lv st σ 0) := mStep_d dX1_isIn_5
theorem vX1_isIn_6 : mStep h k cX1_isIn bl Q Y (6, lv, st, σ) = (mLdI Y 7 lv st σ 2) := mStep_d dX1_isIn_6
theorem vX1_isIn_7 : mStep h k cX1_isIn bl Q Y (7, lv, st, σ) = (mJ2 Y 14 10 lv st σ (fun x y => y < x)) := (mStep_d dX1_isIn_7).trans (mIf2_J jt_7_7 jp_7_7)
theorem vX1_isIn_10 : mStep h k cX1_isIn bl Q Y (10, lv, st, σ) = (Y (11, lv, .int (1) :: st, σ)) := by rw [mStep_d dX1_isIn_10, ← mx_c1]; rfl
theorem vX1_isIn_11 : mStep h k cX1_isIn bl Q Y (11, lv, st, σ) = (Y (15, lv, st, σ)) := (mStep_d dX1_isIn_11).trans (mJ_J jt_11_4 jp_11_4)
theorem vX1_isIn_14 : mStep h k cX1_isIn bl Q Y (14, lv, st, σ) = (Y (15, lv, .int (0) :: st, σ)) := by rw [mStep_d dX1_isIn_14, ← mx_c0]; rfl
theorem vX1_isIn_15 : mStep h k cX1_isIn bl Q Y (15, lv, st, σ) = (mRetI bl Q st σ) := mStep_d dX1_isIn_15
theorem vX1_isThing_0 : mStep h k cX1_isThing bl Q Y (0, lv, st, σ) = (mLdI Y 1 lv st σ 1) := mStep_d dX1_isThing_0
theorem vX1_isThing_1 : mStep h k cX1_isThing bl Q Y (1, lv, st, σ) = (Y (2, lv, .int (0) :: st, σ)) := by rw [mStep_d dX1_isThing_1, ← mx_c0]; rfl
theorem vX1_isThing_2 : mStep h k cX1_isThing bl Q Y (2, lv, st, σ) = (mLdA Y 3 lv st σ 0) := mStep_d dX1_isThing_2
theorem vX1_isThing_3 : mStep h k cX1_isThing bl Q Y (3, lv, st, σ) = (mGet h k Y 6 lv st σ 53) := mStep_d dX1_isThing_3
theorem vX1_isThing_6 : mStep h k cX1_isThing bl Q Y (6, lv, st, σ) = (Y (7, lv, .int (1) :: st, σ)) := by rw [mStep_d dX1_isThing_6, ← mx_c1]; rfl
theorem vX1_isThing_7 : mStep h k cX1_isThing bl Q Y (7, lv, st, σ) = (mBin Y 8 lv st σ (fun x y => x - y)) := mStep_d dX1_isThing_7
theorem vX1_isThing_8 : mStep h k cX1_isThing bl Q Y (8, lv, st, σ) = (mCaS k Y 11 lv st σ 56) := mStep_d dX1_isThing_8
theorem vX1_isThing_11 : mStep h k cX1_isThing bl Q Y (11, lv, st, σ) = (mRetI bl Q st σ) := mStep_d dX1_isThing_11
theorem vX1_isPerson_0 : mStep h k cX1_isPerson bl Q Y (0, lv, st, σ) = (mLdI Y 1 lv st σ 0) := mStep_d dX1_isPerson_0
theorem vX1_isPerson_1 : mStep h k cX1_isPerson bl Q Y (1, lv, st, σ) = (Y (2, lv, .int (0) :: st, σ)) := by rw [mStep_d dX1_isPerson_1, ← mx_c0]; rfl
theorem vX1_isPerson_2 : mStep h k cX1_isPerson bl Q Y (2, lv, st, σ) = (Y (4, lv, .int (7) :: st, σ)) := by rw [mStep_d dX1_isPerson_2, ← mx_b7]; rfl
theorem vX1_isPerson_4 : mStep h k cX1_isPerson bl Q Y (4, lv, st, σ) = (mCaS k Y 7 lv st σ 56) := mStep_d dX1_isPerson_4
theorem vX1_isPerson_7 : mStep h k cX1_isPerson bl Q Y (7, lv, st, σ) = (mRetI bl Q st σ) := mStep_d dX1_isPerson_7
theorem vX1_thing_0 : mStep h k cX1_thing bl Q Y (0, lv, st, σ) = (mLdI Y 1 lv st σ 1) := mStep_d dX1_thing_0
theorem vX1_thing_1 : mStep h k cX1_thing bl Q Y (1, lv, st, σ) = (Y (2, lv, .int (0) :: st, σ)) := by rw [mStep_d dX1_thing_1, ← mx_c0]; rfl
theorem vX1_thing_2 : mStep h k cX1_thing bl Q Y (2, lv, st, σ) = (Y (3, lv, .int (3) :: st, σ)) := by rw [mStep_d dX1_thing_2, ← mx_c3]; rfl
theorem vX1_thing_3 : mStep h k cX1_thing bl Q Y (3, lv, st, σ) = (mCaS k Y 6 lv st σ 56) := mStep_d dX1_thing_3
theorem vX1_thing_6 : mStep h k cX1_thing bl Q Y (6, lv, st, σ) = (mJ1 Y 18 9 lv st σ (fun x => x = 0)) := (mStep_d dX1_thing_6).trans (mIf1_J jt_6_12 jp_6_12)
theorem vX1_thing_9 : mStep h k cX1_thing bl Q Y (9, lv, st, σ) = (mLdA Y 10 lv st σ 0) := mStep_d dX1_thing_9
theorem vX1_thing_10 : mStep h k cX1_thing bl Q Y (10, lv, st, σ) = (mGet h k Y 13 lv st σ 53) := mStep_d dX1_thing_10
theorem vX1_thing_13 : mStep h k cX1_thing bl Q Y (13, lv, st, σ) = (Y (15, lv, .int (12) :: st, σ)) := by rw [mStep_d dX1_thing_13, ← mx_b12]; rfl
theorem vX1_thing_15 : mStep h k cX1_thing bl Q Y (15, lv, st, σ) = (mN2 Y 20 18 lv st σ) := (mStep_d dX1_thing_15).trans (mIfN2_J jt_15_5 jp_15_5)
theorem vX1_thing_18 : mStep h k cX1_thing bl Q Y (18, lv, st, σ) = (Y (19, lv, .int (-1) :: st, σ)) := by rw [mStep_d dX1_thing_18, ← mx_cm1]; rfl
theorem vX1_thing_19 : mStep h k cX1_thing bl Q Y (19, lv, st, σ) = (mRetI bl Q st σ) := mStep_d dX1_thing_19
theorem vX1_thing_20 : mStep h k cX1_thing bl Q Y (20, lv, st, σ) = (mLdA Y 21 lv st σ 0) := mStep_d dX1_thing_20
theorem vX1_thing_21 : mStep h k cX1_thing bl Q Y (21, lv, st, σ) = (mGet h k Y 24 lv st σ 22) := mStep_d dX1_thing_21
theorem vX1_thing_24 : mStep h k cX1_thing bl Q Y (24, lv, st, σ) = (mLdA Y 25 lv st σ 0) := mStep_d dX1_thing_24
theorem vX1_thing_25 : mStep h k cX1_thing bl Q Y (25, lv, st, σ) = (mGet h k Y 28 lv st σ 53) := mStep_d dX1_thing_25
theorem vX1_thing_28 : mStep h k cX1_thing bl Q Y (28, lv, st, σ) = (mLdI Y 29 lv st σ 1) := mStep_d dX1_thing_28
theorem vX1_thing_29 : mStep h k cX1_thing bl Q Y (29, lv, st, σ) = (mStE h Y 30 lv st σ) := mStep_d dX1_thing_29
theorem vX1_thing_30 : mStep h k cX1_thing bl Q Y (30, lv, st, σ) = (mLdA Y 31 lv st σ 0) := mStep_d dX1_thing_30
theorem vX1_thing_31 : mStep h k cX1_thing bl Q Y (31, lv, st, σ) = (mGet h k Y 34 lv st σ 26) := mStep_d dX1_thing_31
theorem vX1_thing_34 : mStep h k cX1_thing bl Q Y (34, lv, st, σ) = (mLdA Y 35 lv st σ 0) := mStep_d dX1_thing_34
theorem vX1_thing_35 : mStep h k cX1_thing bl Q Y (35, lv, st, σ) = (mGet h k Y 38 lv st σ 53) := mStep_d dX1_thing_35
theorem vX1_thing_38 : mStep h k cX1_thing bl Q Y (38, lv, st, σ) = (mLdA Y 39 lv st σ 0) := mStep_d dX1_thing_38
theorem vX1_thing_39 : mStep h k cX1_thing bl Q Y (39, lv, st, σ) = (mGet h k Y 42 lv st σ 60) := mStep_d dX1_thing_39
theorem vX1_thing_42 : mStep h k cX1_thing bl Q Y (42, lv, st, σ) = (mStE h Y 43 lv st σ) := mStep_d dX1_thing_42
theorem vX1_thing_43 : mStep h k cX1_thing bl Q Y (43, lv, st, σ) = (mLdA Y 44 lv st σ 0) := mStep_d dX1_thing_43
theorem vX1_thing_44 : mStep h k cX1_thing bl Q Y (44, lv, st, σ) = (mDup Y 45 lv st σ) := mStep_d dX1_thing_44
theorem vX1_thing_45 : mStep h k cX1_thing bl Q Y (45, lv, st, σ) = (mGet h k Y 48 lv st σ 63) := mStep_d dX1_thing_45
theorem vX1_thing_48 : mStep h k cX1_thing bl Q Y (48, lv, st, σ) = (Y (49, lv, .int (1) :: st, σ)) := by rw [mStep_d dX1_thing_48, ← mx_c1]; rfl
theorem vX1_thing_49 : mStep h k cX1_thing bl Q Y (49, lv, st, σ) = (mLdA Y 50 lv st σ 0) := mStep_d dX1_thing_49
theorem vX1_thing_50 : mStep h k cX1_thing bl Q Y (50, lv, st, σ) = (mGet h k Y 53 lv st σ 53) := mStep_d dX1_thing_50
theorem vX1_thing_53 : mStep h k cX1_thing bl Q Y (53, lv, st, σ) = (mBin Y 54 lv st σ (fun x y => x <<< (y &&& 31))) := mStep_d dX1_thing_53
theorem vX1_thing_54 : mStep h k cX1_thing bl Q Y (54, lv, st, σ) = (mBin Y 55 lv st σ (fun x y => x ||| y)) := mStep_d dX1_thing_54
theorem vX1_thing_55 : mStep h k cX1_thing bl Q Y (55, lv, st, σ) = (mPut h k Y 58 lv st σ 63) := mStep_d dX1_thing_55
theorem vX1_thing_58 : mStep h k cX1_thing bl Q Y (58, lv, st, σ) = (mLdA Y 59 lv st σ 0) := mStep_d dX1_thing_58
theorem vX1_thing_59 : mStep h k cX1_thing bl Q Y (59, lv, st, σ) = (mDup Y 60 lv st σ) := mStep_d dX1_thing_59
theorem vX1_thing_60 : mStep h k cX1_thing bl Q Y (60, lv, st, σ) = (mGet h k Y 63 lv st σ 53) := mStep_d dX1_thing_60
theorem vX1_thing_63 : mStep h k cX1_thing bl Q Y (63, lv, st, σ) = (Y (64, lv, .int (1) :: st, σ)) := by rw [mStep_d dX1_thing_63, ← mx_c1]; rfl
theorem vX1_thing_64 : mStep h k cX1_thing bl Q Y (64, lv, st, σ) = (mBin Y 65 lv st σ (fun x y => x + y)) := mStep_d dX1_thing_64
theorem vX1_thing_65 : mStep h k cX1_thing bl Q Y (65, lv, st, σ) = (mPut h k Y 68 lv st σ 53) := mStep_d dX1_thing_65
theorem vX1_thing_68 : mStep h k cX1_thing bl Q Y (68, lv, st, σ) = (mLdA Y 69 lv st σ 0) := mStep_d dX1_thing_68
theorem vX1_thing_69 : mStep h k cX1_thing bl Q Y (69, lv, st, σ) = (mGet h k Y 72 lv st σ 53) := mStep_d dX1_thing_69
theorem vX1_thing_72 : mStep h k cX1_thing bl Q Y (72, lv, st, σ) = (Y (73, lv, .int (1) :: st, σ)) := by rw [mStep_d dX1_thing_72, ← mx_c1]; rfl
theorem vX1_thing_73 : mStep h k cX1_thing bl Q Y (73, lv, st, σ) = (mBin Y 74 lv st σ (fun x y => x - y)) := mStep_d dX1_thing_73
theorem vX1_thing_74 : mStep h k cX1_thing bl Q Y (74, lv, st, σ) = (mRetI bl Q st σ) := mStep_d dX1_thing_74
theorem vX1_stock_0 : mStep h k cX1_stock bl Q Y (0, lv, st, σ) = (mLdA Y 1 lv st σ 0) := mStep_d dX1_stock_0
theorem vX1_stock_1 : mStep h k cX1_stock bl Q Y (1, lv, st, σ) = (mLdI Y 2 lv st σ 1) := mStep_d dX1_stock_1
theorem vX1_stock_2 : mStep h k cX1_stock bl Q Y (2, lv, st, σ) = (mCaV k Y 5 lv st σ 66) := mStep_d dX1_stock_2
theorem vX1_stock_5 : mStep h k cX1_stock bl Q Y (5, lv, st, σ) = (mJ1 Y 29 8 lv st σ (fun x => x = 0)) := (mStep_d dX1_stock_5).trans (mIf1_J jt_5_24 jp_5_24)
theorem vX1_stock_8 : mStep h k cX1_stock bl Q Y (8, lv, st, σ) = (mLdA Y 9 lv st σ 0) := mStep_d dX1_stock_8
theorem vX1_stock_9 : mStep h k cX1_stock bl Q Y (9, lv, st, σ) = (mGet h k Y 12 lv st σ 63) := mStep_d dX1_stock_9
theorem vX1_stock_12 : mStep h k cX1_stock bl Q Y (12, lv, st, σ) = (mLdI Y 13 lv st σ 1) := mStep_d dX1_stock_12
theorem vX1_stock_13 : mStep h k cX1_stock bl Q Y (13, lv, st, σ) = (mBin Y 14 lv st σ (fun x y => x >>> (y &&& 31))) := mStep_d dX1_stock_13
theorem vX1_stock_14 : mStep h k cX1_stock bl Q Y (14, lv, st, σ) = (Y (15, lv, .int (1) :: st, σ)) := by rw [mStep_d dX1_stock_14, ← mx_c1]; rfl
theorem vX1_stock_15 : mStep h k cX1_stock bl Q Y (15, lv, st, σ) = (mBin Y 16 lv st σ (fun x y => x &&& y)) := mStep_d dX1_stock_15
theorem vX1_stock_16 : mStep h k cX1_stock bl Q Y (16, lv, st, σ) = (Y (17, lv, .int (1) :: st, σ)) := by rw [mStep_d dX1_stock_16, ← mx_c1]; rfl
theorem vX1_stock_17 : mStep h k cX1_stock bl Q Y (17, lv, st, σ) = (mN2 Y 24 20 lv st σ) := (mStep_d dX1_stock_17).trans (mIfN2_J jt_17_7 jp_17_7)
theorem vX1_stock_20 : mStep h k cX1_stock bl Q Y (20, lv, st, σ) = (Y (21, lv, .int (1) :: st, σ)) := by rw [mStep_d dX1_stock_20, ← mx_c1]; rfl
theorem vX1_stock_21 : mStep h k cX1_stock bl Q Y (21, lv, st, σ) = (Y (25, lv, st, σ)) := (mStep_d dX1_stock_21).trans (mJ_J jt_21_4 jp_21_4)
theorem vX1_stock_24 : mStep h k cX1_stock bl Q Y (24, lv, st, σ) = (Y (25, lv, .int (0) :: st, σ)) := by rw [mStep_d dX1_stock_24, ← mx_c0]; rfl
theorem vX1_stock_25 : mStep h k cX1_stock bl Q Y (25, lv, st, σ) = (mLdI Y 26 lv st σ 2) := mStep_d dX1_stock_25
theorem vX1_stock_26 : mStep h k cX1_stock bl Q Y (26, lv, st, σ) = (mN2 Y 31 29 lv st σ) := (mStep_d dX1_stock_26).trans (mIfN2_J jt_26_5 jp_26_5)
theorem vX1_stock_29 : mStep h k cX1_stock bl Q Y (29, lv, st, σ) = (Y (30, lv, .int (0) :: st, σ)) := by rw [mStep_d dX1_stock_29, ← mx_c0]; rfl
theorem vX1_stock_30 : mStep h k cX1_stock bl Q Y (30, lv, st, σ) = (mRetI bl Q st σ) := mStep_d dX1_stock_30
theorem vX1_stock_31 : mStep h k cX1_stock bl Q Y (31, lv, st, σ) = (mLdA Y 32 lv st σ 0) := mStep_d dX1_stock_31
theorem vX1_stock_32 : mStep h k cX1_stock bl Q Y (32, lv, st, σ) = (mDup Y 33 lv st σ) := mStep_d dX1_stock_32
theorem vX1_stock_33 : mStep h k cX1_stock bl Q Y (33, lv, st, σ) = (mGet h k Y 36 lv st σ 63) := mStep_d dX1_stock_33
theorem vX1_stock_36 : mStep h k cX1_stock bl Q Y (36, lv, st, σ) = (Y (37, lv, .int (1) :: st, σ)) := by rw [mStep_d dX1_stock_36, ← mx_c1]; rfl
theorem vX1_stock_37 : mStep h k cX1_stock bl Q Y (37, lv, st, σ) = (mLdI Y 38 lv st σ 1) := mStep_d dX1_stock_37
theorem vX1_stock_38 : mStep h k cX1_stock bl Q Y (38, lv, st, σ) = (mBin Y 39 lv st σ (fun x y => x <<< (y &&& 31))) := mStep_d dX1_stock_38
theorem vX1_stock_39 : mStep h k cX1_stock bl Q Y (39, lv, st, σ) = (mBin Y 40 lv st σ (fun x y => x ^^^ y)) := mStep_d dX1_stock_39
theorem vX1_stock_40 : mStep h k cX1_stock bl Q Y (40, lv, st, σ) = (mPut h k Y 43 lv st σ 63) := mStep_d dX1_stock_40
theorem vX1_stock_43 : mStep h k cX1_stock bl Q Y (43, lv, st, σ) = (Y (44, lv, .int (1) :: st, σ)) := by rw [mStep_d dX1_stock_43, ← mx_c1]; rfl
theorem vX1_stock_44 : mStep h k cX1_stock bl Q Y (44, lv, st, σ) = (mRetI bl Q st σ) := mStep_d dX1_stock_44
theorem vX1_set_0 : mStep h k cX1_set bl Q Y (0, lv, st, σ) = (mLdI Y 1 lv st σ 1) := mStep_d dX1_set_0
theorem vX1_set_1 : mStep h k cX1_set bl Q Y (1, lv, st, σ) = (Y (2, lv, .int (0) :: st, σ)) := by rw [mStep_d dX1_set_1, ← mx_c0]; rfl
theorem vX1_set_2 : mStep h k cX1_set bl Q Y (2, lv, st, σ) = (Y (3, lv, .int (3) :: st, σ)) := by rw [mStep_d dX1_set_2, ← mx_c3]; rfl
theorem vX1_set_3 : mStep h k cX1_set bl Q Y (3, lv, st, σ) = (mCaS k Y 6 lv st σ 56) := mStep_d dX1_set_3
theorem vX1_set_6 : mStep h k cX1_set bl Q Y (6, lv, st, σ) = (mJ1 Y 36 9 lv st σ (fun x => x = 0)) := (mStep_d dX1_set_6).trans (mIf1_J jt_6_30 jp_6_30)
theorem vX1_set_9 : mStep h k cX1_set bl Q Y (9, lv, st, σ) = (mLdI Y 10 lv st σ 2) := mStep_d dX1_set_9
theorem vX1_set_10 : mStep h k cX1_set bl Q Y (10, lv, st, σ) = (Y (11, lv, .int (1) :: st, σ)) := by rw [mStep_d dX1_set_10, ← mx_c1]; rfl
theorem vX1_set_11 : mStep h k cX1_set bl Q Y (11, lv, st, σ) = (mLdI Y 12 lv st σ 1) := mStep_d dX1_set_11
theorem vX1_set_12 : mStep h k cX1_set bl Q Y (12, lv, st, σ) = (mN1 Y 19 15 lv st σ) := (mStep_d dX1_set_12).trans (mIfN1_J jt_12_7 jp_12_7)
theorem vX1_set_15 : mStep h k cX1_set bl Q Y (15, lv, st, σ) = (Y (16, lv, .int (4) :: st, σ)) := by rw [mStep_d dX1_set_15, ← mx_c4]; rfl
theorem vX1_set_16 : mStep h k cX1_set bl Q Y (16, lv, st, σ) = (Y (30, lv, st, σ)) := (mStep_d dX1_set_16).trans (mJ_J jt_16_14 jp_16_14)
theorem vX1_set_19 : mStep h k cX1_set bl Q Y (19, lv, st, σ) = (mLdI Y 20 lv st σ 1) := mStep_d dX1_set_19
theorem vX1_set_20 : mStep h k cX1_set bl Q Y (20, lv, st, σ) = (Y (21, lv, .int (1) :: st, σ)) := by rw [mStep_d dX1_set_20, ← mx_c1]; rfl
theorem vX1_set_21 : mStep h k cX1_set bl Q Y (21, lv, st, σ) = (mN2 Y 28 24 lv st σ) := (mStep_d dX1_set_21).trans (mIfN2_J jt_21_7 jp_21_7)
theorem vX1_set_24 : mStep h k cX1_set bl Q Y (24, lv, st, σ) = (Y (25, lv, .int (5) :: st, σ)) := by rw [mStep_d dX1_set_24, ← mx_c5]; rfl
theorem vX1_set_25 : mStep h k cX1_set bl Q Y (25, lv, st, σ) = (Y (30, lv, st, σ)) := (mStep_d dX1_set_25).trans (mJ_J jt_25_5 jp_25_5)
theorem vX1_set_28 : mStep h k cX1_set bl Q Y (28, lv, st, σ) = (Y (30, lv, .int (9) :: st, σ)) := by rw [mStep_d dX1_set_28, ← mx_b9]; rfl
theorem vX1_set_30 : mStep h k cX1_set bl Q Y (30, lv, st, σ) = (mCaS k Y 33 lv st σ 56) := mStep_d dX1_set_30
theorem vX1_set_33 : mStep h k cX1_set bl Q Y (33, lv, st, σ) = (mN1 Y 38 36 lv st σ) := (mStep_d dX1_set_33).trans (mIfN1_J jt_33_5 jp_33_5)
theorem vX1_set_36 : mStep h k cX1_set bl Q Y (36, lv, st, σ) = (Y (37, lv, .int (0) :: st, σ)) := by rw [mStep_d dX1_set_36, ← mx_c0]; rfl
theorem vX1_set_37 : mStep h k cX1_set bl Q Y (37, lv, st, σ) = (mRetI bl Q st σ) := mStep_d dX1_set_37
theorem vX1_set_38 : mStep h k cX1_set bl Q Y (38, lv, st, σ) = (mLdI Y 39 lv st σ 1) := mStep_d dX1_set_38
theorem vX1_set_39 : mStep h k cX1_set bl Q Y (39, lv, st, σ) = (mN1 Y 50 42 lv st σ) := (mStep_d dX1_set_39).trans (mIfN1_J jt_39_11 jp_39_11)
theorem vX1_set_42 : mStep h k cX1_set bl Q Y (42, lv, st, σ) = (mLdA Y 43 lv st σ 0) := mStep_d dX1_set_42
theorem vX1_set_43 : mStep h k cX1_set bl Q Y (43, lv, st, σ) = (mLdI Y 44 lv st σ 2) := mStep_d dX1_set_43
theorem vX1_set_44 : mStep h k cX1_set bl Q Y (44, lv, st, σ) = (mPut h k Y 47 lv st σ 7) := mStep_d dX1_set_44
theorem vX1_set_47 : mStep h k cX1_set bl Q Y (47, lv, st, σ) = (Y (81, lv, st, σ)) := (mStep_d dX1_set_47).trans (mJ_J jt_47_34 jp_47_34)
theorem vX1_set_50 : mStep h k cX1_set bl Q Y (50, lv, st, σ) = (mLdI Y 51 lv st σ 1) := mStep_d dX1_set_50
theorem vX1_set_51 : mStep h k cX1_set bl Q Y (51, lv, st, σ) = (Y (52, lv, .int (1) :: st, σ)) := by rw [mStep_d dX1_set_51, ← mx_c1]; rfl
theorem vX1_set_52 : mStep h k cX1_set bl Q Y (52, lv, st, σ) = (mN2 Y 63 55 lv st σ) := (mStep_d dX1_set_52).trans (mIfN2_J jt_52_11 jp_52_11)
theorem vX1_set_55 : mStep h k cX1_set bl Q Y (55, lv, st, σ) = (mLdA Y 56 lv st σ 0) := mStep_d dX1_set_55
theorem vX1_set_56 : mStep h k cX1_set bl Q Y (56, lv, st, σ) = (mLdI Y 57 lv st σ 2) := mStep_d dX1_set_56
theorem vX1_set_57 : mStep h k cX1_set bl Q Y (57, lv, st, σ) = (mPut h k Y 60 lv st σ 13) := mStep_d dX1_set_57
theorem vX1_set_60 : mStep h k cX1_set bl Q Y (60, lv, st, σ) = (Y (81, lv, st, σ)) := (mStep_d dX1_set_60).trans (mJ_J jt_60_21 jp_60_21)
theorem vX1_set_63 : mStep h k cX1_set bl Q Y (63, lv, st, σ) = (mLdI Y 64 lv st σ 1) := mStep_d dX1_set_63
theorem vX1_set_64 : mStep h k cX1_set bl Q Y (64, lv, st, σ) = (Y (65, lv, .int (2) :: st, σ)) := by rw [mStep_d dX1_set_64, ← mx_c2]; rfl
theorem vX1_set_65 : mStep h k cX1_set bl Q Y (65, lv, st, σ) = (mN2 Y 76 68 lv st σ) := (mStep_d dX1_set_65).trans (mIfN2_J jt_65_11 jp_65_11)
theorem vX1_set_68 : mStep h k cX1_set bl Q Y (68, lv, st, σ) = (mLdA Y 69 lv st σ 0) := mStep_d dX1_set_68
theorem vX1_set_69 : mStep h k cX1_set bl Q Y (69, lv, st, σ) = (mLdI Y 70 lv st σ 2) := mStep_d dX1_set_69
theorem vX1_set_70 : mStep h k cX1_set bl Q Y (70, lv, st, σ) = (mPut h k Y 73 lv st σ 16) := mStep_d dX1_set_70
theorem vX1_set_73 : mStep h k cX1_set bl Q Y (73, lv, st, σ) = (Y (81, lv, st, σ)) := (mStep_d dX1_set_73).trans (mJ_J jt_73_8 jp_73_8)
theorem vX1_set_76 : mStep h k cX1_set bl Q Y (76, lv, st, σ) = (mLdA Y 77 lv st σ 0) := mStep_d dX1_set_76
theorem vX1_set_77 : mStep h k cX1_set bl Q Y (77, lv, st, σ) = (mLdI Y 78 lv st σ 2) := mStep_d dX1_set_77
theorem vX1_set_78 : mStep h k cX1_set bl Q Y (78, lv, st, σ) = (mPut h k Y 81 lv st σ 19) := mStep_d dX1_set_78
theorem vX1_set_81 : mStep h k cX1_set bl Q Y (81, lv, st, σ) = (Y (82, lv, .int (1) :: st, σ)) := by rw [mStep_d dX1_set_81, ← mx_c1]; rfl
theorem vX1_set_82 : mStep h k cX1_set bl Q Y (82, lv, st, σ) = (mRetI bl Q st σ) := mStep_d dX1_set_82
theorem vX1_apart_0 : mStep h k cX1_apart bl Q Y (0, lv, st, σ) = (mLdA Y 1 lv st σ 0) := mStep_d dX1_apart_0
theorem vX1_apart_1 : mStep h k cX1_apart bl Q Y (1, lv, st, σ) = (mLdI Y 2 lv st σ 1) := mStep_d dX1_apart_1
theorem vX1_apart_2 : mStep h k cX1_apart bl Q Y (2, lv, st, σ) = (mCaV k Y 5 lv st σ 66) := mStep_d dX1_apart_2
theorem vX1_apart_5 : mStep h k cX1_apart bl Q Y (5, lv, st, σ) = (mJ1 Y 44 8 lv st σ (fun x => x = 0)) := (mStep_d dX1_apart_5).trans (mIf1_J jt_5_39 jp_5_39)
theorem vX1_apart_8 : mStep h k cX1_apart bl Q Y (8, lv, st, σ) = (mLdA Y 9 lv st σ 0) := mStep_d dX1_apart_8
theorem vX1_apart_9 : mStep h k cX1_apart bl Q Y (9, lv, st, σ) = (mLdI Y 10 lv st σ 2) := mStep_d dX1_apart_9
theorem vX1_apart_10 : mStep h k cX1_apart bl Q Y (10, lv, st, σ) = (mCaV k Y 13 lv st σ 66) := mStep_d dX1_apart_10
theorem vX1_apart_13 : mStep h k cX1_apart bl Q Y (13, lv, st, σ) = (mJ1 Y 44 16 lv st σ (fun x => x = 0)) := (mStep_d dX1_apart_13).trans (mIf1_J jt_13_31 jp_13_31)
theorem vX1_apart_16 : mStep h k cX1_apart bl Q Y (16, lv, st, σ) = (mLdI Y 17 lv st σ 1) := mStep_d dX1_apart_16
theorem vX1_apart_17 : mStep h k cX1_apart bl Q Y (17, lv, st, σ) = (mLdI Y 18 lv st σ 2) := mStep_d dX1_apart_17
theorem vX1_apart_18 : mStep h k cX1_apart bl Q Y (18, lv, st, σ) = (mJ2 Y 44 21 lv st σ (fun x y => x = y)) := (mStep_d dX1_apart_18).trans (mIf2_J jt_18_26 jp_18_26)
theorem vX1_apart_21 : mStep h k cX1_apart bl Q Y (21, lv, st, σ) = (mLdA Y 22 lv st σ 0) := mStep_d dX1_apart_21
theorem vX1_apart_22 : mStep h k cX1_apart bl Q Y (22, lv, st, σ) = (mGet h k Y 25 lv st σ 29) := mStep_d dX1_apart_22
theorem vX1_apart_25 : mStep h k cX1_apart bl Q Y (25, lv, st, σ) = (mLdI Y 26 lv st σ 1) := mStep_d dX1_apart_25
theorem vX1_apart_26 : mStep h k cX1_apart bl Q Y (26, lv, st, σ) = (mLdE h Y 27 lv st σ) := mStep_d dX1_apart_26
theorem vX1_apart_27 : mStep h k cX1_apart bl Q Y (27, lv, st, σ) = (mLdI Y 28 lv st σ 2) := mStep_d dX1_apart_27
theorem vX1_apart_28 : mStep h k cX1_apart bl Q Y (28, lv, st, σ) = (mBin Y 29 lv st σ (fun x y => x >>> (y &&& 31))) := mStep_d dX1_apart_28
theorem vX1_apart_29 : mStep h k cX1_apart bl Q Y (29, lv, st, σ) = (Y (30, lv, .int (1) :: st, σ)) := by rw [mStep_d dX1_apart_29, ← mx_c1]; rfl
theorem vX1_apart_30 : mStep h k cX1_apart bl Q Y (30, lv, st, σ) = (mBin Y 31 lv st σ (fun x y => x &&& y)) := mStep_d dX1_apart_30
theorem vX1_apart_31 : mStep h k cX1_apart bl Q Y (31, lv, st, σ) = (Y (32, lv, .int (1) :: st, σ)) := by rw [mStep_d dX1_apart_31, ← mx_c1]; rfl
theorem vX1_apart_32 : mStep h k cX1_apart bl Q Y (32, lv, st, σ) = (mN2 Y 39 35 lv st σ) := (mStep_d dX1_apart_32).trans (mIfN2_J jt_32_7 jp_32_7)
theorem vX1_apart_35 : mStep h k cX1_apart bl Q Y (35, lv, st, σ) = (Y (36, lv, .int (1) :: st, σ)) := by rw [mStep_d dX1_apart_35, ← mx_c1]; rfl
theorem vX1_apart_36 : mStep h k cX1_apart bl Q Y (36, lv, st, σ) = (Y (40, lv, st, σ)) := (mStep_d dX1_apart_36).trans (mJ_J jt_36_4 jp_36_4)
theorem vX1_apart_39 : mStep h k cX1_apart bl Q Y (39, lv, st, σ) = (Y (40, lv, .int (0) :: st, σ)) := by rw [mStep_d dX1_apart_39, ← mx_c0]; rfl
theorem vX1_apart_40 : mStep h k cX1_apart bl Q Y (40, lv, st, σ) = (mLdI Y 41 lv st σ 3) := mStep_d dX1_apart_40
theorem vX1_apart_41 : mStep h k cX1_apart bl Q Y (41, lv, st, σ) = (mN2 Y 46 44 lv st σ) := (mStep_d dX1_apart_41).trans (mIfN2_J jt_41_5 jp_41_5)
theorem vX1_apart_44 : mStep h k cX1_apart bl Q Y (44, lv, st, σ) = (Y (45, lv, .int (0) :: st, σ)) := by rw [mStep_d dX1_apart_44, ← mx_c0]; rfl
theorem vX1_apart_45 : mStep h k cX1_apart bl Q Y (45, lv, st, σ) = (mRetI bl Q st σ) := mStep_d dX1_apart_45
theorem vX1_apart_46 : mStep h k cX1_apart bl Q Y (46, lv, st, σ) = (mLdA Y 47 lv st σ 0) := mStep_d dX1_apart_46
theorem vX1_apart_47 : mStep h k cX1_apart bl Q Y (47, lv, st, σ) = (mGet h k Y 50 lv st σ 29) := mStep_d dX1_apart_47
theorem vX1_apart_50 : mStep h k cX1_apart bl Q Y (50, lv, st, σ) = (mLdI Y 51 lv st σ 1) := mStep_d dX1_apart_50
theorem vX1_apart_51 : mStep h k cX1_apart bl Q Y (51, lv, st, σ) = (mDup2 Y 52 lv st σ) := mStep_d dX1_apart_51
theorem vX1_apart_52 : mStep h k cX1_apart bl Q Y (52, lv, st, σ) = (mLdE h Y 53 lv st σ) := mStep_d dX1_apart_52
theorem vX1_apart_53 : mStep h k cX1_apart bl Q Y (53, lv, st, σ) = (Y (54, lv, .int (1) :: st, σ)) := by rw [mStep_d dX1_apart_53, ← mx_c1]; rfl
theorem vX1_apart_54 : mStep h k cX1_apart bl Q Y (54, lv, st, σ) = (mLdI Y 55 lv st σ 2) := mStep_d dX1_apart_54
theorem vX1_apart_55 : mStep h k cX1_apart bl Q Y (55, lv, st, σ) = (mBin Y 56 lv st σ (fun x y => x <<< (y &&& 31))) := mStep_d dX1_apart_55
theorem vX1_apart_56 : mStep h k cX1_apart bl Q Y (56, lv, st, σ) = (mBin Y 57 lv st σ (fun x y => x ^^^ y)) := mStep_d dX1_apart_56
theorem vX1_apart_57 : mStep h k cX1_apart bl Q Y (57, lv, st, σ) = (mStE h Y 58 lv st σ) := mStep_d dX1_apart_57
theorem vX1_apart_58 : mStep h k cX1_apart bl Q Y (58, lv, st, σ) = (mLdA Y 59 lv st σ 0) := mStep_d dX1_apart_58
theorem vX1_apart_59 : mStep h k cX1_apart bl Q Y (59, lv, st, σ) = (mGet h k Y 62 lv st σ 29) := mStep_d dX1_apart_59
theorem vX1_apart_62 : mStep h k cX1_apart bl Q Y (62, lv, st, σ) = (mLdI Y 63 lv st σ 2) := mStep_d dX1_apart_62
theorem vX1_apart_63 : mStep h k cX1_apart bl Q Y (63, lv, st, σ) = (mDup2 Y 64 lv st σ) := mStep_d dX1_apart_63
theorem vX1_apart_64 : mStep h k cX1_apart bl Q Y (64, lv, st, σ) = (mLdE h Y 65 lv st σ) := mStep_d dX1_apart_64
theorem vX1_apart_65 : mStep h k cX1_apart bl Q Y (65, lv, st, σ) = (Y (66, lv, .int (1) :: st, σ)) := by rw [mStep_d dX1_apart_65, ← mx_c1]; rfl
theorem vX1_apart_66 : mStep h k cX1_apart bl Q Y (66, lv, st, σ) = (mLdI Y 67 lv st σ 1) := mStep_d dX1_apart_66
theorem vX1_apart_67 : mStep h k cX1_apart bl Q Y (67, lv, st, σ) = (mBin Y 68 lv st σ (fun x y => x <<< (y &&& 31))) := mStep_d dX1_apart_67
theorem vX1_apart_68 : mStep h k cX1_apart bl Q Y (68, lv, st, σ) = (mBin Y 69 lv st σ (fun x y => x ^^^ y)) := mStep_d dX1_apart_68
theorem vX1_apart_69 : mStep h k cX1_apart bl Q Y (69, lv, st, σ) = (mStE h Y 70 lv st σ) := mStep_d dX1_apart_69
theorem vX1_apart_70 : mStep h k cX1_apart bl Q Y (70, lv, st, σ) = (Y (71, lv, .int (1) :: st, σ)) := by rw [mStep_d dX1_apart_70, ← mx_c1]; rfl
theorem vX1_apart_71 : mStep h k cX1_apart bl Q Y (71, lv, st, σ) = (mRetI bl Q st σ) := mStep_d dX1_apart_71
theorem vX1_basket_0 : mStep h k cX1_basket bl Q Y (0, lv, st, σ) = (mLdI Y 1 lv st σ 1) := mStep_d dX1_basket_0
theorem vX1_basket_1 : mStep h k cX1_basket bl Q Y (1, lv, st, σ) = (mCaS k Y 4 lv st σ 70) := mStep_d dX1_basket_1
theorem vX1_basket_4 : mStep h k cX1_basket bl Q Y (4, lv, st, σ) = (mJ1 Y 32 7 lv st σ (fun x => x = 0)) := (mStep_d dX1_basket_4).trans (mIf1_J jt_4_28 jp_4_28)
theorem vX1_basket_7 : mStep h k cX1_basket bl Q Y (7, lv, st, σ) = (mLdI Y 8 lv st σ 2) := mStep_d dX1_basket_7
theorem vX1_basket_8 : mStep h k cX1_basket bl Q Y (8, lv, st, σ) = (Y (9, lv, .int (1) :: st, σ)) := by rw [mStep_d dX1_basket_8, ← mx_c1]; rfl
theorem vX1_basket_9 : mStep h k cX1_basket bl Q Y (9, lv, st, σ) = (Y (10, lv, .int (1) :: st, σ)) := by rw [mStep_d dX1_basket_9, ← mx_c1]; rfl
theorem vX1_basket_10 : mStep h k cX1_basket bl Q Y (10, lv, st, σ) = (mLdA Y 11 lv st σ 0) := mStep_d dX1_basket_10
theorem vX1_basket_11 : mStep h k cX1_basket bl Q Y (11, lv, st, σ) = (mGet h k Y 14 lv st σ 53) := mStep_d dX1_basket_11
theorem vX1_basket_14 : mStep h k cX1_basket bl Q Y (14, lv, st, σ) = (mBin Y 15 lv st σ (fun x y => x <<< (y &&& 31))) := mStep_d dX1_basket_14
theorem vX1_basket_15 : mStep h k cX1_basket bl Q Y (15, lv, st, σ) = (Y (16, lv, .int (1) :: st, σ)) := by rw [mStep_d dX1_basket_15, ← mx_c1]; rfl
theorem vX1_basket_16 : mStep h k cX1_basket bl Q Y (16, lv, st, σ) = (mBin Y 17 lv st σ (fun x y => x - y)) := mStep_d dX1_basket_16
theorem vX1_basket_17 : mStep h k cX1_basket bl Q Y (17, lv, st, σ) = (mCaS k Y 20 lv st σ 56) := mStep_d dX1_basket_17
theorem vX1_basket_20 : mStep h k cX1_basket bl Q Y (20, lv, st, σ) = (mJ1 Y 32 23 lv st σ (fun x => x = 0)) := (mStep_d dX1_basket_20).trans (mIf1_J jt_20_12 jp_20_12)
theorem vX1_basket_23 : mStep h k cX1_basket bl Q Y (23, lv, st, σ) = (mLdA Y 24 lv st σ 0) := mStep_d dX1_basket_23
theorem vX1_basket_24 : mStep h k cX1_basket bl Q Y (24, lv, st, σ) = (mGet h k Y 27 lv st σ 73) := mStep_d dX1_basket_24
theorem vX1_basket_27 : mStep h k cX1_basket bl Q Y (27, lv, st, σ) = (Y (29, lv, .int (60) :: st, σ)) := by rw [mStep_d dX1_basket_27, ← mx_b60]; rfl
theorem vX1_basket_29 : mStep h k cX1_basket bl Q Y (29, lv, st, σ) = (mN2 Y 34 32 lv st σ) := (mStep_d dX1_basket_29).trans (mIfN2_J jt_29_5 jp_29_5)
theorem vX1_basket_32 : mStep h k cX1_basket bl Q Y (32, lv, st, σ) = (Y (33, lv, .int (-1) :: st, σ)) := by rw [mStep_d dX1_basket_32, ← mx_cm1]; rfl
theorem vX1_basket_33 : mStep h k cX1_basket bl Q Y (33, lv, st, σ) = (mRetI bl Q st σ) := mStep_d dX1_basket_33
theorem vX1_basket_34 : mStep h k cX1_basket bl Q Y (34, lv, st, σ) = (mLdA Y 35 lv st σ 0) := mStep_d dX1_basket_34
theorem vX1_basket_35 : mStep h k cX1_basket bl Q Y (35, lv, st, σ) = (mGet h k Y 38 lv st σ 32) := mStep_d dX1_basket_35
theorem vX1_basket_38 : mStep h k cX1_basket bl Q Y (38, lv, st, σ) = (mLdA Y 39 lv st σ 0) := mStep_d dX1_basket_38
theorem vX1_basket_39 : mStep h k cX1_basket bl Q Y (39, lv, st, σ) = (mGet h k Y 42 lv st σ 73) := mStep_d dX1_basket_39
theorem vX1_basket_42 : mStep h k cX1_basket bl Q Y (42, lv, st, σ) = (mLdI Y 43 lv st σ 1) := mStep_d dX1_basket_42
theorem vX1_basket_43 : mStep h k cX1_basket bl Q Y (43, lv, st, σ) = (mStE h Y 44 lv st σ) := mStep_d dX1_basket_43
theorem vX1_basket_44 : mStep h k cX1_basket bl Q Y (44, lv, st, σ) = (mLdA Y 45 lv st σ 0) := mStep_d dX1_basket_44
theorem vX1_basket_45 : mStep h k cX1_basket bl Q Y (45, lv, st, σ) = (mGet h k Y 48 lv st σ 35) := mStep_d dX1_basket_45
theorem vX1_basket_48 : mStep h k cX1_basket bl Q Y (48, lv, st, σ) = (mLdA Y 49 lv st σ 0) := mStep_d dX1_basket_48
theorem vX1_basket_49 : mStep h k cX1_basket bl Q Y (49, lv, st, σ) = (mGet h k Y 52 lv st σ 73) := mStep_d dX1_basket_49
theorem vX1_basket_52 : mStep h k cX1_basket bl Q Y (52, lv, st, σ) = (mLdA Y 53 lv st σ 0) := mStep_d dX1_basket_52
theorem vX1_basket_53 : mStep h k cX1_basket bl Q Y (53, lv, st, σ) = (mGet h k Y 56 lv st σ 60) := mStep_d dX1_basket_53
theorem vX1_basket_56 : mStep h k cX1_basket bl Q Y (56, lv, st, σ) = (mStE h Y 57 lv st σ) := mStep_d dX1_basket_56
theorem vX1_basket_57 : mStep h k cX1_basket bl Q Y (57, lv, st, σ) = (mLdA Y 58 lv st σ 0) := mStep_d dX1_basket_57
theorem vX1_basket_58 : mStep h k cX1_basket bl Q Y (58, lv, st, σ) = (mGet h k Y 61 lv st σ 38) := mStep_d dX1_basket_58
theorem vX1_basket_61 : mStep h k cX1_basket bl Q Y (61, lv, st, σ) = (mLdA Y 62 lv st σ 0) := mStep_d dX1_basket_61
theorem vX1_basket_62 : mStep h k cX1_basket bl Q Y (62, lv, st, σ) = (mGet h k Y 65 lv st σ 73) := mStep_d dX1_basket_62
theorem vX1_basket_65 : mStep h k cX1_basket bl Q Y (65, lv, st, σ) = (mLdI Y 66 lv st σ 2) := mStep_d dX1_basket_65
theorem vX1_basket_66 : mStep h k cX1_basket bl Q Y (66, lv, st, σ) = (mStE h Y 67 lv st σ) := mStep_d dX1_basket_66
theorem vX1_basket_67 : mStep h k cX1_basket bl Q Y (67, lv, st, σ) = (mLdA Y 68 lv st σ 0) := mStep_d dX1_basket_67
theorem vX1_basket_68 : mStep h k cX1_basket bl Q Y (68, lv, st, σ) = (mDup Y 69 lv st σ) := mStep_d dX1_basket_68
theorem vX1_basket_69 : mStep h k cX1_basket bl Q Y (69, lv, st, σ) = (mGet h k Y 72 lv st σ 73) := mStep_d dX1_basket_69
theorem vX1_basket_72 : mStep h k cX1_basket bl Q Y (72, lv, st, σ) = (Y (73, lv, .int (1) :: st, σ)) := by rw [mStep_d dX1_basket_72, ← mx_c1]; rfl
theorem vX1_basket_73 : mStep h k cX1_basket bl Q Y (73, lv, st, σ) = (mBin Y 74 lv st σ (fun x y => x + y)) := mStep_d dX1_basket_73
theorem vX1_basket_74 : mStep h k cX1_basket bl Q Y (74, lv, st, σ) = (mPut h k Y 77 lv st σ 73) := mStep_d dX1_basket_74
theorem vX1_basket_77 : mStep h k cX1_basket bl Q Y (77, lv, st, σ) = (Y (78, lv, .int (0) :: st, σ)) := by rw [mStep_d dX1_basket_77, ← mx_c0]; rfl
theorem vX1_basket_78 : mStep h k cX1_basket bl Q Y (78, lv, st, σ) = (mStI Y 79 lv st σ 3) := mStep_d dX1_basket_78
theorem vX1_basket_79 : mStep h k cX1_basket bl Q Y (79, lv, st, σ) = (mLdI Y 80 lv st σ 3) := mStep_d dX1_basket_79
theorem vX1_basket_80 : mStep h k cX1_basket bl Q Y (80, lv, st, σ) = (mLdA Y 81 lv st σ 0) := mStep_d dX1_basket_80
theorem vX1_basket_81 : mStep h k cX1_basket bl Q Y (81, lv, st, σ) = (mGet h k Y 84 lv st σ 53) := mStep_d dX1_basket_81
theorem vX1_basket_84 : mStep h k cX1_basket bl Q Y (84, lv, st, σ) = (mJ2 Y 128 87 lv st σ (fun x y => y ≤ x)) := (mStep_d dX1_basket_84).trans (mIf2_J jt_84_44 jp_84_44)
theorem vX1_basket_87 : mStep h k cX1_basket bl Q Y (87, lv, st, σ) = (mLdI Y 88 lv st σ 2) := mStep_d dX1_basket_87
theorem vX1_basket_88 : mStep h k cX1_basket bl Q Y (88, lv, st, σ) = (mLdI Y 89 lv st σ 3) := mStep_d dX1_basket_88
theorem vX1_basket_89 : mStep h k cX1_basket bl Q Y (89, lv, st, σ) = (mBin Y 90 lv st σ (fun x y => x >>> (y &&& 31))) := mStep_d dX1_basket_89
theorem vX1_basket_90 : mStep h k cX1_basket bl Q Y (90, lv, st, σ) = (Y (91, lv, .int (1) :: st, σ)) := by rw [mStep_d dX1_basket_90, ← mx_c1]; rfl
theorem vX1_basket_91 : mStep h k cX1_basket bl Q Y (91, lv, st, σ) = (mBin Y 92 lv st σ (fun x y => x &&& y)) := mStep_d dX1_basket_91
theorem vX1_basket_92 : mStep h k cX1_basket bl Q Y (92, lv, st, σ) = (mN1 Y 98 95 lv st σ) := (mStep_d dX1_basket_92).trans (mIfN1_J jt_92_6 jp_92_6)
theorem vX1_basket_95 : mStep h k cX1_basket bl Q Y (95, lv, st, σ) = (Y (122, lv, st, σ)) := (mStep_d dX1_basket_95).trans (mJ_J jt_95_27 jp_95_27)
theorem vX1_basket_98 : mStep h k cX1_basket bl Q Y (98, lv, st, σ) = (mLdA Y 99 lv st σ 0) := mStep_d dX1_basket_98
theorem vX1_basket_99 : mStep h k cX1_basket bl Q Y (99, lv, st, σ) = (mGet h k Y 102 lv st σ 44) := mStep_d dX1_basket_99
theorem vX1_basket_102 : mStep h k cX1_basket bl Q Y (102, lv, st, σ) = (Y (104, lv, .int (12) :: st, σ)) := by rw [mStep_d dX1_basket_102, ← mx_b12]; rfl
theorem vX1_basket_104 : mStep h k cX1_basket bl Q Y (104, lv, st, σ) = (mLdI Y 105 lv st σ 1) := mStep_d dX1_basket_104
theorem vX1_basket_105 : mStep h k cX1_basket bl Q Y (105, lv, st, σ) = (mBin Y 106 lv st σ (fun x y => x * y)) := mStep_d dX1_basket_105
theorem vX1_basket_106 : mStep h k cX1_basket bl Q Y (106, lv, st, σ) = (mLdI Y 107 lv st σ 3) := mStep_d dX1_basket_106
theorem vX1_basket_107 : mStep h k cX1_basket bl Q Y (107, lv, st, σ) = (mBin Y 108 lv st σ (fun x y => x + y)) := mStep_d dX1_basket_107
theorem vX1_basket_108 : mStep h k cX1_basket bl Q Y (108, lv, st, σ) = (Y (109, lv, .int (0) :: st, σ)) := by rw [mStep_d dX1_basket_108, ← mx_c0]; rfl
theorem vX1_basket_109 : mStep h k cX1_basket bl Q Y (109, lv, st, σ) = (mStE h Y 110 lv st σ) := mStep_d dX1_basket_109
theorem vX1_basket_110 : mStep h k cX1_basket bl Q Y (110, lv, st, σ) = (mLdA Y 111 lv st σ 0) := mStep_d dX1_basket_110
theorem vX1_basket_111 : mStep h k cX1_basket bl Q Y (111, lv, st, σ) = (mGet h k Y 114 lv st σ 47) := mStep_d dX1_basket_111
theorem vX1_basket_114 : mStep h k cX1_basket bl Q Y (114, lv, st, σ) = (Y (116, lv, .int (12) :: st, σ)) := by rw [mStep_d dX1_basket_114, ← mx_b12]; rfl
theorem vX1_basket_116 : mStep h k cX1_basket bl Q Y (116, lv, st, σ) = (mLdI Y 117 lv st σ 1) := mStep_d dX1_basket_116
theorem vX1_basket_117 : mStep h k cX1_basket bl Q Y (117, lv, st, σ) = (mBin Y 118 lv st σ (fun x y => x * y)) := mStep_d dX1_basket_117
theorem vX1_basket_118 : mStep h k cX1_basket bl Q Y (118, lv, st, σ) = (mLdI Y 119 lv st σ 3) := mStep_d dX1_basket_118
theorem vX1_basket_119 : mStep h k cX1_basket bl Q Y (119, lv, st, σ) = (mBin Y 120 lv st σ (fun x y => x + y)) := mStep_d dX1_basket_119
theorem vX1_basket_120 : mStep h k cX1_basket bl Q Y (120, lv, st, σ) = (Y (121, lv, .int (0) :: st, σ)) := by rw [mStep_d dX1_basket_120, ← mx_c0]; rfl
theorem vX1_basket_121 : mStep h k cX1_basket bl Q Y (121, lv, st, σ) = (mStE h Y 122 lv st σ) := mStep_d dX1_basket_121
theorem vX1_basket_122 : mStep h k cX1_basket bl Q Y (122, lv, st, σ) = (mInc Y 125 lv st σ 3 (1)) := by rw [mStep_d dX1_basket_122, ← mx_c1]; rfl
theorem vX1_basket_125 : mStep h k cX1_basket bl Q Y (125, lv, st, σ) = (Y (79, lv, st, σ)) := (mStep_d dX1_basket_125).trans (mJ_J jt_125_m46 jp_125_m46)
theorem vX1_basket_128 : mStep h k cX1_basket bl Q Y (128, lv, st, σ) = (mLdA Y 129 lv st σ 0) := mStep_d dX1_basket_128
theorem vX1_basket_129 : mStep h k cX1_basket bl Q Y (129, lv, st, σ) = (mGet h k Y 132 lv st σ 73) := mStep_d dX1_basket_129
theorem vX1_basket_132 : mStep h k cX1_basket bl Q Y (132, lv, st, σ) = (Y (133, lv, .int (1) :: st, σ)) := by rw [mStep_d dX1_basket_132, ← mx_c1]; rfl
theorem vX1_basket_133 : mStep h k cX1_basket bl Q Y (133, lv, st, σ) = (mBin Y 134 lv st σ (fun x y => x - y)) := mStep_d dX1_basket_133
theorem vX1_basket_134 : mStep h k cX1_basket bl Q Y (134, lv, st, σ) = (mRetI bl Q st σ) := mStep_d dX1_basket_134
theorem vX1_goes_0 : mStep h k cX1_goes bl Q Y (0, lv, st, σ) = (mLdA Y 1 lv st σ 0) := mStep_d dX1_goes_0
theorem vX1_goes_1 : mStep h k cX1_goes bl Q Y (1, lv, st, σ) = (mDup Y 2 lv st σ) := mStep_d dX1_goes_1
theorem vX1_goes_2 : mStep h k cX1_goes bl Q Y (2, lv, st, σ) = (mGet h k Y 5 lv st σ 73) := mStep_d dX1_goes_2
theorem vX1_goes_5 : mStep h k cX1_goes bl Q Y (5, lv, st, σ) = (Y (6, lv, .int (1) :: st, σ)) := by rw [mStep_d dX1_goes_5, ← mx_c1]; rfl
theorem vX1_goes_6 : mStep h k cX1_goes bl Q Y (6, lv, st, σ) = (mBin Y 7 lv st σ (fun x y => x - y)) := mStep_d dX1_goes_6
theorem vX1_goes_7 : mStep h k cX1_goes bl Q Y (7, lv, st, σ) = (mPut h k Y 10 lv st σ 73) := mStep_d dX1_goes_7
theorem vX1_goes_10 : mStep h k cX1_goes bl Q Y (10, lv, st, σ) = (mLdI Y 11 lv st σ 1) := mStep_d dX1_goes_10
theorem vX1_goes_11 : mStep h k cX1_goes bl Q Y (11, lv, st, σ) = (mStI Y 12 lv st σ 2) := mStep_d dX1_goes_11
theorem vX1_goes_12 : mStep h k cX1_goes bl Q Y (12, lv, st, σ) = (mLdI Y 13 lv st σ 2) := mStep_d dX1_goes_12
theorem vX1_goes_13 : mStep h k cX1_goes bl Q Y (13, lv, st, σ) = (mLdA Y 14 lv st σ 0) := mStep_d dX1_goes_13
theorem vX1_goes_14 : mStep h k cX1_goes bl Q Y (14, lv, st, σ) = (mGet h k Y 17 lv st σ 73) := mStep_d dX1_goes_14
theorem vX1_goes_17 : mStep h k cX1_goes bl Q Y (17, lv, st, σ) = (mJ2 Y 68 20 lv st σ (fun x y => y ≤ x)) := (mStep_d dX1_goes_17).trans (mIf2_J jt_17_51 jp_17_51)
theorem vX1_goes_20 : mStep h k cX1_goes bl Q Y (20, lv, st, σ) = (mLdA Y 21 lv st σ 0) := mStep_d dX1_goes_20
theorem vX1_goes_21 : mStep h k cX1_goes bl Q Y (21, lv, st, σ) = (mGet h k Y 24 lv st σ 32) := mStep_d dX1_goes_21
theorem vX1_goes_24 : mStep h k cX1_goes bl Q Y (24, lv, st, σ) = (mLdI Y 25 lv st σ 2) := mStep_d dX1_goes_24
theorem vX1_goes_25 : mStep h k cX1_goes bl Q Y (25, lv, st, σ) = (mLdA Y 26 lv st σ 0) := mStep_d dX1_goes_25
theorem vX1_goes_26 : mStep h k cX1_goes bl Q Y (26, lv, st, σ) = (mGet h k Y 29 lv st σ 32) := mStep_d dX1_goes_26
theorem vX1_goes_29 : mStep h k cX1_goes bl Q Y (29, lv, st, σ) = (mLdI Y 30 lv st σ 2) := mStep_d dX1_goes_29
theorem vX1_goes_30 : mStep h k cX1_goes bl Q Y (30, lv, st, σ) = (Y (31, lv, .int (1) :: st, σ)) := by rw [mStep_d dX1_goes_30, ← mx_c1]; rfl
theorem vX1_goes_31 : mStep h k cX1_goes bl Q Y (31, lv, st, σ) = (mBin Y 32 lv st σ (fun x y => x + y)) := mStep_d dX1_goes_31
theorem vX1_goes_32 : mStep h k cX1_goes bl Q Y (32, lv, st, σ) = (mLdE h Y 33 lv st σ) := mStep_d dX1_goes_32
theorem vX1_goes_33 : mStep h k cX1_goes bl Q Y (33, lv, st, σ) = (mStE h Y 34 lv st σ) := mStep_d dX1_goes_33
theorem vX1_goes_34 : mStep h k cX1_goes bl Q Y (34, lv, st, σ) = (mLdA Y 35 lv st σ 0) := mStep_d dX1_goes_34
theorem vX1_goes_35 : mStep h k cX1_goes bl Q Y (35, lv, st, σ) = (mGet h k Y 38 lv st σ 35) := mStep_d dX1_goes_35
theorem vX1_goes_38 : mStep h k cX1_goes bl Q Y (38, lv, st, σ) = (mLdI Y 39 lv st σ 2) := mStep_d dX1_goes_38
theorem vX1_goes_39 : mStep h k cX1_goes bl Q Y (39, lv, st, σ) = (mLdA Y 40 lv st σ 0) := mStep_d dX1_goes_39
theorem vX1_goes_40 : mStep h k cX1_goes bl Q Y (40, lv, st, σ) = (mGet h k Y 43 lv st σ 35) := mStep_d dX1_goes_40
theorem vX1_goes_43 : mStep h k cX1_goes bl Q Y (43, lv, st, σ) = (mLdI Y 44 lv st σ 2) := mStep_d dX1_goes_43
theorem vX1_goes_44 : mStep h k cX1_goes bl Q Y (44, lv, st, σ) = (Y (45, lv, .int (1) :: st, σ)) := by rw [mStep_d dX1_goes_44, ← mx_c1]; rfl
theorem vX1_goes_45 : mStep h k cX1_goes bl Q Y (45, lv, st, σ) = (mBin Y 46 lv st σ (fun x y => x + y)) := mStep_d dX1_goes_45
theorem vX1_goes_46 : mStep h k cX1_goes bl Q Y (46, lv, st, σ) = (mLdE h Y 47 lv st σ) := mStep_d dX1_goes_46
theorem vX1_goes_47 : mStep h k cX1_goes bl Q Y (47, lv, st, σ) = (mStE h Y 48 lv st σ) := mStep_d dX1_goes_47
theorem vX1_goes_48 : mStep h k cX1_goes bl Q Y (48, lv, st, σ) = (mLdA Y 49 lv st σ 0) := mStep_d dX1_goes_48
theorem vX1_goes_49 : mStep h k cX1_goes bl Q Y (49, lv, st, σ) = (mGet h k Y 52 lv st σ 38) := mStep_d dX1_goes_49
theorem vX1_goes_52 : mStep h k cX1_goes bl Q Y (52, lv, st, σ) = (mLdI Y 53 lv st σ 2) := mStep_d dX1_goes_52
theorem vX1_goes_53 : mStep h k cX1_goes bl Q Y (53, lv, st, σ) = (mLdA Y 54 lv st σ 0) := mStep_d dX1_goes_53
theorem vX1_goes_54 : mStep h k cX1_goes bl Q Y (54, lv, st, σ) = (mGet h k Y 57 lv st σ 38) := mStep_d dX1_goes_54
theorem vX1_goes_57 : mStep h k cX1_goes bl Q Y (57, lv, st, σ) = (mLdI Y 58 lv st σ 2) := mStep_d dX1_goes_57
theorem vX1_goes_58 : mStep h k cX1_goes bl Q Y (58, lv, st, σ) = (Y (59, lv, .int (1) :: st, σ)) := by rw [mStep_d dX1_goes_58, ← mx_c1]; rfl
theorem vX1_goes_59 : mStep h k cX1_goes bl Q Y (59, lv, st, σ) = (mBin Y 60 lv st σ (fun x y => x + y)) := mStep_d dX1_goes_59
theorem vX1_goes_60 : mStep h k cX1_goes bl Q Y (60, lv, st, σ) = (mLdE h Y 61 lv st σ) := mStep_d dX1_goes_60
theorem vX1_goes_61 : mStep h k cX1_goes bl Q Y (61, lv, st, σ) = (mStE h Y 62 lv st σ) := mStep_d dX1_goes_61
theorem vX1_goes_62 : mStep h k cX1_goes bl Q Y (62, lv, st, σ) = (mInc Y 65 lv st σ 2 (1)) := by rw [mStep_d dX1_goes_62, ← mx_c1]; rfl
theorem vX1_goes_65 : mStep h k cX1_goes bl Q Y (65, lv, st, σ) = (Y (12, lv, st, σ)) := (mStep_d dX1_goes_65).trans (mJ_J jt_65_m53 jp_65_m53)
theorem vX1_goes_68 : mStep h k cX1_goes bl Q Y (68, lv, st, σ) = (mRetV bl Q st σ) := mStep_d dX1_goes_68
theorem vX1_drop_0 : mStep h k cX1_drop bl Q Y (0, lv, st, σ) = (mLdI Y 1 lv st σ 1) := mStep_d dX1_drop_0
theorem vX1_drop_1 : mStep h k cX1_drop bl Q Y (1, lv, st, σ) = (Y (2, lv, .int (0) :: st, σ)) := by rw [mStep_d dX1_drop_1, ← mx_c0]; rfl
theorem vX1_drop_2 : mStep h k cX1_drop bl Q Y (2, lv, st, σ) = (mLdA Y 3 lv st σ 0) := mStep_d dX1_drop_2
theorem vX1_drop_3 : mStep h k cX1_drop bl Q Y (3, lv, st, σ) = (mGet h k Y 6 lv st σ 73) := mStep_d dX1_drop_3
theorem vX1_drop_6 : mStep h k cX1_drop bl Q Y (6, lv, st, σ) = (Y (7, lv, .int (1) :: st, σ)) := by rw [mStep_d dX1_drop_6, ← mx_c1]; rfl
theorem vX1_drop_7 : mStep h k cX1_drop bl Q Y (7, lv, st, σ) = (mBin Y 8 lv st σ (fun x y => x - y)) := mStep_d dX1_drop_7
theorem vX1_drop_8 : mStep h k cX1_drop bl Q Y (8, lv, st, σ) = (mCaS k Y 11 lv st σ 56) := mStep_d dX1_drop_8
theorem vX1_drop_11 : mStep h k cX1_drop bl Q Y (11, lv, st, σ) = (mN1 Y 16 14 lv st σ) := (mStep_d dX1_drop_11).trans (mIfN1_J jt_11_5 jp_11_5)
theorem vX1_drop_14 : mStep h k cX1_drop bl Q Y (14, lv, st, σ) = (Y (15, lv, .int (0) :: st, σ)) := by rw [mStep_d dX1_drop_14, ← mx_c0]; rfl
theorem vX1_drop_15 : mStep h k cX1_drop bl Q Y (15, lv, st, σ) = (mRetI bl Q st σ) := mStep_d dX1_drop_15
theorem vX1_drop_16 : mStep h k cX1_drop bl Q Y (16, lv, st, σ) = (mLdA Y 17 lv st σ 0) := mStep_d dX1_drop_16
theorem vX1_drop_17 : mStep h k cX1_drop bl Q Y (17, lv, st, σ) = (mLdI Y 18 lv st σ 1) := mStep_d dX1_drop_17
theorem vX1_drop_18 : mStep h k cX1_drop bl Q Y (18, lv, st, σ) = (mCaV k Y 21 lv st σ 76) := mStep_d dX1_drop_18
theorem vX1_drop_21 : mStep h k cX1_drop bl Q Y (21, lv, st, σ) = (Y (22, lv, .int (1) :: st, σ)) := by rw [mStep_d dX1_drop_21, ← mx_c1]; rfl
theorem vX1_drop_22 : mStep h k cX1_drop bl Q Y (22, lv, st, σ) = (mRetI bl Q st σ) := mStep_d dX1_drop_22
theorem vX1_forget_0 : mStep h k cX1_forget bl Q Y (0, lv, st, σ) = (mLdI Y 1 lv st σ 1) := mStep_d dX1_forget_0
theorem vX1_forget_1 : mStep h k cX1_forget bl Q Y (1, lv, st, σ) = (mCaS k Y 4 lv st σ 70) := mStep_d dX1_forget_1
theorem vX1_forget_4 : mStep h k cX1_forget bl Q Y (4, lv, st, σ) = (mN1 Y 9 7 lv st σ) := (mStep_d dX1_forget_4).trans (mIfN1_J jt_4_5 jp_4_5)
theorem vX1_forget_7 : mStep h k cX1_forget bl Q Y (7, lv, st, σ) = (Y (8, lv, .int (-1) :: st, σ)) := by rw [mStep_d dX1_forget_7, ← mx_cm1]; rfl
theorem vX1_forget_8 : mStep h k cX1_forget bl Q Y (8, lv, st, σ) = (mRetI bl Q st σ) := mStep_d dX1_forget_8
theorem vX1_forget_9 : mStep h k cX1_forget bl Q Y (9, lv, st, σ) = (Y (10, lv, .int (0) :: st, σ)) := by rw [mStep_d dX1_forget_9, ← mx_c0]; rfl
theorem vX1_forget_10 : mStep h k cX1_forget bl Q Y (10, lv, st, σ) = (mStI Y 11 lv st σ 2) := mStep_d dX1_forget_10
theorem vX1_forget_11 : mStep h k cX1_forget bl Q Y (11, lv, st, σ) = (mLdA Y 12 lv st σ 0) := mStep_d dX1_forget_11
theorem vX1_forget_12 : mStep h k cX1_forget bl Q Y (12, lv, st, σ) = (mGet h k Y 15 lv st σ 73) := mStep_d dX1_forget_12
theorem vX1_forget_15 : mStep h k cX1_forget bl Q Y (15, lv, st, σ) = (Y (16, lv, .int (1) :: st, σ)) := by rw [mStep_d dX1_forget_15, ← mx_c1]; rfl
theorem vX1_forget_16 : mStep h k cX1_forget bl Q Y (16, lv, st, σ) = (mBin Y 17 lv st σ (fun x y => x - y)) := mStep_d dX1_forget_16
theorem vX1_forget_17 : mStep h k cX1_forget bl Q Y (17, lv, st, σ) = (mStI Y 18 lv st σ 3) := mStep_d dX1_forget_17
theorem vX1_forget_18 : mStep h k cX1_forget bl Q Y (18, lv, st, σ) = (mLdI Y 19 lv st σ 3) := mStep_d dX1_forget_18
theorem vX1_forget_19 : mStep h k cX1_forget bl Q Y (19, lv, st, σ) = (mJ1 Y 49 22 lv st σ (fun x => x < 0)) := (mStep_d dX1_forget_19).trans (mIf1_J jt_19_30 jp_19_30)
theorem vX1_forget_22 : mStep h k cX1_forget bl Q Y (22, lv, st, σ) = (mLdA Y 23 lv st σ 0) := mStep_d dX1_forget_22
theorem vX1_forget_23 : mStep h k cX1_forget bl Q Y (23, lv, st, σ) = (mGet h k Y 26 lv st σ 32) := mStep_d dX1_forget_23
theorem vX1_forget_26 : mStep h k cX1_forget bl Q Y (26, lv, st, σ) = (mLdI Y 27 lv st σ 3) := mStep_d dX1_forget_26
theorem vX1_forget_27 : mStep h k cX1_forget bl Q Y (27, lv, st, σ) = (mLdE h Y 28 lv st σ) := mStep_d dX1_forget_27
theorem vX1_forget_28 : mStep h k cX1_forget bl Q Y (28, lv, st, σ) = (mLdI Y 29 lv st σ 1) := mStep_d dX1_forget_28
theorem vX1_forget_29 : mStep h k cX1_forget bl Q Y (29, lv, st, σ) = (mJ2 Y 35 32 lv st σ (fun x y => x = y)) := (mStep_d dX1_forget_29).trans (mIf2_J jt_29_6 jp_29_6)
theorem vX1_forget_32 : mStep h k cX1_forget bl Q Y (32, lv, st, σ) = (Y (43, lv, st, σ)) := (mStep_d dX1_forget_32).trans (mJ_J jt_32_11 jp_32_11)
theorem vX1_forget_35 : mStep h k cX1_forget bl Q Y (35, lv, st, σ) = (mLdA Y 36 lv st σ 0) := mStep_d dX1_forget_35
theorem vX1_forget_36 : mStep h k cX1_forget bl Q Y (36, lv, st, σ) = (mLdI Y 37 lv st σ 3) := mStep_d dX1_forget_36
theorem vX1_forget_37 : mStep h k cX1_forget bl Q Y (37, lv, st, σ) = (mCaV k Y 40 lv st σ 76) := mStep_d dX1_forget_37
theorem vX1_forget_40 : mStep h k cX1_forget bl Q Y (40, lv, st, σ) = (mInc Y 43 lv st σ 2 (1)) := by rw [mStep_d dX1_forget_40, ← mx_c1]; rfl
theorem vX1_forget_43 : mStep h k cX1_forget bl Q Y (43, lv, st, σ) = (mInc Y 46 lv st σ 3 (-1)) := by rw [mStep_d dX1_forget_43, ← mx_cm1]; rfl
theorem vX1_forget_46 : mStep h k cX1_forget bl Q Y (46, lv, st, σ) = (Y (18, lv, st, σ)) := (mStep_d dX1_forget_46).trans (mJ_J jt_46_m28 jp_46_m28)
theorem vX1_forget_49 : mStep h k cX1_forget bl Q Y (49, lv, st, σ) = (mLdA Y 50 lv st σ 0) := mStep_d dX1_forget_49
theorem vX1_forget_50 : mStep h k cX1_forget bl Q Y (50, lv, st, σ) = (mGet h k Y 53 lv st σ 41) := mStep_d dX1_forget_50
theorem vX1_forget_53 : mStep h k cX1_forget bl Q Y (53, lv, st, σ) = (mLdI Y 54 lv st σ 1) := mStep_d dX1_forget_53
theorem vX1_forget_54 : mStep h k cX1_forget bl Q Y (54, lv, st, σ) = (Y (55, lv, .int (0) :: st, σ)) := by rw [mStep_d dX1_forget_54, ← mx_c0]; rfl
theorem vX1_forget_55 : mStep h k cX1_forget bl Q Y (55, lv, st, σ) = (mStE h Y 56 lv st σ) := mStep_d dX1_forget_55
theorem vX1_forget_56 : mStep h k cX1_forget bl Q Y (56, lv, st, σ) = (Y (57, lv, .int (0) :: st, σ)) := by rw [mStep_d dX1_forget_56, ← mx_c0]; rfl
theorem vX1_forget_57 : mStep h k cX1_forget bl Q Y (57, lv, st, σ) = (mStI Y 58 lv st σ 3) := mStep_d dX1_forget_57
theorem vX1_forget_58 : mStep h k cX1_forget bl Q Y (58, lv, st, σ) = (mLdI Y 59 lv st σ 3) := mStep_d dX1_forget_58
theorem vX1_forget_59 : mStep h k cX1_forget bl Q Y (59, lv, st, σ) = (Y (61, lv, .int (12) :: st, σ)) := by rw [mStep_d dX1_forget_59, ← mx_b12]; rfl
theorem vX1_forget_61 : mStep h k cX1_forget bl Q Y (61, lv, st, σ) = (mJ2 Y 94 64 lv st σ (fun x y => y ≤ x)) := (mStep_d dX1_forget_61).trans (mIf2_J jt_61_33 jp_61_33)
theorem vX1_forget_64 : mStep h k cX1_forget bl Q Y (64, lv, st, σ) = (mLdA Y 65 lv st σ 0) := mStep_d dX1_forget_64
theorem vX1_forget_65 : mStep h k cX1_forget bl Q Y (65, lv, st, σ) = (mGet h k Y 68 lv st σ 44) := mStep_d dX1_forget_65
theorem vX1_forget_68 : mStep h k cX1_forget bl Q Y (68, lv, st, σ) = (Y (70, lv, .int (12) :: st, σ)) := by rw [mStep_d dX1_forget_68, ← mx_b12]; rfl
theorem vX1_forget_70 : mStep h k cX1_forget bl Q Y (70, lv, st, σ) = (mLdI Y 71 lv st σ 1) := mStep_d dX1_forget_70
theorem vX1_forget_71 : mStep h k cX1_forget bl Q Y (71, lv, st, σ) = (mBin Y 72 lv st σ (fun x y => x * y)) := mStep_d dX1_forget_71
theorem vX1_forget_72 : mStep h k cX1_forget bl Q Y (72, lv, st, σ) = (mLdI Y 73 lv st σ 3) := mStep_d dX1_forget_72
theorem vX1_forget_73 : mStep h k cX1_forget bl Q Y (73, lv, st, σ) = (mBin Y 74 lv st σ (fun x y => x + y)) := mStep_d dX1_forget_73
theorem vX1_forget_74 : mStep h k cX1_forget bl Q Y (74, lv, st, σ) = (Y (75, lv, .int (0) :: st, σ)) := by rw [mStep_d dX1_forget_74, ← mx_c0]; rfl
theorem vX1_forget_75 : mStep h k cX1_forget bl Q Y (75, lv, st, σ) = (mStE h Y 76 lv st σ) := mStep_d dX1_forget_75
theorem vX1_forget_76 : mStep h k cX1_forget bl Q Y (76, lv, st, σ) = (mLdA Y 77 lv st σ 0) := mStep_d dX1_forget_76
theorem vX1_forget_77 : mStep h k cX1_forget bl Q Y (77, lv, st, σ) = (mGet h k Y 80 lv st σ 47) := mStep_d dX1_forget_77
theorem vX1_forget_80 : mStep h k cX1_forget bl Q Y (80, lv, st, σ) = (Y (82, lv, .int (12) :: st, σ)) := by rw [mStep_d dX1_forget_80, ← mx_b12]; rfl
theorem vX1_forget_82 : mStep h k cX1_forget bl Q Y (82, lv, st, σ) = (mLdI Y 83 lv st σ 1) := mStep_d dX1_forget_82
theorem vX1_forget_83 : mStep h k cX1_forget bl Q Y (83, lv, st, σ) = (mBin Y 84 lv st σ (fun x y => x * y)) := mStep_d dX1_forget_83
theorem vX1_forget_84 : mStep h k cX1_forget bl Q Y (84, lv, st, σ) = (mLdI Y 85 lv st σ 3) := mStep_d dX1_forget_84
theorem vX1_forget_85 : mStep h k cX1_forget bl Q Y (85, lv, st, σ) = (mBin Y 86 lv st σ (fun x y => x + y)) := mStep_d dX1_forget_85
theorem vX1_forget_86 : mStep h k cX1_forget bl Q Y (86, lv, st, σ) = (Y (87, lv, .int (0) :: st, σ)) := by rw [mStep_d dX1_forget_86, ← mx_c0]; rfl
theorem vX1_forget_87 : mStep h k cX1_forget bl Q Y (87, lv, st, σ) = (mStE h Y 88 lv st σ) := mStep_d dX1_forget_87
theorem vX1_forget_88 : mStep h k cX1_forget bl Q Y (88, lv, st, σ) = (mInc Y 91 lv st σ 3 (1)) := by rw [mStep_d dX1_forget_88, ← mx_c1]; rfl
theorem vX1_forget_91 : mStep h k cX1_forget bl Q Y (91, lv, st, σ) = (Y (58, lv, st, σ)) := (mStep_d dX1_forget_91).trans (mJ_J jt_91_m33 jp_91_m33)
theorem vX1_forget_94 : mStep h k cX1_forget bl Q Y (94, lv, st, σ) = (mLdI Y 95 lv st σ 2) := mStep_d dX1_forget_94
theorem vX1_forget_95 : mStep h k cX1_forget bl Q Y (95, lv, st, σ) = (mRetI bl Q st σ) := mStep_d dX1_forget_95
theorem vX1_day_0 : mStep h k cX1_day bl Q Y (0, lv, st, σ) = (mLdA Y 1 lv st σ 0) := mStep_d dX1_day_0
theorem vX1_day_1 : mStep h k cX1_day bl Q Y (1, lv, st, σ) = (mGet h k Y 4 lv st σ 60) := mStep_d dX1_day_1
theorem vX1_day_4 : mStep h k cX1_day bl Q Y (4, lv, st, σ) = (Y (7, lv, .int (9999) :: st, σ)) := by rw [mStep_d dX1_day_4, ← mx_s9999]; rfl
theorem vX1_day_7 : mStep h k cX1_day bl Q Y (7, lv, st, σ) = (mN2 Y 12 10 lv st σ) := (mStep_d dX1_day_7).trans (mIfN2_J jt_7_5 jp_7_5)
theorem vX1_day_10 : mStep h k cX1_day bl Q Y (10, lv, st, σ) = (Y (11, lv, .int (-1) :: st, σ)) := by rw [mStep_d dX1_day_10, ← mx_cm1]; rfl
theorem vX1_day_11 : mStep h k cX1_day bl Q Y (11, lv, st, σ) = (mRetI bl Q st σ) := mStep_d dX1_day_11
theorem vX1_day_12 : mStep h k cX1_day bl Q Y (12, lv, st, σ) = (mLdA Y 13 lv st σ 0) := mStep_d dX1_day_12
theorem vX1_day_13 : mStep h k cX1_day bl Q Y (13, lv, st, σ) = (mDup Y 14 lv st σ) := mStep_d dX1_day_13
theorem vX1_day_14 : mStep h k cX1_day bl Q Y (14, lv, st, σ) = (mGet h k Y 17 lv st σ 60) := mStep_d dX1_day_14
theorem vX1_day_17 : mStep h k cX1_day bl Q Y (17, lv, st, σ) = (Y (18, lv, .int (1) :: st, σ)) := by rw [mStep_d dX1_day_17, ← mx_c1]; rfl
theorem vX1_day_18 : mStep h k cX1_day bl Q Y (18, lv, st, σ) = (mBin Y 19 lv st σ (fun x y => x + y)) := mStep_d dX1_day_18
theorem vX1_day_19 : mStep h k cX1_day bl Q Y (19, lv, st, σ) = (mPut h k Y 22 lv st σ 60) := mStep_d dX1_day_19
theorem vX1_day_22 : mStep h k cX1_day bl Q Y (22, lv, st, σ) = (mLdA Y 23 lv st σ 0) := mStep_d dX1_day_22
theorem vX1_day_23 : mStep h k cX1_day bl Q Y (23, lv, st, σ) = (mGet h k Y 26 lv st σ 73) := mStep_d dX1_day_23
theorem vX1_day_26 : mStep h k cX1_day bl Q Y (26, lv, st, σ) = (Y (27, lv, .int (1) :: st, σ)) := by rw [mStep_d dX1_day_26, ← mx_c1]; rfl
theorem vX1_day_27 : mStep h k cX1_day bl Q Y (27, lv, st, σ) = (mBin Y 28 lv st σ (fun x y => x - y)) := mStep_d dX1_day_27
theorem vX1_day_28 : mStep h k cX1_day bl Q Y (28, lv, st, σ) = (mStI Y 29 lv st σ 1) := mStep_d dX1_day_28
theorem vX1_day_29 : mStep h k cX1_day bl Q Y (29, lv, st, σ) = (mLdI Y 30 lv st σ 1) := mStep_d dX1_day_29
theorem vX1_day_30 : mStep h k cX1_day bl Q Y (30, lv, st, σ) = (mJ1 Y 60 33 lv st σ (fun x => x < 0)) := (mStep_d dX1_day_30).trans (mIf1_J jt_30_30 jp_30_30)
theorem vX1_day_33 : mStep h k cX1_day bl Q Y (33, lv, st, σ) = (mLdA Y 34 lv st σ 0) := mStep_d dX1_day_33
theorem vX1_day_34 : mStep h k cX1_day bl Q Y (34, lv, st, σ) = (mGet h k Y 37 lv st σ 60) := mStep_d dX1_day_34
theorem vX1_day_37 : mStep h k cX1_day bl Q Y (37, lv, st, σ) = (mLdA Y 38 lv st σ 0) := mStep_d dX1_day_37
theorem vX1_day_38 : mStep h k cX1_day bl Q Y (38, lv, st, σ) = (mGet h k Y 41 lv st σ 35) := mStep_d dX1_day_38
theorem vX1_day_41 : mStep h k cX1_day bl Q Y (41, lv, st, σ) = (mLdI Y 42 lv st σ 1) := mStep_d dX1_day_41
theorem vX1_day_42 : mStep h k cX1_day bl Q Y (42, lv, st, σ) = (mLdE h Y 43 lv st σ) := mStep_d dX1_day_42
theorem vX1_day_43 : mStep h k cX1_day bl Q Y (43, lv, st, σ) = (mBin Y 44 lv st σ (fun x y => x - y)) := mStep_d dX1_day_43
theorem vX1_day_44 : mStep h k cX1_day bl Q Y (44, lv, st, σ) = (Y (46, lv, .int (28) :: st, σ)) := by rw [mStep_d dX1_day_44, ← mx_b28]; rfl
theorem vX1_day_46 : mStep h k cX1_day bl Q Y (46, lv, st, σ) = (mJ2 Y 54 49 lv st σ (fun x y => x < y)) := (mStep_d dX1_day_46).trans (mIf2_J jt_46_8 jp_46_8)
theorem vX1_day_49 : mStep h k cX1_day bl Q Y (49, lv, st, σ) = (mLdA Y 50 lv st σ 0) := mStep_d dX1_day_49
theorem vX1_day_50 : mStep h k cX1_day bl Q Y (50, lv, st, σ) = (mLdI Y 51 lv st σ 1) := mStep_d dX1_day_50
theorem vX1_day_51 : mStep h k cX1_day bl Q Y (51, lv, st, σ) = (mCaV k Y 54 lv st σ 76) := mStep_d dX1_day_51
theorem vX1_day_54 : mStep h k cX1_day bl Q Y (54, lv, st, σ) = (mInc Y 57 lv st σ 1 (-1)) := by rw [mStep_d dX1_day_54, ← mx_cm1]; rfl
theorem vX1_day_57 : mStep h k cX1_day bl Q Y (57, lv, st, σ) = (Y (29, lv, st, σ)) := (mStep_d dX1_day_57).trans (mJ_J jt_57_m28 jp_57_m28)
theorem vX1_day_60 : mStep h k cX1_day bl Q Y (60, lv, st, σ) = (mLdA Y 61 lv st σ 0) := mStep_d dX1_day_60
theorem vX1_day_61 : mStep h k cX1_day bl Q Y (61, lv, st, σ) = (mGet h k Y 64 lv st σ 60) := mStep_d dX1_day_61
theorem vX1_day_64 : mStep h k cX1_day bl Q Y (64, lv, st, σ) = (mRetI bl Q st σ) := mStep_d dX1_day_64
theorem vX1_news_0 : mStep h k cX1_news bl Q Y (0, lv, st, σ) = (Y (1, lv, .int (0) :: st, σ)) := by rw [mStep_d dX1_news_0, ← mx_c0]; rfl
theorem vX1_news_1 : mStep h k cX1_news bl Q Y (1, lv, st, σ) = (mStI Y 2 lv st σ 1) := mStep_d dX1_news_1
theorem vX1_news_2 : mStep h k cX1_news bl Q Y (2, lv, st, σ) = (Y (3, lv, .int (0) :: st, σ)) := by rw [mStep_d dX1_news_2, ← mx_c0]; rfl
theorem vX1_news_3 : mStep h k cX1_news bl Q Y (3, lv, st, σ) = (mStI Y 4 lv st σ 2) := mStep_d dX1_news_3
theorem vX1_news_4 : mStep h k cX1_news bl Q Y (4, lv, st, σ) = (mLdI Y 5 lv st σ 2) := mStep_d dX1_news_4
theorem vX1_news_5 : mStep h k cX1_news bl Q Y (5, lv, st, σ) = (mLdA Y 6 lv st σ 0) := mStep_d dX1_news_5
theorem vX1_news_6 : mStep h k cX1_news bl Q Y (6, lv, st, σ) = (mGet h k Y 9 lv st σ 53) := mStep_d dX1_news_6
theorem vX1_news_9 : mStep h k cX1_news bl Q Y (9, lv, st, σ) = (mJ2 Y 44 12 lv st σ (fun x y => y ≤ x)) := (mStep_d dX1_news_9).trans (mIf2_J jt_9_35 jp_9_35)
theorem vX1_news_12 : mStep h k cX1_news bl Q Y (12, lv, st, σ) = (mLdI Y 13 lv st σ 1) := mStep_d dX1_news_12
theorem vX1_news_13 : mStep h k cX1_news bl Q Y (13, lv, st, σ) = (mLdA Y 14 lv st σ 0) := mStep_d dX1_news_13
theorem vX1_news_14 : mStep h k cX1_news bl Q Y (14, lv, st, σ) = (mGet h k Y 17 lv st σ 60) := mStep_d dX1_news_14
theorem vX1_news_17 : mStep h k cX1_news bl Q Y (17, lv, st, σ) = (mLdA Y 18 lv st σ 0) := mStep_d dX1_news_17
theorem vX1_news_18 : mStep h k cX1_news bl Q Y (18, lv, st, σ) = (mGet h k Y 21 lv st σ 26) := mStep_d dX1_news_18
theorem vX1_news_21 : mStep h k cX1_news bl Q Y (21, lv, st, σ) = (mLdI Y 22 lv st σ 2) := mStep_d dX1_news_21
theorem vX1_news_22 : mStep h k cX1_news bl Q Y (22, lv, st, σ) = (mLdE h Y 23 lv st σ) := mStep_d dX1_news_22
theorem vX1_news_23 : mStep h k cX1_news bl Q Y (23, lv, st, σ) = (mBin Y 24 lv st σ (fun x y => x - y)) := mStep_d dX1_news_23
theorem vX1_news_24 : mStep h k cX1_news bl Q Y (24, lv, st, σ) = (Y (26, lv, .int (10) :: st, σ)) := by rw [mStep_d dX1_news_24, ← mx_b10]; rfl
theorem vX1_news_26 : mStep h k cX1_news bl Q Y (26, lv, st, σ) = (mJ2 Y 35 29 lv st σ (fun x y => y ≤ x)) := (mStep_d dX1_news_26).trans (mIf2_J jt_26_9 jp_26_9)
theorem vX1_news_29 : mStep h k cX1_news bl Q Y (29, lv, st, σ) = (Y (30, lv, .int (1) :: st, σ)) := by rw [mStep_d dX1_news_29, ← mx_c1]; rfl
theorem vX1_news_30 : mStep h k cX1_news bl Q Y (30, lv, st, σ) = (mLdI Y 31 lv st σ 2) := mStep_d dX1_news_30
theorem vX1_news_31 : mStep h k cX1_news bl Q Y (31, lv, st, σ) = (mBin Y 32 lv st σ (fun x y => x <<< (y &&& 31))) := mStep_d dX1_news_31
theorem vX1_news_32 : mStep h k cX1_news bl Q Y (32, lv, st, σ) = (Y (36, lv, st, σ)) := (mStep_d dX1_news_32).trans (mJ_J jt_32_4 jp_32_4)
theorem vX1_news_35 : mStep h k cX1_news bl Q Y (35, lv, st, σ) = (Y (36, lv, .int (0) :: st, σ)) := by rw [mStep_d dX1_news_35, ← mx_c0]; rfl
theorem vX1_news_36 : mStep h k cX1_news bl Q Y (36, lv, st, σ) = (mBin Y 37 lv st σ (fun x y => x ||| y)) := mStep_d dX1_news_36
theorem vX1_news_37 : mStep h k cX1_news bl Q Y (37, lv, st, σ) = (mStI Y 38 lv st σ 1) := mStep_d dX1_news_37
theorem vX1_news_38 : mStep h k cX1_news bl Q Y (38, lv, st, σ) = (mInc Y 41 lv st σ 2 (1)) := by rw [mStep_d dX1_news_38, ← mx_c1]; rfl
theorem vX1_news_41 : mStep h k cX1_news bl Q Y (41, lv, st, σ) = (Y (4, lv, st, σ)) := (mStep_d dX1_news_41).trans (mJ_J jt_41_m37 jp_41_m37)
theorem vX1_news_44 : mStep h k cX1_news bl Q Y (44, lv, st, σ) = (mLdI Y 45 lv st σ 1) := mStep_d dX1_news_44
theorem vX1_news_45 : mStep h k cX1_news bl Q Y (45, lv, st, σ) = (mRetI bl Q st σ) := mStep_d dX1_news_45
theorem vX1_look_0 : mStep h k cX1_look bl Q Y (0, lv, st, σ) = (mLdI Y 1 lv st σ 1) := mStep_d dX1_look_0
theorem vX1_look_1 : mStep h k cX1_look bl Q Y (1, lv, st, σ) = (mTsw Y 1 lv st σ 96 0 8 [51, 56, 61, 66, 71, 76, 81, 86, 91]) := mStep_d dX1_look_1
theorem vX1_look_52 : mStep h k cX1_look bl Q Y (52, lv, st, σ) = (mLdA Y 53 lv st σ 0) := mStep_d dX1_look_52
theorem vX1_look_53 : mStep h k cX1_look bl Q Y (53, lv, st, σ) = (mGet h k Y 56 lv st σ 60) := mStep_d dX1_look_53
theorem vX1_look_56 : mStep h k cX1_look bl Q Y (56, lv, st, σ) = (mRetI bl Q st σ) := mStep_d dX1_look_56
theorem vX1_look_57 : mStep h k cX1_look bl Q Y (57, lv, st, σ) = (mLdA Y 58 lv st σ 0) := mStep_d dX1_look_57
theorem vX1_look_58 : mStep h k cX1_look bl Q Y (58, lv, st, σ) = (mGet h k Y 61 lv st σ 53) := mStep_d dX1_look_58
theorem vX1_look_61 : mStep h k cX1_look bl Q Y (61, lv, st, σ) = (mRetI bl Q st σ) := mStep_d dX1_look_61
theorem vX1_look_62 : mStep h k cX1_look bl Q Y (62, lv, st, σ) = (mLdA Y 63 lv st σ 0) := mStep_d dX1_look_62
theorem vX1_look_63 : mStep h k cX1_look bl Q Y (63, lv, st, σ) = (mGet h k Y 66 lv st σ 73) := mStep_d dX1_look_63
theorem vX1_look_66 : mStep h k cX1_look bl Q Y (66, lv, st, σ) = (mRetI bl Q st σ) := mStep_d dX1_look_66
theorem vX1_look_67 : mStep h k cX1_look bl Q Y (67, lv, st, σ) = (mLdA Y 68 lv st σ 0) := mStep_d dX1_look_67
theorem vX1_look_68 : mStep h k cX1_look bl Q Y (68, lv, st, σ) = (mGet h k Y 71 lv st σ 7) := mStep_d dX1_look_68
theorem vX1_look_71 : mStep h k cX1_look bl Q Y (71, lv, st, σ) = (mRetI bl Q st σ) := mStep_d dX1_look_71
theorem vX1_look_72 : mStep h k cX1_look bl Q Y (72, lv, st, σ) = (mLdA Y 73 lv st σ 0) := mStep_d dX1_look_72
theorem vX1_look_73 : mStep h k cX1_look bl Q Y (73, lv, st, σ) = (mGet h k Y 76 lv st σ 13) := mStep_d dX1_look_73
theorem vX1_look_76 : mStep h k cX1_look bl Q Y (76, lv, st, σ) = (mRetI bl Q st σ) := mStep_d dX1_look_76
theorem vX1_look_77 : mStep h k cX1_look bl Q Y (77, lv, st, σ) = (mLdA Y 78 lv st σ 0) := mStep_d dX1_look_77
theorem vX1_look_78 : mStep h k cX1_look bl Q Y (78, lv, st, σ) = (mGet h k Y 81 lv st σ 16) := mStep_d dX1_look_78
theorem vX1_look_81 : mStep h k cX1_look bl Q Y (81, lv, st, σ) = (mRetI bl Q st σ) := mStep_d dX1_look_81
theorem vX1_look_82 : mStep h k cX1_look bl Q Y (82, lv, st, σ) = (mLdA Y 83 lv st σ 0) := mStep_d dX1_look_82
theorem vX1_look_83 : mStep h k cX1_look bl Q Y (83, lv, st, σ) = (mGet h k Y 86 lv st σ 19) := mStep_d dX1_look_83
theorem vX1_look_86 : mStep h k cX1_look bl Q Y (86, lv, st, σ) = (mRetI bl Q st σ) := mStep_d dX1_look_86
theorem vX1_look_87 : mStep h k cX1_look bl Q Y (87, lv, st, σ) = (mLdA Y 88 lv st σ 0) := mStep_d dX1_look_87
theorem vX1_look_88 : mStep h k cX1_look bl Q Y (88, lv, st, σ) = (mGet h k Y 91 lv st σ 63) := mStep_d dX1_look_88
theorem vX1_look_91 : mStep h k cX1_look bl Q Y (91, lv, st, σ) = (mRetI bl Q st σ) := mStep_d dX1_look_91
theorem vX1_look_92 : mStep h k cX1_look bl Q Y (92, lv, st, σ) = (mLdA Y 93 lv st σ 0) := mStep_d dX1_look_92
theorem vX1_look_93 : mStep h k cX1_look bl Q Y (93, lv, st, σ) = (mCaV k Y 96 lv st σ 80) := mStep_d dX1_look_93
theorem vX1_look_96 : mStep h k cX1_look bl Q Y (96, lv, st, σ) = (mRetI bl Q st σ) := mStep_d dX1_look_96
theorem vX1_look_97 : mStep h k cX1_look bl Q Y (97, lv, st, σ) = (Y (98, lv, .int (-1) :: st, σ)) := by rw [mStep_d dX1_look_97, ← mx_cm1]; rfl
theorem vX1_look_98 : mStep h k cX1_look bl Q Y (98, lv, st, σ) = (mRetI bl Q st σ) := mStep_d dX1_look_98
theorem vX1_of_0 : mStep h k cX1_of bl Q Y (0, lv, st, σ) = (mLdI Y 1 lv st σ 1) := mStep_d dX1_of_0
theorem vX1_of_1 : mStep h k cX1_of bl Q Y (1, lv, st, σ) = (Y (2, lv, .int (0) :: st, σ)) := by rw [mStep_d dX1_of_1, ← mx_c0]; rfl
theorem vX1_of_2 : mStep h k cX1_of bl Q Y (2, lv, st, σ) = (mLdA Y 3 lv st σ 0) := mStep_d dX1_of_2
theorem vX1_of_3 : mStep h k cX1_of bl Q Y (3, lv, st, σ) = (mGet h k Y 6 lv st σ 73) := mStep_d dX1_of_3
theorem vX1_of_6 : mStep h k cX1_of bl Q Y (6, lv, st, σ) = (Y (7, lv, .int (1) :: st, σ)) := by rw [mStep_d dX1_of_6, ← mx_c1]; rfl
theorem vX1_of_7 : mStep h k cX1_of bl Q Y (7, lv, st, σ) = (mBin Y 8 lv st σ (fun x y => x - y)) := mStep_d dX1_of_7
theorem vX1_of_8 : mStep h k cX1_of bl Q Y (8, lv, st, σ) = (mCaS k Y 11 lv st σ 56) := mStep_d dX1_of_8
theorem vX1_of_11 : mStep h k cX1_of bl Q Y (11, lv, st, σ) = (mN1 Y 16 14 lv st σ) := (mStep_d dX1_of_11).trans (mIfN1_J jt_11_5 jp_11_5)
theorem vX1_of_14 : mStep h k cX1_of bl Q Y (14, lv, st, σ) = (Y (15, lv, .int (-1) :: st, σ)) := by rw [mStep_d dX1_of_14, ← mx_cm1]; rfl
theorem vX1_of_15 : mStep h k cX1_of bl Q Y (15, lv, st, σ) = (mRetI bl Q st σ) := mStep_d dX1_of_15
theorem vX1_of_16 : mStep h k cX1_of bl Q Y (16, lv, st, σ) = (mLdI Y 17 lv st σ 2) := mStep_d dX1_of_16
theorem vX1_of_17 : mStep h k cX1_of bl Q Y (17, lv, st, σ) = (mN1 Y 29 20 lv st σ) := (mStep_d dX1_of_17).trans (mIfN1_J jt_17_12 jp_17_12)
theorem vX1_of_20 : mStep h k cX1_of bl Q Y (20, lv, st, σ) = (mLdA Y 21 lv st σ 0) := mStep_d dX1_of_20
theorem vX1_of_21 : mStep h k cX1_of bl Q Y (21, lv, st, σ) = (mGet h k Y 24 lv st σ 32) := mStep_d dX1_of_21
theorem vX1_of_24 : mStep h k cX1_of bl Q Y (24, lv, st, σ) = (mLdI Y 25 lv st σ 1) := mStep_d dX1_of_24
theorem vX1_of_25 : mStep h k cX1_of bl Q Y (25, lv, st, σ) = (mLdE h Y 26 lv st σ) := mStep_d dX1_of_25
theorem vX1_of_26 : mStep h k cX1_of bl Q Y (26, lv, st, σ) = (Y (58, lv, st, σ)) := (mStep_d dX1_of_26).trans (mJ_J jt_26_32 jp_26_32)
theorem vX1_of_29 : mStep h k cX1_of bl Q Y (29, lv, st, σ) = (mLdI Y 30 lv st σ 2) := mStep_d dX1_of_29
theorem vX1_of_30 : mStep h k cX1_of bl Q Y (30, lv, st, σ) = (Y (31, lv, .int (1) :: st, σ)) := by rw [mStep_d dX1_of_30, ← mx_c1]; rfl
theorem vX1_of_31 : mStep h k cX1_of bl Q Y (31, lv, st, σ) = (mN2 Y 43 34 lv st σ) := (mStep_d dX1_of_31).trans (mIfN2_J jt_31_12 jp_31_12)
theorem vX1_of_34 : mStep h k cX1_of bl Q Y (34, lv, st, σ) = (mLdA Y 35 lv st σ 0) := mStep_d dX1_of_34
theorem vX1_of_35 : mStep h k cX1_of bl Q Y (35, lv, st, σ) = (mGet h k Y 38 lv st σ 35) := mStep_d dX1_of_35
theorem vX1_of_38 : mStep h k cX1_of bl Q Y (38, lv, st, σ) = (mLdI Y 39 lv st σ 1) := mStep_d dX1_of_38
theorem vX1_of_39 : mStep h k cX1_of bl Q Y (39, lv, st, σ) = (mLdE h Y 40 lv st σ) := mStep_d dX1_of_39
theorem vX1_of_40 : mStep h k cX1_of bl Q Y (40, lv, st, σ) = (Y (58, lv, st, σ)) := (mStep_d dX1_of_40).trans (mJ_J jt_40_18 jp_40_18)
theorem vX1_of_43 : mStep h k cX1_of bl Q Y (43, lv, st, σ) = (mLdI Y 44 lv st σ 2) := mStep_d dX1_of_43
theorem vX1_of_44 : mStep h k cX1_of bl Q Y (44, lv, st, σ) = (Y (45, lv, .int (2) :: st, σ)) := by rw [mStep_d dX1_of_44, ← mx_c2]; rfl
theorem vX1_of_45 : mStep h k cX1_of bl Q Y (45, lv, st, σ) = (mN2 Y 57 48 lv st σ) := (mStep_d dX1_of_45).trans (mIfN2_J jt_45_12 jp_45_12)
theorem vX1_of_48 : mStep h k cX1_of bl Q Y (48, lv, st, σ) = (mLdA Y 49 lv st σ 0) := mStep_d dX1_of_48
theorem vX1_of_49 : mStep h k cX1_of bl Q Y (49, lv, st, σ) = (mGet h k Y 52 lv st σ 38) := mStep_d dX1_of_49
theorem vX1_of_52 : mStep h k cX1_of bl Q Y (52, lv, st, σ) = (mLdI Y 53 lv st σ 1) := mStep_d dX1_of_52
theorem vX1_of_53 : mStep h k cX1_of bl Q Y (53, lv, st, σ) = (mLdE h Y 54 lv st σ) := mStep_d dX1_of_53
theorem vX1_of_54 : mStep h k cX1_of bl Q Y (54, lv, st, σ) = (Y (58, lv, st, σ)) := (mStep_d dX1_of_54).trans (mJ_J jt_54_4 jp_54_4)
theorem vX1_of_57 : mStep h k cX1_of bl Q Y (57, lv, st, σ) = (Y (58, lv, .int (-1) :: st, σ)) := by rw [mStep_d dX1_of_57, ← mx_cm1]; rfl
theorem vX1_of_58 : mStep h k cX1_of bl Q Y (58, lv, st, σ) = (mRetI bl Q st σ) := mStep_d dX1_of_58
theorem vX1_both_0 : mStep h k cX1_both bl Q Y (0, lv, st, σ) = (Y (1, lv, .int (0) :: st, σ)) := by rw [mStep_d dX1_both_0, ← mx_c0]; rfl
theorem vX1_both_1 : mStep h k cX1_both bl Q Y (1, lv, st, σ) = (mStI Y 2 lv st σ 3) := mStep_d dX1_both_1
theorem vX1_both_2 : mStep h k cX1_both bl Q Y (2, lv, st, σ) = (Y (3, lv, .int (0) :: st, σ)) := by rw [mStep_d dX1_both_2, ← mx_c0]; rfl
theorem vX1_both_3 : mStep h k cX1_both bl Q Y (3, lv, st, σ) = (mStI Y 5 lv st σ 4) := mStep_d dX1_both_3
theorem vX1_both_5 : mStep h k cX1_both bl Q Y (5, lv, st, σ) = (mLdI Y 7 lv st σ 4) := mStep_d dX1_both_5
theorem vX1_both_7 : mStep h k cX1_both bl Q Y (7, lv, st, σ) = (mLdA Y 8 lv st σ 0) := mStep_d dX1_both_7
theorem vX1_both_8 : mStep h k cX1_both bl Q Y (8, lv, st, σ) = (mGet h k Y 11 lv st σ 73) := mStep_d dX1_both_8
theorem vX1_both_11 : mStep h k cX1_both bl Q Y (11, lv, st, σ) = (mJ2 Y 58 14 lv st σ (fun x y => y ≤ x)) := (mStep_d dX1_both_11).trans (mIf2_J jt_11_47 jp_11_47)
theorem vX1_both_14 : mStep h k cX1_both bl Q Y (14, lv, st, σ) = (mLdI Y 15 lv st σ 3) := mStep_d dX1_both_14
theorem vX1_both_15 : mStep h k cX1_both bl Q Y (15, lv, st, σ) = (mLdA Y 16 lv st σ 0) := mStep_d dX1_both_15
theorem vX1_both_16 : mStep h k cX1_both bl Q Y (16, lv, st, σ) = (mGet h k Y 19 lv st σ 38) := mStep_d dX1_both_16
theorem vX1_both_19 : mStep h k cX1_both bl Q Y (19, lv, st, σ) = (mLdI Y 21 lv st σ 4) := mStep_d dX1_both_19
theorem vX1_both_21 : mStep h k cX1_both bl Q Y (21, lv, st, σ) = (mLdE h Y 22 lv st σ) := mStep_d dX1_both_21
theorem vX1_both_22 : mStep h k cX1_both bl Q Y (22, lv, st, σ) = (mLdI Y 23 lv st σ 1) := mStep_d dX1_both_22
theorem vX1_both_23 : mStep h k cX1_both bl Q Y (23, lv, st, σ) = (mBin Y 24 lv st σ (fun x y => x >>> (y &&& 31))) := mStep_d dX1_both_23
theorem vX1_both_24 : mStep h k cX1_both bl Q Y (24, lv, st, σ) = (Y (25, lv, .int (1) :: st, σ)) := by rw [mStep_d dX1_both_24, ← mx_c1]; rfl
theorem vX1_both_25 : mStep h k cX1_both bl Q Y (25, lv, st, σ) = (mBin Y 26 lv st σ (fun x y => x &&& y)) := mStep_d dX1_both_25
theorem vX1_both_26 : mStep h k cX1_both bl Q Y (26, lv, st, σ) = (Y (27, lv, .int (1) :: st, σ)) := by rw [mStep_d dX1_both_26, ← mx_c1]; rfl
theorem vX1_both_27 : mStep h k cX1_both bl Q Y (27, lv, st, σ) = (mN2 Y 49 30 lv st σ) := (mStep_d dX1_both_27).trans (mIfN2_J jt_27_22 jp_27_22)
theorem vX1_both_30 : mStep h k cX1_both bl Q Y (30, lv, st, σ) = (mLdA Y 31 lv st σ 0) := mStep_d dX1_both_30
theorem vX1_both_31 : mStep h k cX1_both bl Q Y (31, lv, st, σ) = (mGet h k Y 34 lv st σ 38) := mStep_d dX1_both_31
theorem vX1_both_34 : mStep h k cX1_both bl Q Y (34, lv, st, σ) = (mLdI Y 36 lv st σ 4) := mStep_d dX1_both_34
theorem vX1_both_36 : mStep h k cX1_both bl Q Y (36, lv, st, σ) = (mLdE h Y 37 lv st σ) := mStep_d dX1_both_36
theorem vX1_both_37 : mStep h k cX1_both bl Q Y (37, lv, st, σ) = (mLdI Y 38 lv st σ 2) := mStep_d dX1_both_37
theorem vX1_both_38 : mStep h k cX1_both bl Q Y (38, lv, st, σ) = (mBin Y 39 lv st σ (fun x y => x >>> (y &&& 31))) := mStep_d dX1_both_38
theorem vX1_both_39 : mStep h k cX1_both bl Q Y (39, lv, st, σ) = (Y (40, lv, .int (1) :: st, σ)) := by rw [mStep_d dX1_both_39, ← mx_c1]; rfl
theorem vX1_both_40 : mStep h k cX1_both bl Q Y (40, lv, st, σ) = (mBin Y 41 lv st σ (fun x y => x &&& y)) := mStep_d dX1_both_40
theorem vX1_both_41 : mStep h k cX1_both bl Q Y (41, lv, st, σ) = (Y (42, lv, .int (1) :: st, σ)) := by rw [mStep_d dX1_both_41, ← mx_c1]; rfl
theorem vX1_both_42 : mStep h k cX1_both bl Q Y (42, lv, st, σ) = (mN2 Y 49 45 lv st σ) := (mStep_d dX1_both_42).trans (mIfN2_J jt_42_7 jp_42_7)
theorem vX1_both_45 : mStep h k cX1_both bl Q Y (45, lv, st, σ) = (Y (46, lv, .int (1) :: st, σ)) := by rw [mStep_d dX1_both_45, ← mx_c1]; rfl
theorem vX1_both_46 : mStep h k cX1_both bl Q Y (46, lv, st, σ) = (Y (50, lv, st, σ)) := (mStep_d dX1_both_46).trans (mJ_J jt_46_4 jp_46_4)
theorem vX1_both_49 : mStep h k cX1_both bl Q Y (49, lv, st, σ) = (Y (50, lv, .int (0) :: st, σ)) := by rw [mStep_d dX1_both_49, ← mx_c0]; rfl
theorem vX1_both_50 : mStep h k cX1_both bl Q Y (50, lv, st, σ) = (mBin Y 51 lv st σ (fun x y => x + y)) := mStep_d dX1_both_50
theorem vX1_both_51 : mStep h k cX1_both bl Q Y (51, lv, st, σ) = (mStI Y 52 lv st σ 3) := mStep_d dX1_both_51
theorem vX1_both_52 : mStep h k cX1_both bl Q Y (52, lv, st, σ) = (mInc Y 55 lv st σ 4 (1)) := by rw [mStep_d dX1_both_52, ← mx_c1]; rfl
theorem vX1_both_55 : mStep h k cX1_both bl Q Y (55, lv, st, σ) = (Y (5, lv, st, σ)) := (mStep_d dX1_both_55).trans (mJ_J jt_55_m50 jp_55_m50)
theorem vX1_both_58 : mStep h k cX1_both bl Q Y (58, lv, st, σ) = (mLdI Y 59 lv st σ 3) := mStep_d dX1_both_58
theorem vX1_both_59 : mStep h k cX1_both bl Q Y (59, lv, st, σ) = (mRetI bl Q st σ) := mStep_d dX1_both_59
theorem vX1_people_0 : mStep h k cX1_people bl Q Y (0, lv, st, σ) = (Y (1, lv, .int (0) :: st, σ)) := by rw [mStep_d dX1_people_0, ← mx_c0]; rfl
theorem vX1_people_1 : mStep h k cX1_people bl Q Y (1, lv, st, σ) = (mStI Y 2 lv st σ 3) := mStep_d dX1_people_1
theorem vX1_people_2 : mStep h k cX1_people bl Q Y (2, lv, st, σ) = (Y (3, lv, .int (0) :: st, σ)) := by rw [mStep_d dX1_people_2, ← mx_c0]; rfl
theorem vX1_people_3 : mStep h k cX1_people bl Q Y (3, lv, st, σ) = (mStI Y 5 lv st σ 4) := mStep_d dX1_people_3
theorem vX1_people_5 : mStep h k cX1_people bl Q Y (5, lv, st, σ) = (mLdI Y 7 lv st σ 4) := mStep_d dX1_people_5
theorem vX1_people_7 : mStep h k cX1_people bl Q Y (7, lv, st, σ) = (Y (9, lv, .int (8) :: st, σ)) := by rw [mStep_d dX1_people_7, ← mx_b8]; rfl
theorem vX1_people_9 : mStep h k cX1_people bl Q Y (9, lv, st, σ) = (mJ2 Y 106 12 lv st σ (fun x y => y ≤ x)) := (mStep_d dX1_people_9).trans (mIf2_J jt_9_97 jp_9_97)
theorem vX1_people_12 : mStep h k cX1_people bl Q Y (12, lv, st, σ) = (Y (13, lv, .int (0) :: st, σ)) := by rw [mStep_d dX1_people_12, ← mx_c0]; rfl
theorem vX1_people_13 : mStep h k cX1_people bl Q Y (13, lv, st, σ) = (mStI Y 15 lv st σ 5) := mStep_d dX1_people_13
theorem vX1_people_15 : mStep h k cX1_people bl Q Y (15, lv, st, σ) = (Y (16, lv, .int (0) :: st, σ)) := by rw [mStep_d dX1_people_15, ← mx_c0]; rfl
theorem vX1_people_16 : mStep h k cX1_people bl Q Y (16, lv, st, σ) = (mStI Y 18 lv st σ 6) := mStep_d dX1_people_16
theorem vX1_people_18 : mStep h k cX1_people bl Q Y (18, lv, st, σ) = (mLdI Y 20 lv st σ 6) := mStep_d dX1_people_18
theorem vX1_people_20 : mStep h k cX1_people bl Q Y (20, lv, st, σ) = (mLdA Y 21 lv st σ 0) := mStep_d dX1_people_20
theorem vX1_people_21 : mStep h k cX1_people bl Q Y (21, lv, st, σ) = (mGet h k Y 24 lv st σ 73) := mStep_d dX1_people_21
theorem vX1_people_24 : mStep h k cX1_people bl Q Y (24, lv, st, σ) = (mJ2 Y 87 27 lv st σ (fun x y => y ≤ x)) := (mStep_d dX1_people_24).trans (mIf2_J jt_24_63 jp_24_63)
theorem vX1_people_27 : mStep h k cX1_people bl Q Y (27, lv, st, σ) = (mLdI Y 29 lv st σ 5) := mStep_d dX1_people_27
theorem vX1_people_29 : mStep h k cX1_people bl Q Y (29, lv, st, σ) = (mN1 Y 74 32 lv st σ) := (mStep_d dX1_people_29).trans (mIfN1_J jt_29_45 jp_29_45)
theorem vX1_people_32 : mStep h k cX1_people bl Q Y (32, lv, st, σ) = (mLdA Y 33 lv st σ 0) := mStep_d dX1_people_32
theorem vX1_people_33 : mStep h k cX1_people bl Q Y (33, lv, st, σ) = (mGet h k Y 36 lv st σ 32) := mStep_d dX1_people_33
theorem vX1_people_36 : mStep h k cX1_people bl Q Y (36, lv, st, σ) = (mLdI Y 38 lv st σ 6) := mStep_d dX1_people_36
theorem vX1_people_38 : mStep h k cX1_people bl Q Y (38, lv, st, σ) = (mLdE h Y 39 lv st σ) := mStep_d dX1_people_38
theorem vX1_people_39 : mStep h k cX1_people bl Q Y (39, lv, st, σ) = (mLdI Y 41 lv st σ 4) := mStep_d dX1_people_39
theorem vX1_people_41 : mStep h k cX1_people bl Q Y (41, lv, st, σ) = (mN2 Y 78 44 lv st σ) := (mStep_d dX1_people_41).trans (mIfN2_J jt_41_37 jp_41_37)
theorem vX1_people_44 : mStep h k cX1_people bl Q Y (44, lv, st, σ) = (mLdA Y 45 lv st σ 0) := mStep_d dX1_people_44
theorem vX1_people_45 : mStep h k cX1_people bl Q Y (45, lv, st, σ) = (mGet h k Y 48 lv st σ 38) := mStep_d dX1_people_45
theorem vX1_people_48 : mStep h k cX1_people bl Q Y (48, lv, st, σ) = (mLdI Y 50 lv st σ 6) := mStep_d dX1_people_48
theorem vX1_people_50 : mStep h k cX1_people bl Q Y (50, lv, st, σ) = (mLdE h Y 51 lv st σ) := mStep_d dX1_people_50
theorem vX1_people_51 : mStep h k cX1_people bl Q Y (51, lv, st, σ) = (mLdI Y 52 lv st σ 1) := mStep_d dX1_people_51
theorem vX1_people_52 : mStep h k cX1_people bl Q Y (52, lv, st, σ) = (mBin Y 53 lv st σ (fun x y => x >>> (y &&& 31))) := mStep_d dX1_people_52
theorem vX1_people_53 : mStep h k cX1_people bl Q Y (53, lv, st, σ) = (Y (54, lv, .int (1) :: st, σ)) := by rw [mStep_d dX1_people_53, ← mx_c1]; rfl
theorem vX1_people_54 : mStep h k cX1_people bl Q Y (54, lv, st, σ) = (mBin Y 55 lv st σ (fun x y => x &&& y)) := mStep_d dX1_people_54
theorem vX1_people_55 : mStep h k cX1_people bl Q Y (55, lv, st, σ) = (Y (56, lv, .int (1) :: st, σ)) := by rw [mStep_d dX1_people_55, ← mx_c1]; rfl
theorem vX1_people_56 : mStep h k cX1_people bl Q Y (56, lv, st, σ) = (mN2 Y 78 59 lv st σ) := (mStep_d dX1_people_56).trans (mIfN2_J jt_56_22 jp_56_22)
theorem vX1_people_59 : mStep h k cX1_people bl Q Y (59, lv, st, σ) = (mLdA Y 60 lv st σ 0) := mStep_d dX1_people_59
theorem vX1_people_60 : mStep h k cX1_people bl Q Y (60, lv, st, σ) = (mGet h k Y 63 lv st σ 38) := mStep_d dX1_people_60
theorem vX1_people_63 : mStep h k cX1_people bl Q Y (63, lv, st, σ) = (mLdI Y 65 lv st σ 6) := mStep_d dX1_people_63
theorem vX1_people_65 : mStep h k cX1_people bl Q Y (65, lv, st, σ) = (mLdE h Y 66 lv st σ) := mStep_d dX1_people_65
theorem vX1_people_66 : mStep h k cX1_people bl Q Y (66, lv, st, σ) = (mLdI Y 67 lv st σ 2) := mStep_d dX1_people_66
theorem vX1_people_67 : mStep h k cX1_people bl Q Y (67, lv, st, σ) = (mBin Y 68 lv st σ (fun x y => x >>> (y &&& 31))) := mStep_d dX1_people_67
theorem vX1_people_68 : mStep h k cX1_people bl Q Y (68, lv, st, σ) = (Y (69, lv, .int (1) :: st, σ)) := by rw [mStep_d dX1_people_68, ← mx_c1]; rfl
theorem vX1_people_69 : mStep h k cX1_people bl Q Y (69, lv, st, σ) = (mBin Y 70 lv st σ (fun x y => x &&& y)) := mStep_d dX1_people_69
theorem vX1_people_70 : mStep h k cX1_people bl Q Y (70, lv, st, σ) = (Y (71, lv, .int (1) :: st, σ)) := by rw [mStep_d dX1_people_70, ← mx_c1]; rfl
theorem vX1_people_71 : mStep h k cX1_people bl Q Y (71, lv, st, σ) = (mN2 Y 78 74 lv st σ) := (mStep_d dX1_people_71).trans (mIfN2_J jt_71_7 jp_71_7)
theorem vX1_people_74 : mStep h k cX1_people bl Q Y (74, lv, st, σ) = (Y (75, lv, .int (1) :: st, σ)) := by rw [mStep_d dX1_people_74, ← mx_c1]; rfl
theorem vX1_people_75 : mStep h k cX1_people bl Q Y (75, lv, st, σ) = (Y (79, lv, st, σ)) := (mStep_d dX1_people_75).trans (mJ_J jt_75_4 jp_75_4)
theorem vX1_people_78 : mStep h k cX1_people bl Q Y (78, lv, st, σ) = (Y (79, lv, .int (0) :: st, σ)) := by rw [mStep_d dX1_people_78, ← mx_c0]; rfl
theorem vX1_people_79 : mStep h k cX1_people bl Q Y (79, lv, st, σ) = (mStI Y 81 lv st σ 5) := mStep_d dX1_people_79
theorem vX1_people_81 : mStep h k cX1_people bl Q Y (81, lv, st, σ) = (mInc Y 84 lv st σ 6 (1)) := by rw [mStep_d dX1_people_81, ← mx_c1]; rfl
theorem vX1_people_84 : mStep h k cX1_people bl Q Y (84, lv, st, σ) = (Y (18, lv, st, σ)) := (mStep_d dX1_people_84).trans (mJ_J jt_84_m66 jp_84_m66)
theorem vX1_people_87 : mStep h k cX1_people bl Q Y (87, lv, st, σ) = (mLdI Y 88 lv st σ 3) := mStep_d dX1_people_87
theorem vX1_people_88 : mStep h k cX1_people bl Q Y (88, lv, st, σ) = (mLdI Y 90 lv st σ 5) := mStep_d dX1_people_88
theorem vX1_people_90 : mStep h k cX1_people bl Q Y (90, lv, st, σ) = (mJ1 Y 97 93 lv st σ (fun x => x = 0)) := (mStep_d dX1_people_90).trans (mIf1_J jt_90_7 jp_90_7)
theorem vX1_people_93 : mStep h k cX1_people bl Q Y (93, lv, st, σ) = (Y (94, lv, .int (1) :: st, σ)) := by rw [mStep_d dX1_people_93, ← mx_c1]; rfl
theorem vX1_people_94 : mStep h k cX1_people bl Q Y (94, lv, st, σ) = (Y (98, lv, st, σ)) := (mStep_d dX1_people_94).trans (mJ_J jt_94_4 jp_94_4)
theorem vX1_people_97 : mStep h k cX1_people bl Q Y (97, lv, st, σ) = (Y (98, lv, .int (0) :: st, σ)) := by rw [mStep_d dX1_people_97, ← mx_c0]; rfl
theorem vX1_people_98 : mStep h k cX1_people bl Q Y (98, lv, st, σ) = (mBin Y 99 lv st σ (fun x y => x + y)) := mStep_d dX1_people_98
theorem vX1_people_99 : mStep h k cX1_people bl Q Y (99, lv, st, σ) = (mStI Y 100 lv st σ 3) := mStep_d dX1_people_99
theorem vX1_people_100 : mStep h k cX1_people bl Q Y (100, lv, st, σ) = (mInc Y 103 lv st σ 4 (1)) := by rw [mStep_d dX1_people_100, ← mx_c1]; rfl
theorem vX1_people_103 : mStep h k cX1_people bl Q Y (103, lv, st, σ) = (Y (5, lv, st, σ)) := (mStep_d dX1_people_103).trans (mJ_J jt_103_m98 jp_103_m98)
theorem vX1_people_106 : mStep h k cX1_people bl Q Y (106, lv, st, σ) = (mLdI Y 107 lv st σ 3) := mStep_d dX1_people_106
theorem vX1_people_107 : mStep h k cX1_people bl Q Y (107, lv, st, σ) = (mRetI bl Q st σ) := mStep_d dX1_people_107
theorem vX1_count_0 : mStep h k cX1_count bl Q Y (0, lv, st, σ) = (mLdA Y 1 lv st σ 0) := mStep_d dX1_count_0
theorem vX1_count_1 : mStep h k cX1_count bl Q Y (1, lv, st, σ) = (mLdI Y 2 lv st σ 1) := mStep_d dX1_count_1
theorem vX1_count_2 : mStep h k cX1_count bl Q Y (2, lv, st, σ) = (mCaV k Y 5 lv st σ 66) := mStep_d dX1_count_2
theorem vX1_count_5 : mStep h k cX1_count bl Q Y (5, lv, st, σ) = (mJ1 Y 16 8 lv st σ (fun x => x = 0)) := (mStep_d dX1_count_5).trans (mIf1_J jt_5_11 jp_5_11)
theorem vX1_count_8 : mStep h k cX1_count bl Q Y (8, lv, st, σ) = (mLdA Y 9 lv st σ 0) := mStep_d dX1_count_8
theorem vX1_count_9 : mStep h k cX1_count bl Q Y (9, lv, st, σ) = (mLdI Y 10 lv st σ 2) := mStep_d dX1_count_9
theorem vX1_count_10 : mStep h k cX1_count bl Q Y (10, lv, st, σ) = (mCaV k Y 13 lv st σ 66) := mStep_d dX1_count_10
theorem vX1_count_13 : mStep h k cX1_count bl Q Y (13, lv, st, σ) = (mN1 Y 20 16 lv st σ) := (mStep_d dX1_count_13).trans (mIfN1_J jt_13_7 jp_13_7)
theorem vX1_count_16 : mStep h k cX1_count bl Q Y (16, lv, st, σ) = (Y (17, lv, .int (-1) :: st, σ)) := by rw [mStep_d dX1_count_16, ← mx_cm1]; rfl
theorem vX1_count_17 : mStep h k cX1_count bl Q Y (17, lv, st, σ) = (Y (48, lv, st, σ)) := (mStep_d dX1_count_17).trans (mJ_J jt_17_31 jp_17_31)
theorem vX1_count_20 : mStep h k cX1_count bl Q Y (20, lv, st, σ) = (mLdI Y 21 lv st σ 3) := mStep_d dX1_count_20
theorem vX1_count_21 : mStep h k cX1_count bl Q Y (21, lv, st, σ) = (mN1 Y 33 24 lv st σ) := (mStep_d dX1_count_21).trans (mIfN1_J jt_21_12 jp_21_12)
theorem vX1_count_24 : mStep h k cX1_count bl Q Y (24, lv, st, σ) = (mLdA Y 25 lv st σ 0) := mStep_d dX1_count_24
theorem vX1_count_25 : mStep h k cX1_count bl Q Y (25, lv, st, σ) = (mLdI Y 26 lv st σ 1) := mStep_d dX1_count_25
theorem vX1_count_26 : mStep h k cX1_count bl Q Y (26, lv, st, σ) = (mLdI Y 27 lv st σ 2) := mStep_d dX1_count_26
theorem vX1_count_27 : mStep h k cX1_count bl Q Y (27, lv, st, σ) = (mCaV k Y 30 lv st σ 84) := mStep_d dX1_count_27
theorem vX1_count_30 : mStep h k cX1_count bl Q Y (30, lv, st, σ) = (Y (48, lv, st, σ)) := (mStep_d dX1_count_30).trans (mJ_J jt_30_18 jp_30_18)
theorem vX1_count_33 : mStep h k cX1_count bl Q Y (33, lv, st, σ) = (mLdI Y 34 lv st σ 3) := mStep_d dX1_count_33
theorem vX1_count_34 : mStep h k cX1_count bl Q Y (34, lv, st, σ) = (Y (35, lv, .int (1) :: st, σ)) := by rw [mStep_d dX1_count_34, ← mx_c1]; rfl
theorem vX1_count_35 : mStep h k cX1_count bl Q Y (35, lv, st, σ) = (mN2 Y 47 38 lv st σ) := (mStep_d dX1_count_35).trans (mIfN2_J jt_35_12 jp_35_12)
theorem vX1_count_38 : mStep h k cX1_count bl Q Y (38, lv, st, σ) = (mLdA Y 39 lv st σ 0) := mStep_d dX1_count_38
theorem vX1_count_39 : mStep h k cX1_count bl Q Y (39, lv, st, σ) = (mLdI Y 40 lv st σ 1) := mStep_d dX1_count_39
theorem vX1_count_40 : mStep h k cX1_count bl Q Y (40, lv, st, σ) = (mLdI Y 41 lv st σ 2) := mStep_d dX1_count_40
theorem vX1_count_41 : mStep h k cX1_count bl Q Y (41, lv, st, σ) = (mCaV k Y 44 lv st σ 88) := mStep_d dX1_count_41
theorem vX1_count_44 : mStep h k cX1_count bl Q Y (44, lv, st, σ) = (Y (48, lv, st, σ)) := (mStep_d dX1_count_44).trans (mJ_J jt_44_4 jp_44_4)
theorem vX1_count_47 : mStep h k cX1_count bl Q Y (47, lv, st, σ) = (Y (48, lv, .int (-1) :: st, σ)) := by rw [mStep_d dX1_count_47, ← mx_cm1]; rfl
theorem vX1_count_48 : mStep h k cX1_count bl Q Y (48, lv, st, σ) = (mRetI bl Q st σ) := mStep_d dX1_count_48
theorem vX1_kinOf_0 : mStep h k cX1_kinOf bl Q Y (0, lv, st, σ) = (mLdA Y 1 lv st σ 0) := mStep_d dX1_kinOf_0
theorem vX1_kinOf_1 : mStep h k cX1_kinOf bl Q Y (1, lv, st, σ) = (mLdI Y 2 lv st σ 1) := mStep_d dX1_kinOf_1
theorem vX1_kinOf_2 : mStep h k cX1_kinOf bl Q Y (2, lv, st, σ) = (mLdI Y 3 lv st σ 1) := mStep_d dX1_kinOf_2
theorem vX1_kinOf_3 : mStep h k cX1_kinOf bl Q Y (3, lv, st, σ) = (mCaV k Y 6 lv st σ 84) := mStep_d dX1_kinOf_3
theorem vX1_kinOf_6 : mStep h k cX1_kinOf bl Q Y (6, lv, st, σ) = (mStI Y 7 lv st σ 3) := mStep_d dX1_kinOf_6
theorem vX1_kinOf_7 : mStep h k cX1_kinOf bl Q Y (7, lv, st, σ) = (mLdA Y 8 lv st σ 0) := mStep_d dX1_kinOf_7
theorem vX1_kinOf_8 : mStep h k cX1_kinOf bl Q Y (8, lv, st, σ) = (mLdI Y 9 lv st σ 2) := mStep_d dX1_kinOf_8
theorem vX1_kinOf_9 : mStep h k cX1_kinOf bl Q Y (9, lv, st, σ) = (mLdI Y 10 lv st σ 2) := mStep_d dX1_kinOf_9
theorem vX1_kinOf_10 : mStep h k cX1_kinOf bl Q Y (10, lv, st, σ) = (mCaV k Y 13 lv st σ 84) := mStep_d dX1_kinOf_10
theorem vX1_kinOf_13 : mStep h k cX1_kinOf bl Q Y (13, lv, st, σ) = (mStI Y 15 lv st σ 4) := mStep_d dX1_kinOf_13
theorem vX1_kinOf_15 : mStep h k cX1_kinOf bl Q Y (15, lv, st, σ) = (mLdI Y 16 lv st σ 3) := mStep_d dX1_kinOf_15
theorem vX1_kinOf_16 : mStep h k cX1_kinOf bl Q Y (16, lv, st, σ) = (mJ1 Y 37 19 lv st σ (fun x => x = 0)) := (mStep_d dX1_kinOf_16).trans (mIf1_J jt_16_21 jp_16_21)
theorem vX1_kinOf_19 : mStep h k cX1_kinOf bl Q Y (19, lv, st, σ) = (mLdI Y 21 lv st σ 4) := mStep_d dX1_kinOf_19
theorem vX1_kinOf_21 : mStep h k cX1_kinOf bl Q Y (21, lv, st, σ) = (mJ1 Y 37 24 lv st σ (fun x => x = 0)) := (mStep_d dX1_kinOf_21).trans (mIf1_J jt_21_16 jp_21_16)
theorem vX1_kinOf_24 : mStep h k cX1_kinOf bl Q Y (24, lv, st, σ) = (mLdA Y 25 lv st σ 0) := mStep_d dX1_kinOf_24
theorem vX1_kinOf_25 : mStep h k cX1_kinOf bl Q Y (25, lv, st, σ) = (mLdI Y 26 lv st σ 1) := mStep_d dX1_kinOf_25
theorem vX1_kinOf_26 : mStep h k cX1_kinOf bl Q Y (26, lv, st, σ) = (mLdI Y 27 lv st σ 2) := mStep_d dX1_kinOf_26
theorem vX1_kinOf_27 : mStep h k cX1_kinOf bl Q Y (27, lv, st, σ) = (mCaV k Y 30 lv st σ 88) := mStep_d dX1_kinOf_27
theorem vX1_kinOf_30 : mStep h k cX1_kinOf bl Q Y (30, lv, st, σ) = (mLdA Y 31 lv st σ 0) := mStep_d dX1_kinOf_30
theorem vX1_kinOf_31 : mStep h k cX1_kinOf bl Q Y (31, lv, st, σ) = (mGet h k Y 34 lv st σ 7) := mStep_d dX1_kinOf_31
theorem vX1_kinOf_34 : mStep h k cX1_kinOf bl Q Y (34, lv, st, σ) = (mJ2 Y 39 37 lv st σ (fun x y => y ≤ x)) := (mStep_d dX1_kinOf_34).trans (mIf2_J jt_34_5 jp_34_5)
theorem vX1_kinOf_37 : mStep h k cX1_kinOf bl Q Y (37, lv, st, σ) = (Y (38, lv, .int (0) :: st, σ)) := by rw [mStep_d dX1_kinOf_37, ← mx_c0]; rfl
theorem vX1_kinOf_38 : mStep h k cX1_kinOf bl Q Y (38, lv, st, σ) = (mRetI bl Q st σ) := mStep_d dX1_kinOf_38
theorem vX1_kinOf_39 : mStep h k cX1_kinOf bl Q Y (39, lv, st, σ) = (Y (42, lv, .int (1000) :: st, σ)) := by rw [mStep_d dX1_kinOf_39, ← mx_s1000]; rfl
theorem vX1_kinOf_42 : mStep h k cX1_kinOf bl Q Y (42, lv, st, σ) = (mLdA Y 43 lv st σ 0) := mStep_d dX1_kinOf_42
theorem vX1_kinOf_43 : mStep h k cX1_kinOf bl Q Y (43, lv, st, σ) = (mLdI Y 44 lv st σ 1) := mStep_d dX1_kinOf_43
theorem vX1_kinOf_44 : mStep h k cX1_kinOf bl Q Y (44, lv, st, σ) = (mLdI Y 45 lv st σ 2) := mStep_d dX1_kinOf_44
theorem vX1_kinOf_45 : mStep h k cX1_kinOf bl Q Y (45, lv, st, σ) = (mCaV k Y 48 lv st σ 84) := mStep_d dX1_kinOf_45
theorem vX1_kinOf_48 : mStep h k cX1_kinOf bl Q Y (48, lv, st, σ) = (mBin Y 49 lv st σ (fun x y => x * y)) := mStep_d dX1_kinOf_48
theorem vX1_kinOf_49 : mStep h k cX1_kinOf bl Q Y (49, lv, st, σ) = (mLdA Y 50 lv st σ 0) := mStep_d dX1_kinOf_49
theorem vX1_kinOf_50 : mStep h k cX1_kinOf bl Q Y (50, lv, st, σ) = (mGet h k Y 53 lv st σ 73) := mStep_d dX1_kinOf_50
theorem vX1_kinOf_53 : mStep h k cX1_kinOf bl Q Y (53, lv, st, σ) = (mBin Y 54 lv st σ (fun x y => x * y)) := mStep_d dX1_kinOf_53
theorem vX1_kinOf_54 : mStep h k cX1_kinOf bl Q Y (54, lv, st, σ) = (mLdI Y 55 lv st σ 3) := mStep_d dX1_kinOf_54
theorem vX1_kinOf_55 : mStep h k cX1_kinOf bl Q Y (55, lv, st, σ) = (mLdI Y 57 lv st σ 4) := mStep_d dX1_kinOf_55
theorem vX1_kinOf_57 : mStep h k cX1_kinOf bl Q Y (57, lv, st, σ) = (mBin Y 58 lv st σ (fun x y => x * y)) := mStep_d dX1_kinOf_57
theorem vX1_kinOf_58 : mStep h k cX1_kinOf bl Q Y (58, lv, st, σ) = (mDiv Y 59 lv st σ (fun x y => x / y)) := mStep_d dX1_kinOf_58
theorem vX1_kinOf_59 : mStep h k cX1_kinOf bl Q Y (59, lv, st, σ) = (Y (62, lv, .int (1000) :: st, σ)) := by rw [mStep_d dX1_kinOf_59, ← mx_s1000]; rfl
theorem vX1_kinOf_62 : mStep h k cX1_kinOf bl Q Y (62, lv, st, σ) = (mBin Y 63 lv st σ (fun x y => x - y)) := mStep_d dX1_kinOf_62
theorem vX1_kinOf_63 : mStep h k cX1_kinOf bl Q Y (63, lv, st, σ) = (mRetI bl Q st σ) := mStep_d dX1_kinOf_63
theorem vX1_kin_0 : mStep h k cX1_kin bl Q Y (0, lv, st, σ) = (mLdA Y 1 lv st σ 0) := mStep_d dX1_kin_0
theorem vX1_kin_1 : mStep h k cX1_kin bl Q Y (1, lv, st, σ) = (mLdI Y 2 lv st σ 1) := mStep_d dX1_kin_1
theorem vX1_kin_2 : mStep h k cX1_kin bl Q Y (2, lv, st, σ) = (mCaV k Y 5 lv st σ 66) := mStep_d dX1_kin_2
theorem vX1_kin_5 : mStep h k cX1_kin bl Q Y (5, lv, st, σ) = (mJ1 Y 30 8 lv st σ (fun x => x = 0)) := (mStep_d dX1_kin_5).trans (mIf1_J jt_5_25 jp_5_25)
theorem vX1_kin_8 : mStep h k cX1_kin bl Q Y (8, lv, st, σ) = (mLdA Y 9 lv st σ 0) := mStep_d dX1_kin_8
theorem vX1_kin_9 : mStep h k cX1_kin bl Q Y (9, lv, st, σ) = (mLdI Y 10 lv st σ 2) := mStep_d dX1_kin_9
theorem vX1_kin_10 : mStep h k cX1_kin bl Q Y (10, lv, st, σ) = (mCaV k Y 13 lv st σ 66) := mStep_d dX1_kin_10
theorem vX1_kin_13 : mStep h k cX1_kin bl Q Y (13, lv, st, σ) = (mJ1 Y 30 16 lv st σ (fun x => x = 0)) := (mStep_d dX1_kin_13).trans (mIf1_J jt_13_17 jp_13_17)
theorem vX1_kin_16 : mStep h k cX1_kin bl Q Y (16, lv, st, σ) = (mLdI Y 17 lv st σ 1) := mStep_d dX1_kin_16
theorem vX1_kin_17 : mStep h k cX1_kin bl Q Y (17, lv, st, σ) = (mLdI Y 18 lv st σ 2) := mStep_d dX1_kin_17
theorem vX1_kin_18 : mStep h k cX1_kin bl Q Y (18, lv, st, σ) = (mJ2 Y 30 21 lv st σ (fun x y => x = y)) := (mStep_d dX1_kin_18).trans (mIf2_J jt_18_12 jp_18_12)
theorem vX1_kin_21 : mStep h k cX1_kin bl Q Y (21, lv, st, σ) = (mLdA Y 22 lv st σ 0) := mStep_d dX1_kin_21
theorem vX1_kin_22 : mStep h k cX1_kin bl Q Y (22, lv, st, σ) = (mLdI Y 23 lv st σ 1) := mStep_d dX1_kin_22
theorem vX1_kin_23 : mStep h k cX1_kin bl Q Y (23, lv, st, σ) = (mLdI Y 24 lv st σ 2) := mStep_d dX1_kin_23
theorem vX1_kin_24 : mStep h k cX1_kin bl Q Y (24, lv, st, σ) = (mCaV k Y 27 lv st σ 91) := mStep_d dX1_kin_24
theorem vX1_kin_27 : mStep h k cX1_kin bl Q Y (27, lv, st, σ) = (Y (32, lv, st, σ)) := (mStep_d dX1_kin_27).trans (mJ_J jt_27_5 jp_27_5)
theorem vX1_kin_30 : mStep h k cX1_kin bl Q Y (30, lv, st, σ) = (mKon k Y 32 lv st σ 94) := mStep_d dX1_kin_30
theorem vX1_kin_32 : mStep h k cX1_kin bl Q Y (32, lv, st, σ) = (mRetI bl Q st σ) := mStep_d dX1_kin_32
theorem vX1_near_0 : mStep h k cX1_near bl Q Y (0, lv, st, σ) = (mLdA Y 1 lv st σ 0) := mStep_d dX1_near_0
theorem vX1_near_1 : mStep h k cX1_near bl Q Y (1, lv, st, σ) = (mLdI Y 2 lv st σ 1) := mStep_d dX1_near_1
theorem vX1_near_2 : mStep h k cX1_near bl Q Y (2, lv, st, σ) = (mCaV k Y 5 lv st σ 66) := mStep_d dX1_near_2
theorem vX1_near_5 : mStep h k cX1_near bl Q Y (5, lv, st, σ) = (mJ1 Y 22 8 lv st σ (fun x => x = 0)) := (mStep_d dX1_near_5).trans (mIf1_J jt_5_17 jp_5_17)
theorem vX1_near_8 : mStep h k cX1_near bl Q Y (8, lv, st, σ) = (mLdI Y 9 lv st σ 2) := mStep_d dX1_near_8
theorem vX1_near_9 : mStep h k cX1_near bl Q Y (9, lv, st, σ) = (Y (10, lv, .int (0) :: st, σ)) := by rw [mStep_d dX1_near_9, ← mx_c0]; rfl
theorem vX1_near_10 : mStep h k cX1_near bl Q Y (10, lv, st, σ) = (mLdA Y 11 lv st σ 0) := mStep_d dX1_near_10
theorem vX1_near_11 : mStep h k cX1_near bl Q Y (11, lv, st, σ) = (mGet h k Y 14 lv st σ 53) := mStep_d dX1_near_11
theorem vX1_near_14 : mStep h k cX1_near bl Q Y (14, lv, st, σ) = (Y (15, lv, .int (2) :: st, σ)) := by rw [mStep_d dX1_near_14, ← mx_c2]; rfl
theorem vX1_near_15 : mStep h k cX1_near bl Q Y (15, lv, st, σ) = (mBin Y 16 lv st σ (fun x y => x - y)) := mStep_d dX1_near_15
theorem vX1_near_16 : mStep h k cX1_near bl Q Y (16, lv, st, σ) = (mCaS k Y 19 lv st σ 56) := mStep_d dX1_near_16
theorem vX1_near_19 : mStep h k cX1_near bl Q Y (19, lv, st, σ) = (mN1 Y 24 22 lv st σ) := (mStep_d dX1_near_19).trans (mIfN1_J jt_19_5 jp_19_5)
theorem vX1_near_22 : mStep h k cX1_near bl Q Y (22, lv, st, σ) = (Y (23, lv, .int (-1) :: st, σ)) := by rw [mStep_d dX1_near_22, ← mx_cm1]; rfl
theorem vX1_near_23 : mStep h k cX1_near bl Q Y (23, lv, st, σ) = (mRetI bl Q st σ) := mStep_d dX1_near_23
theorem vX1_near_24 : mStep h k cX1_near bl Q Y (24, lv, st, σ) = (Y (25, lv, .int (1) :: st, σ)) := by rw [mStep_d dX1_near_24, ← mx_c1]; rfl
theorem vX1_near_25 : mStep h k cX1_near bl Q Y (25, lv, st, σ) = (mLdA Y 26 lv st σ 0) := mStep_d dX1_near_25
theorem vX1_near_26 : mStep h k cX1_near bl Q Y (26, lv, st, σ) = (mGet h k Y 29 lv st σ 53) := mStep_d dX1_near_26
theorem vX1_near_29 : mStep h k cX1_near bl Q Y (29, lv, st, σ) = (mBin Y 30 lv st σ (fun x y => x <<< (y &&& 31))) := mStep_d dX1_near_29
theorem vX1_near_30 : mStep h k cX1_near bl Q Y (30, lv, st, σ) = (Y (31, lv, .int (1) :: st, σ)) := by rw [mStep_d dX1_near_30, ← mx_c1]; rfl
theorem vX1_near_31 : mStep h k cX1_near bl Q Y (31, lv, st, σ) = (mBin Y 32 lv st σ (fun x y => x - y)) := mStep_d dX1_near_31
theorem vX1_near_32 : mStep h k cX1_near bl Q Y (32, lv, st, σ) = (Y (33, lv, .int (1) :: st, σ)) := by rw [mStep_d dX1_near_32, ← mx_c1]; rfl
theorem vX1_near_33 : mStep h k cX1_near bl Q Y (33, lv, st, σ) = (mLdI Y 34 lv st σ 1) := mStep_d dX1_near_33
theorem vX1_near_34 : mStep h k cX1_near bl Q Y (34, lv, st, σ) = (mBin Y 35 lv st σ (fun x y => x <<< (y &&& 31))) := mStep_d dX1_near_34
theorem vX1_near_35 : mStep h k cX1_near bl Q Y (35, lv, st, σ) = (Y (36, lv, .int (-1) :: st, σ)) := by rw [mStep_d dX1_near_35, ← mx_cm1]; rfl
theorem vX1_near_36 : mStep h k cX1_near bl Q Y (36, lv, st, σ) = (mBin Y 37 lv st σ (fun x y => x ^^^ y)) := mStep_d dX1_near_36
theorem vX1_near_37 : mStep h k cX1_near bl Q Y (37, lv, st, σ) = (mBin Y 38 lv st σ (fun x y => x &&& y)) := mStep_d dX1_near_37
theorem vX1_near_38 : mStep h k cX1_near bl Q Y (38, lv, st, σ) = (mStI Y 39 lv st σ 3) := mStep_d dX1_near_38
theorem vX1_near_39 : mStep h k cX1_near bl Q Y (39, lv, st, σ) = (Y (40, lv, .int (-1) :: st, σ)) := by rw [mStep_d dX1_near_39, ← mx_cm1]; rfl
theorem vX1_near_40 : mStep h k cX1_near bl Q Y (40, lv, st, σ) = (mStI Y 42 lv st σ 4) := mStep_d dX1_near_40
theorem vX1_near_42 : mStep h k cX1_near bl Q Y (42, lv, st, σ) = (Y (43, lv, .int (0) :: st, σ)) := by rw [mStep_d dX1_near_42, ← mx_c0]; rfl
theorem vX1_near_43 : mStep h k cX1_near bl Q Y (43, lv, st, σ) = (mStI Y 45 lv st σ 5) := mStep_d dX1_near_43
theorem vX1_near_45 : mStep h k cX1_near bl Q Y (45, lv, st, σ) = (mLdI Y 47 lv st σ 5) := mStep_d dX1_near_45
theorem vX1_near_47 : mStep h k cX1_near bl Q Y (47, lv, st, σ) = (mLdI Y 48 lv st σ 2) := mStep_d dX1_near_47
theorem vX1_near_48 : mStep h k cX1_near bl Q Y (48, lv, st, σ) = (mJ2 Y 124 51 lv st σ (fun x y => y < x)) := (mStep_d dX1_near_48).trans (mIf2_J jt_48_76 jp_48_76)
theorem vX1_near_51 : mStep h k cX1_near bl Q Y (51, lv, st, σ) = (Y (52, lv, .int (-1) :: st, σ)) := by rw [mStep_d dX1_near_51, ← mx_cm1]; rfl
theorem vX1_near_52 : mStep h k cX1_near bl Q Y (52, lv, st, σ) = (mStI Y 54 lv st σ 4) := mStep_d dX1_near_52
theorem vX1_near_54 : mStep h k cX1_near bl Q Y (54, lv, st, σ) = (Y (55, lv, .int (0) :: st, σ)) := by rw [mStep_d dX1_near_54, ← mx_c0]; rfl
theorem vX1_near_55 : mStep h k cX1_near bl Q Y (55, lv, st, σ) = (mStI Y 57 lv st σ 6) := mStep_d dX1_near_55
theorem vX1_near_57 : mStep h k cX1_near bl Q Y (57, lv, st, σ) = (mLdI Y 59 lv st σ 6) := mStep_d dX1_near_57
theorem vX1_near_59 : mStep h k cX1_near bl Q Y (59, lv, st, σ) = (mLdA Y 60 lv st σ 0) := mStep_d dX1_near_59
theorem vX1_near_60 : mStep h k cX1_near bl Q Y (60, lv, st, σ) = (mGet h k Y 63 lv st σ 53) := mStep_d dX1_near_60
theorem vX1_near_63 : mStep h k cX1_near bl Q Y (63, lv, st, σ) = (mJ2 Y 109 66 lv st σ (fun x y => y ≤ x)) := (mStep_d dX1_near_63).trans (mIf2_J jt_63_46 jp_63_46)
theorem vX1_near_66 : mStep h k cX1_near bl Q Y (66, lv, st, σ) = (mLdI Y 67 lv st σ 3) := mStep_d dX1_near_66
theorem vX1_near_67 : mStep h k cX1_near bl Q Y (67, lv, st, σ) = (mLdI Y 69 lv st σ 6) := mStep_d dX1_near_67
theorem vX1_near_69 : mStep h k cX1_near bl Q Y (69, lv, st, σ) = (mBin Y 70 lv st σ (fun x y => x >>> (y &&& 31))) := mStep_d dX1_near_69
theorem vX1_near_70 : mStep h k cX1_near bl Q Y (70, lv, st, σ) = (Y (71, lv, .int (1) :: st, σ)) := by rw [mStep_d dX1_near_70, ← mx_c1]; rfl
theorem vX1_near_71 : mStep h k cX1_near bl Q Y (71, lv, st, σ) = (mBin Y 72 lv st σ (fun x y => x &&& y)) := mStep_d dX1_near_71
theorem vX1_near_72 : mStep h k cX1_near bl Q Y (72, lv, st, σ) = (Y (73, lv, .int (1) :: st, σ)) := by rw [mStep_d dX1_near_72, ← mx_c1]; rfl
theorem vX1_near_73 : mStep h k cX1_near bl Q Y (73, lv, st, σ) = (mN2 Y 103 76 lv st σ) := (mStep_d dX1_near_73).trans (mIfN2_J jt_73_30 jp_73_30)
theorem vX1_near_76 : mStep h k cX1_near bl Q Y (76, lv, st, σ) = (mLdI Y 78 lv st σ 4) := mStep_d dX1_near_76
theorem vX1_near_78 : mStep h k cX1_near bl Q Y (78, lv, st, σ) = (Y (79, lv, .int (-1) :: st, σ)) := by rw [mStep_d dX1_near_78, ← mx_cm1]; rfl
theorem vX1_near_79 : mStep h k cX1_near bl Q Y (79, lv, st, σ) = (mJ2 Y 99 82 lv st σ (fun x y => x = y)) := (mStep_d dX1_near_79).trans (mIf2_J jt_79_20 jp_79_20)
theorem vX1_near_82 : mStep h k cX1_near bl Q Y (82, lv, st, σ) = (mLdA Y 83 lv st σ 0) := mStep_d dX1_near_82
theorem vX1_near_83 : mStep h k cX1_near bl Q Y (83, lv, st, σ) = (mLdI Y 84 lv st σ 1) := mStep_d dX1_near_83
theorem vX1_near_84 : mStep h k cX1_near bl Q Y (84, lv, st, σ) = (mLdI Y 86 lv st σ 6) := mStep_d dX1_near_84
theorem vX1_near_86 : mStep h k cX1_near bl Q Y (86, lv, st, σ) = (mCaV k Y 89 lv st σ 91) := mStep_d dX1_near_86
theorem vX1_near_89 : mStep h k cX1_near bl Q Y (89, lv, st, σ) = (mLdA Y 90 lv st σ 0) := mStep_d dX1_near_89
theorem vX1_near_90 : mStep h k cX1_near bl Q Y (90, lv, st, σ) = (mLdI Y 91 lv st σ 1) := mStep_d dX1_near_90
theorem vX1_near_91 : mStep h k cX1_near bl Q Y (91, lv, st, σ) = (mLdI Y 93 lv st σ 4) := mStep_d dX1_near_91
theorem vX1_near_93 : mStep h k cX1_near bl Q Y (93, lv, st, σ) = (mCaV k Y 96 lv st σ 91) := mStep_d dX1_near_93
theorem vX1_near_96 : mStep h k cX1_near bl Q Y (96, lv, st, σ) = (mJ2 Y 103 99 lv st σ (fun x y => x ≤ y)) := (mStep_d dX1_near_96).trans (mIf2_J jt_96_7 jp_96_7)
theorem vX1_near_99 : mStep h k cX1_near bl Q Y (99, lv, st, σ) = (mLdI Y 101 lv st σ 6) := mStep_d dX1_near_99
theorem vX1_near_101 : mStep h k cX1_near bl Q Y (101, lv, st, σ) = (mStI Y 103 lv st σ 4) := mStep_d dX1_near_101
theorem vX1_near_103 : mStep h k cX1_near bl Q Y (103, lv, st, σ) = (mInc Y 106 lv st σ 6 (1)) := by rw [mStep_d dX1_near_103, ← mx_c1]; rfl
theorem vX1_near_106 : mStep h k cX1_near bl Q Y (106, lv, st, σ) = (Y (57, lv, st, σ)) := (mStep_d dX1_near_106).trans (mJ_J jt_106_m49 jp_106_m49)
theorem vX1_near_109 : mStep h k cX1_near bl Q Y (109, lv, st, σ) = (mLdI Y 110 lv st σ 3) := mStep_d dX1_near_109
theorem vX1_near_110 : mStep h k cX1_near bl Q Y (110, lv, st, σ) = (Y (111, lv, .int (1) :: st, σ)) := by rw [mStep_d dX1_near_110, ← mx_c1]; rfl
theorem vX1_near_111 : mStep h k cX1_near bl Q Y (111, lv, st, σ) = (mLdI Y 113 lv st σ 4) := mStep_d dX1_near_111
theorem vX1_near_113 : mStep h k cX1_near bl Q Y (113, lv, st, σ) = (mBin Y 114 lv st σ (fun x y => x <<< (y &&& 31))) := mStep_d dX1_near_113
theorem vX1_near_114 : mStep h k cX1_near bl Q Y (114, lv, st, σ) = (Y (115, lv, .int (-1) :: st, σ)) := by rw [mStep_d dX1_near_114, ← mx_cm1]; rfl
theorem vX1_near_115 : mStep h k cX1_near bl Q Y (115, lv, st, σ) = (mBin Y 116 lv st σ (fun x y => x ^^^ y)) := mStep_d dX1_near_115
theorem vX1_near_116 : mStep h k cX1_near bl Q Y (116, lv, st, σ) = (mBin Y 117 lv st σ (fun x y => x &&& y)) := mStep_d dX1_near_116
theorem vX1_near_117 : mStep h k cX1_near bl Q Y (117, lv, st, σ) = (mStI Y 118 lv st σ 3) := mStep_d dX1_near_117
theorem vX1_near_118 : mStep h k cX1_near bl Q Y (118, lv, st, σ) = (mInc Y 121 lv st σ 5 (1)) := by rw [mStep_d dX1_near_118, ← mx_c1]; rfl
theorem vX1_near_121 : mStep h k cX1_near bl Q Y (121, lv, st, σ) = (Y (45, lv, st, σ)) := (mStep_d dX1_near_121).trans (mJ_J jt_121_m76 jp_121_m76)
theorem vX1_near_124 : mStep h k cX1_near bl Q Y (124, lv, st, σ) = (mLdI Y 126 lv st σ 4) := mStep_d dX1_near_124
theorem vX1_near_126 : mStep h k cX1_near bl Q Y (126, lv, st, σ) = (mRetI bl Q st σ) := mStep_d dX1_near_126
theorem vX1_takenBy_0 : mStep h k cX1_takenBy bl Q Y (0, lv, st, σ) = (Y (1, lv, .int (0) :: st, σ)) := by rw [mStep_d dX1_takenBy_0, ← mx_c0]; rfl
theorem vX1_takenBy_1 : mStep h k cX1_takenBy bl Q Y (1, lv, st, σ) = (mStI Y 2 lv st σ 2) := mStep_d dX1_takenBy_1
theorem vX1_takenBy_2 : mStep h k cX1_takenBy bl Q Y (2, lv, st, σ) = (Y (3, lv, .int (0) :: st, σ)) := by rw [mStep_d dX1_takenBy_2, ← mx_c0]; rfl
theorem vX1_takenBy_3 : mStep h k cX1_takenBy bl Q Y (3, lv, st, σ) = (mStI Y 4 lv st σ 3) := mStep_d dX1_takenBy_3
theorem vX1_takenBy_4 : mStep h k cX1_takenBy bl Q Y (4, lv, st, σ) = (mLdI Y 5 lv st σ 3) := mStep_d dX1_takenBy_4
theorem vX1_takenBy_5 : mStep h k cX1_takenBy bl Q Y (5, lv, st, σ) = (mLdA Y 6 lv st σ 0) := mStep_d dX1_takenBy_5
theorem vX1_takenBy_6 : mStep h k cX1_takenBy bl Q Y (6, lv, st, σ) = (mGet h k Y 9 lv st σ 73) := mStep_d dX1_takenBy_6
theorem vX1_takenBy_9 : mStep h k cX1_takenBy bl Q Y (9, lv, st, σ) = (mJ2 Y 41 12 lv st σ (fun x y => y ≤ x)) := (mStep_d dX1_takenBy_9).trans (mIf2_J jt_9_32 jp_9_32)
theorem vX1_takenBy_12 : mStep h k cX1_takenBy bl Q Y (12, lv, st, σ) = (mLdI Y 13 lv st σ 2) := mStep_d dX1_takenBy_12
theorem vX1_takenBy_13 : mStep h k cX1_takenBy bl Q Y (13, lv, st, σ) = (mLdA Y 14 lv st σ 0) := mStep_d dX1_takenBy_13
theorem vX1_takenBy_14 : mStep h k cX1_takenBy bl Q Y (14, lv, st, σ) = (mGet h k Y 17 lv st σ 32) := mStep_d dX1_takenBy_14
theorem vX1_takenBy_17 : mStep h k cX1_takenBy bl Q Y (17, lv, st, σ) = (mLdI Y 18 lv st σ 3) := mStep_d dX1_takenBy_17
theorem vX1_takenBy_18 : mStep h k cX1_takenBy bl Q Y (18, lv, st, σ) = (mLdE h Y 19 lv st σ) := mStep_d dX1_takenBy_18
theorem vX1_takenBy_19 : mStep h k cX1_takenBy bl Q Y (19, lv, st, σ) = (mLdI Y 20 lv st σ 1) := mStep_d dX1_takenBy_19
theorem vX1_takenBy_20 : mStep h k cX1_takenBy bl Q Y (20, lv, st, σ) = (mN2 Y 32 23 lv st σ) := (mStep_d dX1_takenBy_20).trans (mIfN2_J jt_20_12 jp_20_12)
theorem vX1_takenBy_23 : mStep h k cX1_takenBy bl Q Y (23, lv, st, σ) = (mLdA Y 24 lv st σ 0) := mStep_d dX1_takenBy_23
theorem vX1_takenBy_24 : mStep h k cX1_takenBy bl Q Y (24, lv, st, σ) = (mGet h k Y 27 lv st σ 38) := mStep_d dX1_takenBy_24
theorem vX1_takenBy_27 : mStep h k cX1_takenBy bl Q Y (27, lv, st, σ) = (mLdI Y 28 lv st σ 3) := mStep_d dX1_takenBy_27
theorem vX1_takenBy_28 : mStep h k cX1_takenBy bl Q Y (28, lv, st, σ) = (mLdE h Y 29 lv st σ) := mStep_d dX1_takenBy_28
theorem vX1_takenBy_29 : mStep h k cX1_takenBy bl Q Y (29, lv, st, σ) = (Y (33, lv, st, σ)) := (mStep_d dX1_takenBy_29).trans (mJ_J jt_29_4 jp_29_4)
theorem vX1_takenBy_32 : mStep h k cX1_takenBy bl Q Y (32, lv, st, σ) = (Y (33, lv, .int (0) :: st, σ)) := by rw [mStep_d dX1_takenBy_32, ← mx_c0]; rfl
theorem vX1_takenBy_33 : mStep h k cX1_takenBy bl Q Y (33, lv, st, σ) = (mBin Y 34 lv st σ (fun x y => x ||| y)) := mStep_d dX1_takenBy_33
theorem vX1_takenBy_34 : mStep h k cX1_takenBy bl Q Y (34, lv, st, σ) = (mStI Y 35 lv st σ 2) := mStep_d dX1_takenBy_34
theorem vX1_takenBy_35 : mStep h k cX1_takenBy bl Q Y (35, lv, st, σ) = (mInc Y 38 lv st σ 3 (1)) := by rw [mStep_d dX1_takenBy_35, ← mx_c1]; rfl
theorem vX1_takenBy_38 : mStep h k cX1_takenBy bl Q Y (38, lv, st, σ) = (Y (4, lv, st, σ)) := (mStep_d dX1_takenBy_38).trans (mJ_J jt_38_m34 jp_38_m34)
theorem vX1_takenBy_41 : mStep h k cX1_takenBy bl Q Y (41, lv, st, σ) = (mLdI Y 42 lv st σ 2) := mStep_d dX1_takenBy_41
theorem vX1_takenBy_42 : mStep h k cX1_takenBy bl Q Y (42, lv, st, σ) = (mRetI bl Q st σ) := mStep_d dX1_takenBy_42
theorem vX1_taken_0 : mStep h k cX1_taken bl Q Y (0, lv, st, σ) = (mLdI Y 1 lv st σ 1) := mStep_d dX1_taken_0
theorem vX1_taken_1 : mStep h k cX1_taken bl Q Y (1, lv, st, σ) = (mCaS k Y 4 lv st σ 70) := mStep_d dX1_taken_1
theorem vX1_taken_4 : mStep h k cX1_taken bl Q Y (4, lv, st, σ) = (mJ1 Y 15 7 lv st σ (fun x => x = 0)) := (mStep_d dX1_taken_4).trans (mIf1_J jt_4_11 jp_4_11)
theorem vX1_taken_7 : mStep h k cX1_taken bl Q Y (7, lv, st, σ) = (mLdA Y 8 lv st σ 0) := mStep_d dX1_taken_7
theorem vX1_taken_8 : mStep h k cX1_taken bl Q Y (8, lv, st, σ) = (mLdI Y 9 lv st σ 1) := mStep_d dX1_taken_8
theorem vX1_taken_9 : mStep h k cX1_taken bl Q Y (9, lv, st, σ) = (mCaV k Y 12 lv st σ 95) := mStep_d dX1_taken_9
theorem vX1_taken_12 : mStep h k cX1_taken bl Q Y (12, lv, st, σ) = (Y (16, lv, st, σ)) := (mStep_d dX1_taken_12).trans (mJ_J jt_12_4 jp_12_4)
theorem vX1_taken_15 : mStep h k cX1_taken bl Q Y (15, lv, st, σ) = (Y (16, lv, .int (-1) :: st, σ)) := by rw [mStep_d dX1_taken_15, ← mx_cm1]; rfl
theorem vX1_taken_16 : mStep h k cX1_taken bl Q Y (16, lv, st, σ) = (mRetI bl Q st σ) := mStep_d dX1_taken_16
theorem vX1_scoreOf_0 : mStep h k cX1_scoreOf bl Q Y (0, lv, st, σ) = (mLdA Y 1 lv st σ 0) := mStep_d dX1_scoreOf_0
theorem vX1_scoreOf_1 : mStep h k cX1_scoreOf bl Q Y (1, lv, st, σ) = (mLdI Y 2 lv st σ 1) := mStep_d dX1_scoreOf_1
theorem vX1_scoreOf_2 : mStep h k cX1_scoreOf bl Q Y (2, lv, st, σ) = (mCaV k Y 5 lv st σ 95) := mStep_d dX1_scoreOf_2
theorem vX1_scoreOf_5 : mStep h k cX1_scoreOf bl Q Y (5, lv, st, σ) = (mStI Y 6 lv st σ 3) := mStep_d dX1_scoreOf_5
theorem vX1_scoreOf_6 : mStep h k cX1_scoreOf bl Q Y (6, lv, st, σ) = (Y (7, lv, .int (0) :: st, σ)) := by rw [mStep_d dX1_scoreOf_6, ← mx_c0]; rfl
theorem vX1_scoreOf_7 : mStep h k cX1_scoreOf bl Q Y (7, lv, st, σ) = (mStI Y 9 lv st σ 4) := mStep_d dX1_scoreOf_7
theorem vX1_scoreOf_9 : mStep h k cX1_scoreOf bl Q Y (9, lv, st, σ) = (Y (10, lv, .int (0) :: st, σ)) := by rw [mStep_d dX1_scoreOf_9, ← mx_c0]; rfl
theorem vX1_scoreOf_10 : mStep h k cX1_scoreOf bl Q Y (10, lv, st, σ) = (mStI Y 12 lv st σ 5) := mStep_d dX1_scoreOf_10
theorem vX1_scoreOf_12 : mStep h k cX1_scoreOf bl Q Y (12, lv, st, σ) = (mLdI Y 14 lv st σ 5) := mStep_d dX1_scoreOf_12
theorem vX1_scoreOf_14 : mStep h k cX1_scoreOf bl Q Y (14, lv, st, σ) = (mLdA Y 15 lv st σ 0) := mStep_d dX1_scoreOf_14
theorem vX1_scoreOf_15 : mStep h k cX1_scoreOf bl Q Y (15, lv, st, σ) = (mGet h k Y 18 lv st σ 53) := mStep_d dX1_scoreOf_15
theorem vX1_scoreOf_18 : mStep h k cX1_scoreOf bl Q Y (18, lv, st, σ) = (mJ2 Y 59 21 lv st σ (fun x y => y ≤ x)) := (mStep_d dX1_scoreOf_18).trans (mIf2_J jt_18_41 jp_18_41)
theorem vX1_scoreOf_21 : mStep h k cX1_scoreOf bl Q Y (21, lv, st, σ) = (mLdI Y 23 lv st σ 4) := mStep_d dX1_scoreOf_21
theorem vX1_scoreOf_23 : mStep h k cX1_scoreOf bl Q Y (23, lv, st, σ) = (mLdI Y 25 lv st σ 5) := mStep_d dX1_scoreOf_23
theorem vX1_scoreOf_25 : mStep h k cX1_scoreOf bl Q Y (25, lv, st, σ) = (mLdI Y 26 lv st σ 2) := mStep_d dX1_scoreOf_25
theorem vX1_scoreOf_26 : mStep h k cX1_scoreOf bl Q Y (26, lv, st, σ) = (mJ2 Y 49 29 lv st σ (fun x y => x = y)) := (mStep_d dX1_scoreOf_26).trans (mIf2_J jt_26_23 jp_26_23)
theorem vX1_scoreOf_29 : mStep h k cX1_scoreOf bl Q Y (29, lv, st, σ) = (mLdI Y 30 lv st σ 3) := mStep_d dX1_scoreOf_29
theorem vX1_scoreOf_30 : mStep h k cX1_scoreOf bl Q Y (30, lv, st, σ) = (mLdI Y 32 lv st σ 5) := mStep_d dX1_scoreOf_30
theorem vX1_scoreOf_32 : mStep h k cX1_scoreOf bl Q Y (32, lv, st, σ) = (mBin Y 33 lv st σ (fun x y => x >>> (y &&& 31))) := mStep_d dX1_scoreOf_32
theorem vX1_scoreOf_33 : mStep h k cX1_scoreOf bl Q Y (33, lv, st, σ) = (Y (34, lv, .int (1) :: st, σ)) := by rw [mStep_d dX1_scoreOf_33, ← mx_c1]; rfl
theorem vX1_scoreOf_34 : mStep h k cX1_scoreOf bl Q Y (34, lv, st, σ) = (mBin Y 35 lv st σ (fun x y => x &&& y)) := mStep_d dX1_scoreOf_34
theorem vX1_scoreOf_35 : mStep h k cX1_scoreOf bl Q Y (35, lv, st, σ) = (Y (36, lv, .int (1) :: st, σ)) := by rw [mStep_d dX1_scoreOf_35, ← mx_c1]; rfl
theorem vX1_scoreOf_36 : mStep h k cX1_scoreOf bl Q Y (36, lv, st, σ) = (mN2 Y 49 39 lv st σ) := (mStep_d dX1_scoreOf_36).trans (mIfN2_J jt_36_13 jp_36_13)
theorem vX1_scoreOf_39 : mStep h k cX1_scoreOf bl Q Y (39, lv, st, σ) = (mLdA Y 40 lv st σ 0) := mStep_d dX1_scoreOf_39
theorem vX1_scoreOf_40 : mStep h k cX1_scoreOf bl Q Y (40, lv, st, σ) = (mLdI Y 41 lv st σ 2) := mStep_d dX1_scoreOf_40
theorem vX1_scoreOf_41 : mStep h k cX1_scoreOf bl Q Y (41, lv, st, σ) = (mLdI Y 43 lv st σ 5) := mStep_d dX1_scoreOf_41
theorem vX1_scoreOf_43 : mStep h k cX1_scoreOf bl Q Y (43, lv, st, σ) = (mCaV k Y 46 lv st σ 91) := mStep_d dX1_scoreOf_43
theorem vX1_scoreOf_46 : mStep h k cX1_scoreOf bl Q Y (46, lv, st, σ) = (Y (50, lv, st, σ)) := (mStep_d dX1_scoreOf_46).trans (mJ_J jt_46_4 jp_46_4)
theorem vX1_scoreOf_49 : mStep h k cX1_scoreOf bl Q Y (49, lv, st, σ) = (Y (50, lv, .int (0) :: st, σ)) := by rw [mStep_d dX1_scoreOf_49, ← mx_c0]; rfl
theorem vX1_scoreOf_50 : mStep h k cX1_scoreOf bl Q Y (50, lv, st, σ) = (mBin Y 51 lv st σ (fun x y => x + y)) := mStep_d dX1_scoreOf_50
theorem vX1_scoreOf_51 : mStep h k cX1_scoreOf bl Q Y (51, lv, st, σ) = (mStI Y 53 lv st σ 4) := mStep_d dX1_scoreOf_51
theorem vX1_scoreOf_53 : mStep h k cX1_scoreOf bl Q Y (53, lv, st, σ) = (mInc Y 56 lv st σ 5 (1)) := by rw [mStep_d dX1_scoreOf_53, ← mx_c1]; rfl
theorem vX1_scoreOf_56 : mStep h k cX1_scoreOf bl Q Y (56, lv, st, σ) = (Y (12, lv, st, σ)) := (mStep_d dX1_scoreOf_56).trans (mJ_J jt_56_m44 jp_56_m44)
theorem vX1_scoreOf_59 : mStep h k cX1_scoreOf bl Q Y (59, lv, st, σ) = (mLdI Y 61 lv st σ 4) := mStep_d dX1_scoreOf_59
theorem vX1_scoreOf_61 : mStep h k cX1_scoreOf bl Q Y (61, lv, st, σ) = (mRetI bl Q st σ) := mStep_d dX1_scoreOf_61
theorem vX1_score_0 : mStep h k cX1_score bl Q Y (0, lv, st, σ) = (mLdI Y 1 lv st σ 1) := mStep_d dX1_score_0
theorem vX1_score_1 : mStep h k cX1_score bl Q Y (1, lv, st, σ) = (mCaS k Y 4 lv st σ 70) := mStep_d dX1_score_1
theorem vX1_score_4 : mStep h k cX1_score bl Q Y (4, lv, st, σ) = (mJ1 Y 24 7 lv st σ (fun x => x = 0)) := (mStep_d dX1_score_4).trans (mIf1_J jt_4_20 jp_4_20)
theorem vX1_score_7 : mStep h k cX1_score bl Q Y (7, lv, st, σ) = (mLdA Y 8 lv st σ 0) := mStep_d dX1_score_7
theorem vX1_score_8 : mStep h k cX1_score bl Q Y (8, lv, st, σ) = (mLdI Y 9 lv st σ 2) := mStep_d dX1_score_8
theorem vX1_score_9 : mStep h k cX1_score bl Q Y (9, lv, st, σ) = (mCaV k Y 12 lv st σ 66) := mStep_d dX1_score_9
theorem vX1_score_12 : mStep h k cX1_score bl Q Y (12, lv, st, σ) = (mJ1 Y 24 15 lv st σ (fun x => x = 0)) := (mStep_d dX1_score_12).trans (mIf1_J jt_12_12 jp_12_12)
theorem vX1_score_15 : mStep h k cX1_score bl Q Y (15, lv, st, σ) = (mLdA Y 16 lv st σ 0) := mStep_d dX1_score_15
theorem vX1_score_16 : mStep h k cX1_score bl Q Y (16, lv, st, σ) = (mLdI Y 17 lv st σ 1) := mStep_d dX1_score_16
theorem vX1_score_17 : mStep h k cX1_score bl Q Y (17, lv, st, σ) = (mLdI Y 18 lv st σ 2) := mStep_d dX1_score_17
theorem vX1_score_18 : mStep h k cX1_score bl Q Y (18, lv, st, σ) = (mCaV k Y 21 lv st σ 99) := mStep_d dX1_score_18
theorem vX1_score_21 : mStep h k cX1_score bl Q Y (21, lv, st, σ) = (Y (26, lv, st, σ)) := (mStep_d dX1_score_21).trans (mJ_J jt_21_5 jp_21_5)
theorem vX1_score_24 : mStep h k cX1_score bl Q Y (24, lv, st, σ) = (mKon k Y 26 lv st σ 94) := mStep_d dX1_score_24
theorem vX1_score_26 : mStep h k cX1_score bl Q Y (26, lv, st, σ) = (mRetI bl Q st σ) := mStep_d dX1_score_26
theorem vX1_mayFor_0 : mStep h k cX1_mayFor bl Q Y (0, lv, st, σ) = (mLdA Y 1 lv st σ 0) := mStep_d dX1_mayFor_0
theorem vX1_mayFor_1 : mStep h k cX1_mayFor bl Q Y (1, lv, st, σ) = (mGet h k Y 4 lv st σ 63) := mStep_d dX1_mayFor_1
theorem vX1_mayFor_4 : mStep h k cX1_mayFor bl Q Y (4, lv, st, σ) = (mLdA Y 5 lv st σ 0) := mStep_d dX1_mayFor_4
theorem vX1_mayFor_5 : mStep h k cX1_mayFor bl Q Y (5, lv, st, σ) = (mLdI Y 6 lv st σ 1) := mStep_d dX1_mayFor_5
theorem vX1_mayFor_6 : mStep h k cX1_mayFor bl Q Y (6, lv, st, σ) = (mCaV k Y 9 lv st σ 95) := mStep_d dX1_mayFor_6
theorem vX1_mayFor_9 : mStep h k cX1_mayFor bl Q Y (9, lv, st, σ) = (Y (10, lv, .int (-1) :: st, σ)) := by rw [mStep_d dX1_mayFor_9, ← mx_cm1]; rfl
theorem vX1_mayFor_10 : mStep h k cX1_mayFor bl Q Y (10, lv, st, σ) = (mBin Y 11 lv st σ (fun x y => x ^^^ y)) := mStep_d dX1_mayFor_10
theorem vX1_mayFor_11 : mStep h k cX1_mayFor bl Q Y (11, lv, st, σ) = (mBin Y 12 lv st σ (fun x y => x &&& y)) := mStep_d dX1_mayFor_11
theorem vX1_mayFor_12 : mStep h k cX1_mayFor bl Q Y (12, lv, st, σ) = (mStI Y 13 lv st σ 2) := mStep_d dX1_mayFor_12
theorem vX1_mayFor_13 : mStep h k cX1_mayFor bl Q Y (13, lv, st, σ) = (Y (14, lv, .int (0) :: st, σ)) := by rw [mStep_d dX1_mayFor_13, ← mx_c0]; rfl
theorem vX1_mayFor_14 : mStep h k cX1_mayFor bl Q Y (14, lv, st, σ) = (mStI Y 15 lv st σ 3) := mStep_d dX1_mayFor_14
theorem vX1_mayFor_15 : mStep h k cX1_mayFor bl Q Y (15, lv, st, σ) = (mLdI Y 16 lv st σ 3) := mStep_d dX1_mayFor_15
theorem vX1_mayFor_16 : mStep h k cX1_mayFor bl Q Y (16, lv, st, σ) = (mLdA Y 17 lv st σ 0) := mStep_d dX1_mayFor_16
theorem vX1_mayFor_17 : mStep h k cX1_mayFor bl Q Y (17, lv, st, σ) = (mGet h k Y 20 lv st σ 53) := mStep_d dX1_mayFor_17
theorem vX1_mayFor_20 : mStep h k cX1_mayFor bl Q Y (20, lv, st, σ) = (mJ2 Y 55 23 lv st σ (fun x y => y ≤ x)) := (mStep_d dX1_mayFor_20).trans (mIf2_J jt_20_35 jp_20_35)
theorem vX1_mayFor_23 : mStep h k cX1_mayFor bl Q Y (23, lv, st, σ) = (mLdA Y 24 lv st σ 0) := mStep_d dX1_mayFor_23
theorem vX1_mayFor_24 : mStep h k cX1_mayFor bl Q Y (24, lv, st, σ) = (mGet h k Y 27 lv st σ 60) := mStep_d dX1_mayFor_24
theorem vX1_mayFor_27 : mStep h k cX1_mayFor bl Q Y (27, lv, st, σ) = (mLdA Y 28 lv st σ 0) := mStep_d dX1_mayFor_27
theorem vX1_mayFor_28 : mStep h k cX1_mayFor bl Q Y (28, lv, st, σ) = (mGet h k Y 31 lv st σ 47) := mStep_d dX1_mayFor_28
theorem vX1_mayFor_31 : mStep h k cX1_mayFor bl Q Y (31, lv, st, σ) = (Y (33, lv, .int (12) :: st, σ)) := by rw [mStep_d dX1_mayFor_31, ← mx_b12]; rfl
theorem vX1_mayFor_33 : mStep h k cX1_mayFor bl Q Y (33, lv, st, σ) = (mLdI Y 34 lv st σ 1) := mStep_d dX1_mayFor_33
theorem vX1_mayFor_34 : mStep h k cX1_mayFor bl Q Y (34, lv, st, σ) = (mBin Y 35 lv st σ (fun x y => x * y)) := mStep_d dX1_mayFor_34
theorem vX1_mayFor_35 : mStep h k cX1_mayFor bl Q Y (35, lv, st, σ) = (mLdI Y 36 lv st σ 3) := mStep_d dX1_mayFor_35
theorem vX1_mayFor_36 : mStep h k cX1_mayFor bl Q Y (36, lv, st, σ) = (mBin Y 37 lv st σ (fun x y => x + y)) := mStep_d dX1_mayFor_36
theorem vX1_mayFor_37 : mStep h k cX1_mayFor bl Q Y (37, lv, st, σ) = (mLdE h Y 38 lv st σ) := mStep_d dX1_mayFor_37
theorem vX1_mayFor_38 : mStep h k cX1_mayFor bl Q Y (38, lv, st, σ) = (mJ2 Y 49 41 lv st σ (fun x y => y ≤ x)) := (mStep_d dX1_mayFor_38).trans (mIf2_J jt_38_11 jp_38_11)
theorem vX1_mayFor_41 : mStep h k cX1_mayFor bl Q Y (41, lv, st, σ) = (mLdI Y 42 lv st σ 2) := mStep_d dX1_mayFor_41
theorem vX1_mayFor_42 : mStep h k cX1_mayFor bl Q Y (42, lv, st, σ) = (Y (43, lv, .int (1) :: st, σ)) := by rw [mStep_d dX1_mayFor_42, ← mx_c1]; rfl
theorem vX1_mayFor_43 : mStep h k cX1_mayFor bl Q Y (43, lv, st, σ) = (mLdI Y 44 lv st σ 3) := mStep_d dX1_mayFor_43
theorem vX1_mayFor_44 : mStep h k cX1_mayFor bl Q Y (44, lv, st, σ) = (mBin Y 45 lv st σ (fun x y => x <<< (y &&& 31))) := mStep_d dX1_mayFor_44
theorem vX1_mayFor_45 : mStep h k cX1_mayFor bl Q Y (45, lv, st, σ) = (Y (46, lv, .int (-1) :: st, σ)) := by rw [mStep_d dX1_mayFor_45, ← mx_cm1]; rfl
theorem vX1_mayFor_46 : mStep h k cX1_mayFor bl Q Y (46, lv, st, σ) = (mBin Y 47 lv st σ (fun x y => x ^^^ y)) := mStep_d dX1_mayFor_46
theorem vX1_mayFor_47 : mStep h k cX1_mayFor bl Q Y (47, lv, st, σ) = (mBin Y 48 lv st σ (fun x y => x &&& y)) := mStep_d dX1_mayFor_47
theorem vX1_mayFor_48 : mStep h k cX1_mayFor bl Q Y (48, lv, st, σ) = (mStI Y 49 lv st σ 2) := mStep_d dX1_mayFor_48
theorem vX1_mayFor_49 : mStep h k cX1_mayFor bl Q Y (49, lv, st, σ) = (mInc Y 52 lv st σ 3 (1)) := by rw [mStep_d dX1_mayFor_49, ← mx_c1]; rfl
theorem vX1_mayFor_52 : mStep h k cX1_mayFor bl Q Y (52, lv, st, σ) = (Y (15, lv, st, σ)) := (mStep_d dX1_mayFor_52).trans (mJ_J jt_52_m37 jp_52_m37)
theorem vX1_mayFor_55 : mStep h k cX1_mayFor bl Q Y (55, lv, st, σ) = (mLdI Y 56 lv st σ 2) := mStep_d dX1_mayFor_55
theorem vX1_mayFor_56 : mStep h k cX1_mayFor bl Q Y (56, lv, st, σ) = (mRetI bl Q st σ) := mStep_d dX1_mayFor_56
theorem vX1_may_0 : mStep h k cX1_may bl Q Y (0, lv, st, σ) = (mLdI Y 1 lv st σ 1) := mStep_d dX1_may_0
theorem vX1_may_1 : mStep h k cX1_may bl Q Y (1, lv, st, σ) = (mCaS k Y 4 lv st σ 70) := mStep_d dX1_may_1
theorem vX1_may_4 : mStep h k cX1_may bl Q Y (4, lv, st, σ) = (mJ1 Y 15 7 lv st σ (fun x => x = 0)) := (mStep_d dX1_may_4).trans (mIf1_J jt_4_11 jp_4_11)
theorem vX1_may_7 : mStep h k cX1_may bl Q Y (7, lv, st, σ) = (mLdA Y 8 lv st σ 0) := mStep_d dX1_may_7
theorem vX1_may_8 : mStep h k cX1_may bl Q Y (8, lv, st, σ) = (mLdI Y 9 lv st σ 1) := mStep_d dX1_may_8
theorem vX1_may_9 : mStep h k cX1_may bl Q Y (9, lv, st, σ) = (mCaV k Y 12 lv st σ 102) := mStep_d dX1_may_9
theorem vX1_may_12 : mStep h k cX1_may bl Q Y (12, lv, st, σ) = (Y (16, lv, st, σ)) := (mStep_d dX1_may_12).trans (mJ_J jt_12_4 jp_12_4)
theorem vX1_may_15 : mStep h k cX1_may bl Q Y (15, lv, st, σ) = (Y (16, lv, .int (-1) :: st, σ)) := by rw [mStep_d dX1_may_15, ← mx_cm1]; rfl
theorem vX1_may_16 : mStep h k cX1_may bl Q Y (16, lv, st, σ) = (mRetI bl Q st σ) := mStep_d dX1_may_16
theorem vX1_bits_0 : mStep h k cX1_bits bl Q Y (0, lv, st, σ) = (Y (1, lv, .int (0) :: st, σ)) := by rw [mStep_d dX1_bits_0, ← mx_c0]; rfl
theorem vX1_bits_1 : mStep h k cX1_bits bl Q Y (1, lv, st, σ) = (mStI Y 2 lv st σ 1) := mStep_d dX1_bits_1
theorem vX1_bits_2 : mStep h k cX1_bits bl Q Y (2, lv, st, σ) = (Y (3, lv, .int (0) :: st, σ)) := by rw [mStep_d dX1_bits_2, ← mx_c0]; rfl
theorem vX1_bits_3 : mStep h k cX1_bits bl Q Y (3, lv, st, σ) = (mStI Y 4 lv st σ 2) := mStep_d dX1_bits_3
theorem vX1_bits_4 : mStep h k cX1_bits bl Q Y (4, lv, st, σ) = (mLdI Y 5 lv st σ 2) := mStep_d dX1_bits_4
theorem vX1_bits_5 : mStep h k cX1_bits bl Q Y (5, lv, st, σ) = (Y (7, lv, .int (12) :: st, σ)) := by rw [mStep_d dX1_bits_5, ← mx_b12]; rfl
theorem vX1_bits_7 : mStep h k cX1_bits bl Q Y (7, lv, st, σ) = (mJ2 Y 24 10 lv st σ (fun x y => y ≤ x)) := (mStep_d dX1_bits_7).trans (mIf2_J jt_7_17 jp_7_17)
theorem vX1_bits_10 : mStep h k cX1_bits bl Q Y (10, lv, st, σ) = (mLdI Y 11 lv st σ 1) := mStep_d dX1_bits_10
theorem vX1_bits_11 : mStep h k cX1_bits bl Q Y (11, lv, st, σ) = (mLdI Y 12 lv st σ 0) := mStep_d dX1_bits_11
theorem vX1_bits_12 : mStep h k cX1_bits bl Q Y (12, lv, st, σ) = (mLdI Y 13 lv st σ 2) := mStep_d dX1_bits_12
theorem vX1_bits_13 : mStep h k cX1_bits bl Q Y (13, lv, st, σ) = (mBin Y 14 lv st σ (fun x y => x >>> (y &&& 31))) := mStep_d dX1_bits_13
theorem vX1_bits_14 : mStep h k cX1_bits bl Q Y (14, lv, st, σ) = (Y (15, lv, .int (1) :: st, σ)) := by rw [mStep_d dX1_bits_14, ← mx_c1]; rfl
theorem vX1_bits_15 : mStep h k cX1_bits bl Q Y (15, lv, st, σ) = (mBin Y 16 lv st σ (fun x y => x &&& y)) := mStep_d dX1_bits_15
theorem vX1_bits_16 : mStep h k cX1_bits bl Q Y (16, lv, st, σ) = (mBin Y 17 lv st σ (fun x y => x + y)) := mStep_d dX1_bits_16
theorem vX1_bits_17 : mStep h k cX1_bits bl Q Y (17, lv, st, σ) = (mStI Y 18 lv st σ 1) := mStep_d dX1_bits_17
theorem vX1_bits_18 : mStep h k cX1_bits bl Q Y (18, lv, st, σ) = (mInc Y 21 lv st σ 2 (1)) := by rw [mStep_d dX1_bits_18, ← mx_c1]; rfl
theorem vX1_bits_21 : mStep h k cX1_bits bl Q Y (21, lv, st, σ) = (Y (4, lv, st, σ)) := (mStep_d dX1_bits_21).trans (mJ_J jt_21_m17 jp_21_m17)
theorem vX1_bits_24 : mStep h k cX1_bits bl Q Y (24, lv, st, σ) = (mLdI Y 25 lv st σ 1) := mStep_d dX1_bits_24
theorem vX1_bits_25 : mStep h k cX1_bits bl Q Y (25, lv, st, σ) = (mRetI bl Q st σ) := mStep_d dX1_bits_25
theorem vX1_keeps_0 : mStep h k cX1_keeps bl Q Y (0, lv, st, σ) = (Y (1, lv, .int (0) :: st, σ)) := by rw [mStep_d dX1_keeps_0, ← mx_c0]; rfl
theorem vX1_keeps_1 : mStep h k cX1_keeps bl Q Y (1, lv, st, σ) = (mStI Y 2 lv st σ 2) := mStep_d dX1_keeps_1
theorem vX1_keeps_2 : mStep h k cX1_keeps bl Q Y (2, lv, st, σ) = (mLdI Y 3 lv st σ 2) := mStep_d dX1_keeps_2
theorem vX1_keeps_3 : mStep h k cX1_keeps bl Q Y (3, lv, st, σ) = (Y (4, lv, .int (4) :: st, σ)) := by rw [mStep_d dX1_keeps_3, ← mx_c4]; rfl
theorem vX1_keeps_4 : mStep h k cX1_keeps bl Q Y (4, lv, st, σ) = (mJ2 Y 72 7 lv st σ (fun x y => y ≤ x)) := (mStep_d dX1_keeps_4).trans (mIf2_J jt_4_68 jp_4_68)
theorem vX1_keeps_7 : mStep h k cX1_keeps bl Q Y (7, lv, st, σ) = (Y (8, lv, .int (0) :: st, σ)) := by rw [mStep_d dX1_keeps_7, ← mx_c0]; rfl
theorem vX1_keeps_8 : mStep h k cX1_keeps bl Q Y (8, lv, st, σ) = (mStI Y 9 lv st σ 3) := mStep_d dX1_keeps_8
theorem vX1_keeps_9 : mStep h k cX1_keeps bl Q Y (9, lv, st, σ) = (Y (10, lv, .int (0) :: st, σ)) := by rw [mStep_d dX1_keeps_9, ← mx_c0]; rfl
theorem vX1_keeps_10 : mStep h k cX1_keeps bl Q Y (10, lv, st, σ) = (mStI Y 12 lv st σ 4) := mStep_d dX1_keeps_10
theorem vX1_keeps_12 : mStep h k cX1_keeps bl Q Y (12, lv, st, σ) = (mLdI Y 14 lv st σ 4) := mStep_d dX1_keeps_12
theorem vX1_keeps_14 : mStep h k cX1_keeps bl Q Y (14, lv, st, σ) = (mLdA Y 15 lv st σ 0) := mStep_d dX1_keeps_14
theorem vX1_keeps_15 : mStep h k cX1_keeps bl Q Y (15, lv, st, σ) = (mGet h k Y 18 lv st σ 53) := mStep_d dX1_keeps_15
theorem vX1_keeps_18 : mStep h k cX1_keeps bl Q Y (18, lv, st, σ) = (mJ2 Y 56 21 lv st σ (fun x y => y ≤ x)) := (mStep_d dX1_keeps_18).trans (mIf2_J jt_18_38 jp_18_38)
theorem vX1_keeps_21 : mStep h k cX1_keeps bl Q Y (21, lv, st, σ) = (mLdI Y 22 lv st σ 3) := mStep_d dX1_keeps_21
theorem vX1_keeps_22 : mStep h k cX1_keeps bl Q Y (22, lv, st, σ) = (mLdI Y 23 lv st σ 1) := mStep_d dX1_keeps_22
theorem vX1_keeps_23 : mStep h k cX1_keeps bl Q Y (23, lv, st, σ) = (mLdI Y 25 lv st σ 4) := mStep_d dX1_keeps_23
theorem vX1_keeps_25 : mStep h k cX1_keeps bl Q Y (25, lv, st, σ) = (mBin Y 26 lv st σ (fun x y => x >>> (y &&& 31))) := mStep_d dX1_keeps_25
theorem vX1_keeps_26 : mStep h k cX1_keeps bl Q Y (26, lv, st, σ) = (Y (27, lv, .int (1) :: st, σ)) := by rw [mStep_d dX1_keeps_26, ← mx_c1]; rfl
theorem vX1_keeps_27 : mStep h k cX1_keeps bl Q Y (27, lv, st, σ) = (mBin Y 28 lv st σ (fun x y => x &&& y)) := mStep_d dX1_keeps_27
theorem vX1_keeps_28 : mStep h k cX1_keeps bl Q Y (28, lv, st, σ) = (Y (29, lv, .int (1) :: st, σ)) := by rw [mStep_d dX1_keeps_28, ← mx_c1]; rfl
theorem vX1_keeps_29 : mStep h k cX1_keeps bl Q Y (29, lv, st, σ) = (mN2 Y 47 32 lv st σ) := (mStep_d dX1_keeps_29).trans (mIfN2_J jt_29_18 jp_29_18)
theorem vX1_keeps_32 : mStep h k cX1_keeps bl Q Y (32, lv, st, σ) = (mLdA Y 33 lv st σ 0) := mStep_d dX1_keeps_32
theorem vX1_keeps_33 : mStep h k cX1_keeps bl Q Y (33, lv, st, σ) = (mGet h k Y 36 lv st σ 22) := mStep_d dX1_keeps_33
theorem vX1_keeps_36 : mStep h k cX1_keeps bl Q Y (36, lv, st, σ) = (mLdI Y 38 lv st σ 4) := mStep_d dX1_keeps_36
theorem vX1_keeps_38 : mStep h k cX1_keeps bl Q Y (38, lv, st, σ) = (mLdE h Y 39 lv st σ) := mStep_d dX1_keeps_38
theorem vX1_keeps_39 : mStep h k cX1_keeps bl Q Y (39, lv, st, σ) = (mLdI Y 40 lv st σ 2) := mStep_d dX1_keeps_39
theorem vX1_keeps_40 : mStep h k cX1_keeps bl Q Y (40, lv, st, σ) = (mN2 Y 47 43 lv st σ) := (mStep_d dX1_keeps_40).trans (mIfN2_J jt_40_7 jp_40_7)
theorem vX1_keeps_43 : mStep h k cX1_keeps bl Q Y (43, lv, st, σ) = (Y (44, lv, .int (1) :: st, σ)) := by rw [mStep_d dX1_keeps_43, ← mx_c1]; rfl
theorem vX1_keeps_44 : mStep h k cX1_keeps bl Q Y (44, lv, st, σ) = (Y (48, lv, st, σ)) := (mStep_d dX1_keeps_44).trans (mJ_J jt_44_4 jp_44_4)
theorem vX1_keeps_47 : mStep h k cX1_keeps bl Q Y (47, lv, st, σ) = (Y (48, lv, .int (0) :: st, σ)) := by rw [mStep_d dX1_keeps_47, ← mx_c0]; rfl
theorem vX1_keeps_48 : mStep h k cX1_keeps bl Q Y (48, lv, st, σ) = (mBin Y 49 lv st σ (fun x y => x + y)) := mStep_d dX1_keeps_48
theorem vX1_keeps_49 : mStep h k cX1_keeps bl Q Y (49, lv, st, σ) = (mStI Y 50 lv st σ 3) := mStep_d dX1_keeps_49
theorem vX1_keeps_50 : mStep h k cX1_keeps bl Q Y (50, lv, st, σ) = (mInc Y 53 lv st σ 4 (1)) := by rw [mStep_d dX1_keeps_50, ← mx_c1]; rfl
theorem vX1_keeps_53 : mStep h k cX1_keeps bl Q Y (53, lv, st, σ) = (Y (12, lv, st, σ)) := (mStep_d dX1_keeps_53).trans (mJ_J jt_53_m41 jp_53_m41)
theorem vX1_keeps_56 : mStep h k cX1_keeps bl Q Y (56, lv, st, σ) = (mLdI Y 57 lv st σ 3) := mStep_d dX1_keeps_56
theorem vX1_keeps_57 : mStep h k cX1_keeps bl Q Y (57, lv, st, σ) = (mLdA Y 58 lv st σ 0) := mStep_d dX1_keeps_57
theorem vX1_keeps_58 : mStep h k cX1_keeps bl Q Y (58, lv, st, σ) = (mGet h k Y 61 lv st σ 13) := mStep_d dX1_keeps_58
theorem vX1_keeps_61 : mStep h k cX1_keeps bl Q Y (61, lv, st, σ) = (mJ2 Y 66 64 lv st σ (fun x y => x ≤ y)) := (mStep_d dX1_keeps_61).trans (mIf2_J jt_61_5 jp_61_5)
theorem vX1_keeps_64 : mStep h k cX1_keeps bl Q Y (64, lv, st, σ) = (Y (65, lv, .int (0) :: st, σ)) := by rw [mStep_d dX1_keeps_64, ← mx_c0]; rfl
theorem vX1_keeps_65 : mStep h k cX1_keeps bl Q Y (65, lv, st, σ) = (mRetI bl Q st σ) := mStep_d dX1_keeps_65
theorem vX1_keeps_66 : mStep h k cX1_keeps bl Q Y (66, lv, st, σ) = (mInc Y 69 lv st σ 2 (1)) := by rw [mStep_d dX1_keeps_66, ← mx_c1]; rfl
theorem vX1_keeps_69 : mStep h k cX1_keeps bl Q Y (69, lv, st, σ) = (Y (2, lv, st, σ)) := (mStep_d dX1_keeps_69).trans (mJ_J jt_69_m67 jp_69_m67)
theorem vX1_keeps_72 : mStep h k cX1_keeps bl Q Y (72, lv, st, σ) = (Y (73, lv, .int (0) :: st, σ)) := by rw [mStep_d dX1_keeps_72, ← mx_c0]; rfl
theorem vX1_keeps_73 : mStep h k cX1_keeps bl Q Y (73, lv, st, σ) = (mStI Y 74 lv st σ 2) := mStep_d dX1_keeps_73
theorem vX1_keeps_74 : mStep h k cX1_keeps bl Q Y (74, lv, st, σ) = (mLdI Y 75 lv st σ 2) := mStep_d dX1_keeps_74
theorem vX1_keeps_75 : mStep h k cX1_keeps bl Q Y (75, lv, st, σ) = (mLdA Y 76 lv st σ 0) := mStep_d dX1_keeps_75
theorem vX1_keeps_76 : mStep h k cX1_keeps bl Q Y (76, lv, st, σ) = (mGet h k Y 79 lv st σ 53) := mStep_d dX1_keeps_76
theorem vX1_keeps_79 : mStep h k cX1_keeps bl Q Y (79, lv, st, σ) = (mJ2 Y 110 82 lv st σ (fun x y => y ≤ x)) := (mStep_d dX1_keeps_79).trans (mIf2_J jt_79_31 jp_79_31)
theorem vX1_keeps_82 : mStep h k cX1_keeps bl Q Y (82, lv, st, σ) = (mLdI Y 83 lv st σ 1) := mStep_d dX1_keeps_82
theorem vX1_keeps_83 : mStep h k cX1_keeps bl Q Y (83, lv, st, σ) = (mLdI Y 84 lv st σ 2) := mStep_d dX1_keeps_83
theorem vX1_keeps_84 : mStep h k cX1_keeps bl Q Y (84, lv, st, σ) = (mBin Y 85 lv st σ (fun x y => x >>> (y &&& 31))) := mStep_d dX1_keeps_84
theorem vX1_keeps_85 : mStep h k cX1_keeps bl Q Y (85, lv, st, σ) = (Y (86, lv, .int (1) :: st, σ)) := by rw [mStep_d dX1_keeps_85, ← mx_c1]; rfl
theorem vX1_keeps_86 : mStep h k cX1_keeps bl Q Y (86, lv, st, σ) = (mBin Y 87 lv st σ (fun x y => x &&& y)) := mStep_d dX1_keeps_86
theorem vX1_keeps_87 : mStep h k cX1_keeps bl Q Y (87, lv, st, σ) = (Y (88, lv, .int (1) :: st, σ)) := by rw [mStep_d dX1_keeps_87, ← mx_c1]; rfl
theorem vX1_keeps_88 : mStep h k cX1_keeps bl Q Y (88, lv, st, σ) = (mN2 Y 104 91 lv st σ) := (mStep_d dX1_keeps_88).trans (mIfN2_J jt_88_16 jp_88_16)
theorem vX1_keeps_91 : mStep h k cX1_keeps bl Q Y (91, lv, st, σ) = (mLdA Y 92 lv st σ 0) := mStep_d dX1_keeps_91
theorem vX1_keeps_92 : mStep h k cX1_keeps bl Q Y (92, lv, st, σ) = (mGet h k Y 95 lv st σ 29) := mStep_d dX1_keeps_92
theorem vX1_keeps_95 : mStep h k cX1_keeps bl Q Y (95, lv, st, σ) = (mLdI Y 96 lv st σ 2) := mStep_d dX1_keeps_95
theorem vX1_keeps_96 : mStep h k cX1_keeps bl Q Y (96, lv, st, σ) = (mLdE h Y 97 lv st σ) := mStep_d dX1_keeps_96
theorem vX1_keeps_97 : mStep h k cX1_keeps bl Q Y (97, lv, st, σ) = (mLdI Y 98 lv st σ 1) := mStep_d dX1_keeps_97
theorem vX1_keeps_98 : mStep h k cX1_keeps bl Q Y (98, lv, st, σ) = (mBin Y 99 lv st σ (fun x y => x &&& y)) := mStep_d dX1_keeps_98
theorem vX1_keeps_99 : mStep h k cX1_keeps bl Q Y (99, lv, st, σ) = (mJ1 Y 104 102 lv st σ (fun x => x = 0)) := (mStep_d dX1_keeps_99).trans (mIf1_J jt_99_5 jp_99_5)
theorem vX1_keeps_102 : mStep h k cX1_keeps bl Q Y (102, lv, st, σ) = (Y (103, lv, .int (0) :: st, σ)) := by rw [mStep_d dX1_keeps_102, ← mx_c0]; rfl
theorem vX1_keeps_103 : mStep h k cX1_keeps bl Q Y (103, lv, st, σ) = (mRetI bl Q st σ) := mStep_d dX1_keeps_103
theorem vX1_keeps_104 : mStep h k cX1_keeps bl Q Y (104, lv, st, σ) = (mInc Y 107 lv st σ 2 (1)) := by rw [mStep_d dX1_keeps_104, ← mx_c1]; rfl
theorem vX1_keeps_107 : mStep h k cX1_keeps bl Q Y (107, lv, st, σ) = (Y (74, lv, st, σ)) := (mStep_d dX1_keeps_107).trans (mJ_J jt_107_m33 jp_107_m33)
theorem vX1_keeps_110 : mStep h k cX1_keeps bl Q Y (110, lv, st, σ) = (Y (111, lv, .int (1) :: st, σ)) := by rw [mStep_d dX1_keeps_110, ← mx_c1]; rfl
theorem vX1_keeps_111 : mStep h k cX1_keeps bl Q Y (111, lv, st, σ) = (mRetI bl Q st σ) := mStep_d dX1_keeps_111
theorem vX1_lists_0 : mStep h k cX1_lists bl Q Y (0, lv, st, σ) = (mLdI Y 1 lv st σ 1) := mStep_d dX1_lists_0
theorem vX1_lists_1 : mStep h k cX1_lists bl Q Y (1, lv, st, σ) = (mCaS k Y 4 lv st σ 70) := mStep_d dX1_lists_1
theorem vX1_lists_4 : mStep h k cX1_lists bl Q Y (4, lv, st, σ) = (mJ1 Y 16 7 lv st σ (fun x => x = 0)) := (mStep_d dX1_lists_4).trans (mIf1_J jt_4_12 jp_4_12)
theorem vX1_lists_7 : mStep h k cX1_lists bl Q Y (7, lv, st, σ) = (mLdI Y 8 lv st σ 2) := mStep_d dX1_lists_7
theorem vX1_lists_8 : mStep h k cX1_lists bl Q Y (8, lv, st, σ) = (Y (9, lv, .int (1) :: st, σ)) := by rw [mStep_d dX1_lists_8, ← mx_c1]; rfl
theorem vX1_lists_9 : mStep h k cX1_lists bl Q Y (9, lv, st, σ) = (Y (10, lv, .int (5) :: st, σ)) := by rw [mStep_d dX1_lists_9, ← mx_c5]; rfl
theorem vX1_lists_10 : mStep h k cX1_lists bl Q Y (10, lv, st, σ) = (mCaS k Y 13 lv st σ 56) := mStep_d dX1_lists_10
theorem vX1_lists_13 : mStep h k cX1_lists bl Q Y (13, lv, st, σ) = (mN1 Y 18 16 lv st σ) := (mStep_d dX1_lists_13).trans (mIfN1_J jt_13_5 jp_13_5)
theorem vX1_lists_16 : mStep h k cX1_lists bl Q Y (16, lv, st, σ) = (Y (17, lv, .int (0) :: st, σ)) := by rw [mStep_d dX1_lists_16, ← mx_c0]; rfl
theorem vX1_lists_17 : mStep h k cX1_lists bl Q Y (17, lv, st, σ) = (mRetI bl Q st σ) := mStep_d dX1_lists_17
theorem vX1_lists_18 : mStep h k cX1_lists bl Q Y (18, lv, st, σ) = (mLdA Y 19 lv st σ 0) := mStep_d dX1_lists_18
theorem vX1_lists_19 : mStep h k cX1_lists bl Q Y (19, lv, st, σ) = (mLdI Y 20 lv st σ 1) := mStep_d dX1_lists_19
theorem vX1_lists_20 : mStep h k cX1_lists bl Q Y (20, lv, st, σ) = (mCaV k Y 23 lv st σ 102) := mStep_d dX1_lists_20
theorem vX1_lists_23 : mStep h k cX1_lists bl Q Y (23, lv, st, σ) = (mStI Y 24 lv st σ 3) := mStep_d dX1_lists_23
theorem vX1_lists_24 : mStep h k cX1_lists bl Q Y (24, lv, st, σ) = (mLdA Y 25 lv st σ 0) := mStep_d dX1_lists_24
theorem vX1_lists_25 : mStep h k cX1_lists bl Q Y (25, lv, st, σ) = (mGet h k Y 28 lv st σ 41) := mStep_d dX1_lists_25
theorem vX1_lists_28 : mStep h k cX1_lists bl Q Y (28, lv, st, σ) = (mLdI Y 29 lv st σ 1) := mStep_d dX1_lists_28
theorem vX1_lists_29 : mStep h k cX1_lists bl Q Y (29, lv, st, σ) = (mLdE h Y 30 lv st σ) := mStep_d dX1_lists_29
theorem vX1_lists_30 : mStep h k cX1_lists bl Q Y (30, lv, st, σ) = (Y (31, lv, .int (1) :: st, σ)) := by rw [mStep_d dX1_lists_30, ← mx_c1]; rfl
theorem vX1_lists_31 : mStep h k cX1_lists bl Q Y (31, lv, st, σ) = (mBin Y 32 lv st σ (fun x y => x + y)) := mStep_d dX1_lists_31
theorem vX1_lists_32 : mStep h k cX1_lists bl Q Y (32, lv, st, σ) = (mLdA Y 33 lv st σ 0) := mStep_d dX1_lists_32
theorem vX1_lists_33 : mStep h k cX1_lists bl Q Y (33, lv, st, σ) = (mGet h k Y 36 lv st σ 16) := mStep_d dX1_lists_33
theorem vX1_lists_36 : mStep h k cX1_lists bl Q Y (36, lv, st, σ) = (mDiv Y 37 lv st σ (fun x y => x - x / y * y)) := mStep_d dX1_lists_36
theorem vX1_lists_37 : mStep h k cX1_lists bl Q Y (37, lv, st, σ) = (mN1 Y 49 40 lv st σ) := (mStep_d dX1_lists_37).trans (mIfN1_J jt_37_12 jp_37_12)
theorem vX1_lists_40 : mStep h k cX1_lists bl Q Y (40, lv, st, σ) = (mLdI Y 41 lv st σ 3) := mStep_d dX1_lists_40
theorem vX1_lists_41 : mStep h k cX1_lists bl Q Y (41, lv, st, σ) = (mLdA Y 42 lv st σ 0) := mStep_d dX1_lists_41
theorem vX1_lists_42 : mStep h k cX1_lists bl Q Y (42, lv, st, σ) = (mCaV k Y 45 lv st σ 80) := mStep_d dX1_lists_42
theorem vX1_lists_45 : mStep h k cX1_lists bl Q Y (45, lv, st, σ) = (mBin Y 46 lv st σ (fun x y => x &&& y)) := mStep_d dX1_lists_45
theorem vX1_lists_46 : mStep h k cX1_lists bl Q Y (46, lv, st, σ) = (Y (50, lv, st, σ)) := (mStep_d dX1_lists_46).trans (mJ_J jt_46_4 jp_46_4)
theorem vX1_lists_49 : mStep h k cX1_lists bl Q Y (49, lv, st, σ) = (Y (50, lv, .int (0) :: st, σ)) := by rw [mStep_d dX1_lists_49, ← mx_c0]; rfl
theorem vX1_lists_50 : mStep h k cX1_lists bl Q Y (50, lv, st, σ) = (mStI Y 52 lv st σ 4) := mStep_d dX1_lists_50
theorem vX1_lists_52 : mStep h k cX1_lists bl Q Y (52, lv, st, σ) = (Y (53, lv, .int (0) :: st, σ)) := by rw [mStep_d dX1_lists_52, ← mx_c0]; rfl
theorem vX1_lists_53 : mStep h k cX1_lists bl Q Y (53, lv, st, σ) = (mStI Y 55 lv st σ 5) := mStep_d dX1_lists_53
theorem vX1_lists_55 : mStep h k cX1_lists bl Q Y (55, lv, st, σ) = (mLdI Y 57 lv st σ 5) := mStep_d dX1_lists_55
theorem vX1_lists_57 : mStep h k cX1_lists bl Q Y (57, lv, st, σ) = (mLdA Y 58 lv st σ 0) := mStep_d dX1_lists_57
theorem vX1_lists_58 : mStep h k cX1_lists bl Q Y (58, lv, st, σ) = (mGet h k Y 61 lv st σ 53) := mStep_d dX1_lists_58
theorem vX1_lists_61 : mStep h k cX1_lists bl Q Y (61, lv, st, σ) = (mJ2 Y 84 64 lv st σ (fun x y => y ≤ x)) := (mStep_d dX1_lists_61).trans (mIf2_J jt_61_23 jp_61_23)
theorem vX1_lists_64 : mStep h k cX1_lists bl Q Y (64, lv, st, σ) = (mLdA Y 65 lv st σ 0) := mStep_d dX1_lists_64
theorem vX1_lists_65 : mStep h k cX1_lists bl Q Y (65, lv, st, σ) = (mGet h k Y 68 lv st σ 50) := mStep_d dX1_lists_65
theorem vX1_lists_68 : mStep h k cX1_lists bl Q Y (68, lv, st, σ) = (mLdI Y 70 lv st σ 5) := mStep_d dX1_lists_68
theorem vX1_lists_70 : mStep h k cX1_lists bl Q Y (70, lv, st, σ) = (mLdA Y 71 lv st σ 0) := mStep_d dX1_lists_70
theorem vX1_lists_71 : mStep h k cX1_lists bl Q Y (71, lv, st, σ) = (mLdI Y 72 lv st σ 1) := mStep_d dX1_lists_71
theorem vX1_lists_72 : mStep h k cX1_lists bl Q Y (72, lv, st, σ) = (mLdI Y 74 lv st σ 5) := mStep_d dX1_lists_72
theorem vX1_lists_74 : mStep h k cX1_lists bl Q Y (74, lv, st, σ) = (mCaV k Y 77 lv st σ 99) := mStep_d dX1_lists_74
theorem vX1_lists_77 : mStep h k cX1_lists bl Q Y (77, lv, st, σ) = (mStE h Y 78 lv st σ) := mStep_d dX1_lists_77
theorem vX1_lists_78 : mStep h k cX1_lists bl Q Y (78, lv, st, σ) = (mInc Y 81 lv st σ 5 (1)) := by rw [mStep_d dX1_lists_78, ← mx_c1]; rfl
theorem vX1_lists_81 : mStep h k cX1_lists bl Q Y (81, lv, st, σ) = (Y (55, lv, st, σ)) := (mStep_d dX1_lists_81).trans (mJ_J jt_81_m26 jp_81_m26)
theorem vX1_lists_84 : mStep h k cX1_lists bl Q Y (84, lv, st, σ) = (mLdA Y 85 lv st σ 0) := mStep_d dX1_lists_84
theorem vX1_lists_85 : mStep h k cX1_lists bl Q Y (85, lv, st, σ) = (Y (86, lv, .int (0) :: st, σ)) := by rw [mStep_d dX1_lists_85, ← mx_c0]; rfl
theorem vX1_lists_86 : mStep h k cX1_lists bl Q Y (86, lv, st, σ) = (mPut h k Y 89 lv st σ 105) := mStep_d dX1_lists_86
theorem vX1_lists_89 : mStep h k cX1_lists bl Q Y (89, lv, st, σ) = (mLdA Y 90 lv st σ 0) := mStep_d dX1_lists_89
theorem vX1_lists_90 : mStep h k cX1_lists bl Q Y (90, lv, st, σ) = (Y (91, lv, .int (0) :: st, σ)) := by rw [mStep_d dX1_lists_90, ← mx_c0]; rfl
theorem vX1_lists_91 : mStep h k cX1_lists bl Q Y (91, lv, st, σ) = (mPut h k Y 94 lv st σ 108) := mStep_d dX1_lists_91
theorem vX1_lists_94 : mStep h k cX1_lists bl Q Y (94, lv, st, σ) = (Y (95, lv, .int (1) :: st, σ)) := by rw [mStep_d dX1_lists_94, ← mx_c1]; rfl
theorem vX1_lists_95 : mStep h k cX1_lists bl Q Y (95, lv, st, σ) = (mStI Y 97 lv st σ 5) := mStep_d dX1_lists_95
theorem vX1_lists_97 : mStep h k cX1_lists bl Q Y (97, lv, st, σ) = (mLdI Y 99 lv st σ 5) := mStep_d dX1_lists_97
theorem vX1_lists_99 : mStep h k cX1_lists bl Q Y (99, lv, st, σ) = (Y (100, lv, .int (1) :: st, σ)) := by rw [mStep_d dX1_lists_99, ← mx_c1]; rfl
theorem vX1_lists_100 : mStep h k cX1_lists bl Q Y (100, lv, st, σ) = (mLdA Y 101 lv st σ 0) := mStep_d dX1_lists_100
theorem vX1_lists_101 : mStep h k cX1_lists bl Q Y (101, lv, st, σ) = (mGet h k Y 104 lv st σ 53) := mStep_d dX1_lists_101
theorem vX1_lists_104 : mStep h k cX1_lists bl Q Y (104, lv, st, σ) = (mBin Y 105 lv st σ (fun x y => x <<< (y &&& 31))) := mStep_d dX1_lists_104
theorem vX1_lists_105 : mStep h k cX1_lists bl Q Y (105, lv, st, σ) = (mJ2 Y 259 108 lv st σ (fun x y => y ≤ x)) := (mStep_d dX1_lists_105).trans (mIf2_J jt_105_154 jp_105_154)
theorem vX1_lists_108 : mStep h k cX1_lists bl Q Y (108, lv, st, σ) = (mLdI Y 110 lv st σ 5) := mStep_d dX1_lists_108
theorem vX1_lists_110 : mStep h k cX1_lists bl Q Y (110, lv, st, σ) = (mLdI Y 111 lv st σ 3) := mStep_d dX1_lists_110
theorem vX1_lists_111 : mStep h k cX1_lists bl Q Y (111, lv, st, σ) = (Y (112, lv, .int (-1) :: st, σ)) := by rw [mStep_d dX1_lists_111, ← mx_cm1]; rfl
theorem vX1_lists_112 : mStep h k cX1_lists bl Q Y (112, lv, st, σ) = (mBin Y 113 lv st σ (fun x y => x ^^^ y)) := mStep_d dX1_lists_112
theorem vX1_lists_113 : mStep h k cX1_lists bl Q Y (113, lv, st, σ) = (mBin Y 114 lv st σ (fun x y => x &&& y)) := mStep_d dX1_lists_113
theorem vX1_lists_114 : mStep h k cX1_lists bl Q Y (114, lv, st, σ) = (mN1 Y 253 117 lv st σ) := (mStep_d dX1_lists_114).trans (mIfN1_J jt_114_139 jp_114_139)
theorem vX1_lists_117 : mStep h k cX1_lists bl Q Y (117, lv, st, σ) = (mLdI Y 119 lv st σ 5) := mStep_d dX1_lists_117
theorem vX1_lists_119 : mStep h k cX1_lists bl Q Y (119, lv, st, σ) = (mCaS k Y 122 lv st σ 111) := mStep_d dX1_lists_119
theorem vX1_lists_122 : mStep h k cX1_lists bl Q Y (122, lv, st, σ) = (mLdI Y 123 lv st σ 2) := mStep_d dX1_lists_122
theorem vX1_lists_123 : mStep h k cX1_lists bl Q Y (123, lv, st, σ) = (mJ2 Y 253 126 lv st σ (fun x y => y < x)) := (mStep_d dX1_lists_123).trans (mIf2_J jt_123_130 jp_123_130)
theorem vX1_lists_126 : mStep h k cX1_lists bl Q Y (126, lv, st, σ) = (mLdI Y 128 lv st σ 5) := mStep_d dX1_lists_126
theorem vX1_lists_128 : mStep h k cX1_lists bl Q Y (128, lv, st, σ) = (mCaS k Y 131 lv st σ 111) := mStep_d dX1_lists_128
theorem vX1_lists_131 : mStep h k cX1_lists bl Q Y (131, lv, st, σ) = (mLdA Y 132 lv st σ 0) := mStep_d dX1_lists_131
theorem vX1_lists_132 : mStep h k cX1_lists bl Q Y (132, lv, st, σ) = (mGet h k Y 135 lv st σ 105) := mStep_d dX1_lists_132
theorem vX1_lists_135 : mStep h k cX1_lists bl Q Y (135, lv, st, σ) = (mCaS k Y 138 lv st σ 111) := mStep_d dX1_lists_135
theorem vX1_lists_138 : mStep h k cX1_lists bl Q Y (138, lv, st, σ) = (mJ2 Y 253 141 lv st σ (fun x y => x < y)) := (mStep_d dX1_lists_138).trans (mIf2_J jt_138_115 jp_138_115)
theorem vX1_lists_141 : mStep h k cX1_lists bl Q Y (141, lv, st, σ) = (mLdI Y 143 lv st σ 4) := mStep_d dX1_lists_141
theorem vX1_lists_143 : mStep h k cX1_lists bl Q Y (143, lv, st, σ) = (mJ1 Y 154 146 lv st σ (fun x => x = 0)) := (mStep_d dX1_lists_143).trans (mIf1_J jt_143_11 jp_143_11)
theorem vX1_lists_146 : mStep h k cX1_lists bl Q Y (146, lv, st, σ) = (mLdI Y 148 lv st σ 5) := mStep_d dX1_lists_146
theorem vX1_lists_148 : mStep h k cX1_lists bl Q Y (148, lv, st, σ) = (mLdI Y 150 lv st σ 4) := mStep_d dX1_lists_148
theorem vX1_lists_150 : mStep h k cX1_lists bl Q Y (150, lv, st, σ) = (mBin Y 151 lv st σ (fun x y => x &&& y)) := mStep_d dX1_lists_150
theorem vX1_lists_151 : mStep h k cX1_lists bl Q Y (151, lv, st, σ) = (mJ1 Y 253 154 lv st σ (fun x => x = 0)) := (mStep_d dX1_lists_151).trans (mIf1_J jt_151_102 jp_151_102)
theorem vX1_lists_154 : mStep h k cX1_lists bl Q Y (154, lv, st, σ) = (mLdA Y 155 lv st σ 0) := mStep_d dX1_lists_154
theorem vX1_lists_155 : mStep h k cX1_lists bl Q Y (155, lv, st, σ) = (mLdI Y 157 lv st σ 5) := mStep_d dX1_lists_155
theorem vX1_lists_157 : mStep h k cX1_lists bl Q Y (157, lv, st, σ) = (mCaV k Y 160 lv st σ 114) := mStep_d dX1_lists_157
theorem vX1_lists_160 : mStep h k cX1_lists bl Q Y (160, lv, st, σ) = (mN1 Y 166 163 lv st σ) := (mStep_d dX1_lists_160).trans (mIfN1_J jt_160_6 jp_160_6)
theorem vX1_lists_163 : mStep h k cX1_lists bl Q Y (163, lv, st, σ) = (Y (253, lv, st, σ)) := (mStep_d dX1_lists_163).trans (mJ_J jt_163_90 jp_163_90)
theorem vX1_lists_166 : mStep h k cX1_lists bl Q Y (166, lv, st, σ) = (Y (167, lv, .int (0) :: st, σ)) := by rw [mStep_d dX1_lists_166, ← mx_c0]; rfl
theorem vX1_lists_167 : mStep h k cX1_lists bl Q Y (167, lv, st, σ) = (mStI Y 169 lv st σ 6) := mStep_d dX1_lists_167
theorem vX1_lists_169 : mStep h k cX1_lists bl Q Y (169, lv, st, σ) = (Y (170, lv, .int (0) :: st, σ)) := by rw [mStep_d dX1_lists_169, ← mx_c0]; rfl
theorem vX1_lists_170 : mStep h k cX1_lists bl Q Y (170, lv, st, σ) = (mStI Y 172 lv st σ 7) := mStep_d dX1_lists_170
theorem vX1_lists_172 : mStep h k cX1_lists bl Q Y (172, lv, st, σ) = (mLdI Y 174 lv st σ 7) := mStep_d dX1_lists_172
theorem vX1_lists_174 : mStep h k cX1_lists bl Q Y (174, lv, st, σ) = (mLdA Y 175 lv st σ 0) := mStep_d dX1_lists_174
theorem vX1_lists_175 : mStep h k cX1_lists bl Q Y (175, lv, st, σ) = (mGet h k Y 178 lv st σ 53) := mStep_d dX1_lists_175
theorem vX1_lists_178 : mStep h k cX1_lists bl Q Y (178, lv, st, σ) = (mJ2 Y 214 181 lv st σ (fun x y => y ≤ x)) := (mStep_d dX1_lists_178).trans (mIf2_J jt_178_36 jp_178_36)
theorem vX1_lists_181 : mStep h k cX1_lists bl Q Y (181, lv, st, σ) = (mLdI Y 183 lv st σ 6) := mStep_d dX1_lists_181
theorem vX1_lists_183 : mStep h k cX1_lists bl Q Y (183, lv, st, σ) = (mLdI Y 185 lv st σ 5) := mStep_d dX1_lists_183
theorem vX1_lists_185 : mStep h k cX1_lists bl Q Y (185, lv, st, σ) = (mLdI Y 187 lv st σ 7) := mStep_d dX1_lists_185
theorem vX1_lists_187 : mStep h k cX1_lists bl Q Y (187, lv, st, σ) = (mBin Y 188 lv st σ (fun x y => x >>> (y &&& 31))) := mStep_d dX1_lists_187
theorem vX1_lists_188 : mStep h k cX1_lists bl Q Y (188, lv, st, σ) = (Y (189, lv, .int (1) :: st, σ)) := by rw [mStep_d dX1_lists_188, ← mx_c1]; rfl
theorem vX1_lists_189 : mStep h k cX1_lists bl Q Y (189, lv, st, σ) = (mBin Y 190 lv st σ (fun x y => x &&& y)) := mStep_d dX1_lists_189
theorem vX1_lists_190 : mStep h k cX1_lists bl Q Y (190, lv, st, σ) = (Y (191, lv, .int (1) :: st, σ)) := by rw [mStep_d dX1_lists_190, ← mx_c1]; rfl
theorem vX1_lists_191 : mStep h k cX1_lists bl Q Y (191, lv, st, σ) = (mN2 Y 204 194 lv st σ) := (mStep_d dX1_lists_191).trans (mIfN2_J jt_191_13 jp_191_13)
theorem vX1_lists_194 : mStep h k cX1_lists bl Q Y (194, lv, st, σ) = (mLdA Y 195 lv st σ 0) := mStep_d dX1_lists_194
theorem vX1_lists_195 : mStep h k cX1_lists bl Q Y (195, lv, st, σ) = (mGet h k Y 198 lv st σ 50) := mStep_d dX1_lists_195
theorem vX1_lists_198 : mStep h k cX1_lists bl Q Y (198, lv, st, σ) = (mLdI Y 200 lv st σ 7) := mStep_d dX1_lists_198
theorem vX1_lists_200 : mStep h k cX1_lists bl Q Y (200, lv, st, σ) = (mLdE h Y 201 lv st σ) := mStep_d dX1_lists_200
theorem vX1_lists_201 : mStep h k cX1_lists bl Q Y (201, lv, st, σ) = (Y (205, lv, st, σ)) := (mStep_d dX1_lists_201).trans (mJ_J jt_201_4 jp_201_4)
theorem vX1_lists_204 : mStep h k cX1_lists bl Q Y (204, lv, st, σ) = (Y (205, lv, .int (0) :: st, σ)) := by rw [mStep_d dX1_lists_204, ← mx_c0]; rfl
theorem vX1_lists_205 : mStep h k cX1_lists bl Q Y (205, lv, st, σ) = (mBin Y 206 lv st σ (fun x y => x + y)) := mStep_d dX1_lists_205
theorem vX1_lists_206 : mStep h k cX1_lists bl Q Y (206, lv, st, σ) = (mStI Y 208 lv st σ 6) := mStep_d dX1_lists_206
theorem vX1_lists_208 : mStep h k cX1_lists bl Q Y (208, lv, st, σ) = (mInc Y 211 lv st σ 7 (1)) := by rw [mStep_d dX1_lists_208, ← mx_c1]; rfl
theorem vX1_lists_211 : mStep h k cX1_lists bl Q Y (211, lv, st, σ) = (Y (172, lv, st, σ)) := (mStep_d dX1_lists_211).trans (mJ_J jt_211_m39 jp_211_m39)
theorem vX1_lists_214 : mStep h k cX1_lists bl Q Y (214, lv, st, σ) = (mLdI Y 216 lv st σ 5) := mStep_d dX1_lists_214
theorem vX1_lists_216 : mStep h k cX1_lists bl Q Y (216, lv, st, σ) = (mCaS k Y 219 lv st σ 111) := mStep_d dX1_lists_216
theorem vX1_lists_219 : mStep h k cX1_lists bl Q Y (219, lv, st, σ) = (mLdA Y 220 lv st σ 0) := mStep_d dX1_lists_219
theorem vX1_lists_220 : mStep h k cX1_lists bl Q Y (220, lv, st, σ) = (mGet h k Y 223 lv st σ 105) := mStep_d dX1_lists_220
theorem vX1_lists_223 : mStep h k cX1_lists bl Q Y (223, lv, st, σ) = (mCaS k Y 226 lv st σ 111) := mStep_d dX1_lists_223
theorem vX1_lists_226 : mStep h k cX1_lists bl Q Y (226, lv, st, σ) = (mN2 Y 241 229 lv st σ) := (mStep_d dX1_lists_226).trans (mIfN2_J jt_226_15 jp_226_15)
theorem vX1_lists_229 : mStep h k cX1_lists bl Q Y (229, lv, st, σ) = (mLdI Y 231 lv st σ 6) := mStep_d dX1_lists_229
theorem vX1_lists_231 : mStep h k cX1_lists bl Q Y (231, lv, st, σ) = (mLdA Y 232 lv st σ 0) := mStep_d dX1_lists_231
theorem vX1_lists_232 : mStep h k cX1_lists bl Q Y (232, lv, st, σ) = (mGet h k Y 235 lv st σ 108) := mStep_d dX1_lists_232
theorem vX1_lists_235 : mStep h k cX1_lists bl Q Y (235, lv, st, σ) = (mJ2 Y 241 238 lv st σ (fun x y => y < x)) := (mStep_d dX1_lists_235).trans (mIf2_J jt_235_6 jp_235_6)
theorem vX1_lists_238 : mStep h k cX1_lists bl Q Y (238, lv, st, σ) = (Y (253, lv, st, σ)) := (mStep_d dX1_lists_238).trans (mJ_J jt_238_15 jp_238_15)
theorem vX1_lists_241 : mStep h k cX1_lists bl Q Y (241, lv, st, σ) = (mLdA Y 242 lv st σ 0) := mStep_d dX1_lists_241
theorem vX1_lists_242 : mStep h k cX1_lists bl Q Y (242, lv, st, σ) = (mLdI Y 244 lv st σ 5) := mStep_d dX1_lists_242
theorem vX1_lists_244 : mStep h k cX1_lists bl Q Y (244, lv, st, σ) = (mPut h k Y 247 lv st σ 105) := mStep_d dX1_lists_244
theorem vX1_lists_247 : mStep h k cX1_lists bl Q Y (247, lv, st, σ) = (mLdA Y 248 lv st σ 0) := mStep_d dX1_lists_247
theorem vX1_lists_248 : mStep h k cX1_lists bl Q Y (248, lv, st, σ) = (mLdI Y 250 lv st σ 6) := mStep_d dX1_lists_248
theorem vX1_lists_250 : mStep h k cX1_lists bl Q Y (250, lv, st, σ) = (mPut h k Y 253 lv st σ 108) := mStep_d dX1_lists_250
theorem vX1_lists_253 : mStep h k cX1_lists bl Q Y (253, lv, st, σ) = (mInc Y 256 lv st σ 5 (1)) := by rw [mStep_d dX1_lists_253, ← mx_c1]; rfl
theorem vX1_lists_256 : mStep h k cX1_lists bl Q Y (256, lv, st, σ) = (Y (97, lv, st, σ)) := (mStep_d dX1_lists_256).trans (mJ_J jt_256_m159 jp_256_m159)
theorem vX1_lists_259 : mStep h k cX1_lists bl Q Y (259, lv, st, σ) = (Y (260, lv, .int (1) :: st, σ)) := by rw [mStep_d dX1_lists_259, ← mx_c1]; rfl
theorem vX1_lists_260 : mStep h k cX1_lists bl Q Y (260, lv, st, σ) = (mRetI bl Q st σ) := mStep_d dX1_lists_260
theorem vX1_list_0 : mStep h k cX1_list bl Q Y (0, lv, st, σ) = (mLdI Y 1 lv st σ 3) := mStep_d dX1_list_0
theorem vX1_list_1 : mStep h k cX1_list bl Q Y (1, lv, st, σ) = (Y (2, lv, .int (0) :: st, σ)) := by rw [mStep_d dX1_list_1, ← mx_c0]; rfl
theorem vX1_list_2 : mStep h k cX1_list bl Q Y (2, lv, st, σ) = (Y (3, lv, .int (1) :: st, σ)) := by rw [mStep_d dX1_list_2, ← mx_c1]; rfl
theorem vX1_list_3 : mStep h k cX1_list bl Q Y (3, lv, st, σ) = (mCaS k Y 6 lv st σ 56) := mStep_d dX1_list_3
theorem vX1_list_6 : mStep h k cX1_list bl Q Y (6, lv, st, σ) = (mJ1 Y 36 9 lv st σ (fun x => x = 0)) := (mStep_d dX1_list_6).trans (mIf1_J jt_6_30 jp_6_30)
theorem vX1_list_9 : mStep h k cX1_list bl Q Y (9, lv, st, σ) = (mLdA Y 10 lv st σ 0) := mStep_d dX1_list_9
theorem vX1_list_10 : mStep h k cX1_list bl Q Y (10, lv, st, σ) = (mLdI Y 11 lv st σ 1) := mStep_d dX1_list_10
theorem vX1_list_11 : mStep h k cX1_list bl Q Y (11, lv, st, σ) = (mLdI Y 12 lv st σ 2) := mStep_d dX1_list_11
theorem vX1_list_12 : mStep h k cX1_list bl Q Y (12, lv, st, σ) = (mCaV k Y 15 lv st σ 117) := mStep_d dX1_list_12
theorem vX1_list_15 : mStep h k cX1_list bl Q Y (15, lv, st, σ) = (mJ1 Y 36 18 lv st σ (fun x => x = 0)) := (mStep_d dX1_list_15).trans (mIf1_J jt_15_21 jp_15_21)
theorem vX1_list_18 : mStep h k cX1_list bl Q Y (18, lv, st, σ) = (mLdI Y 19 lv st σ 3) := mStep_d dX1_list_18
theorem vX1_list_19 : mStep h k cX1_list bl Q Y (19, lv, st, σ) = (mN1 Y 29 22 lv st σ) := (mStep_d dX1_list_19).trans (mIfN1_J jt_19_10 jp_19_10)
theorem vX1_list_22 : mStep h k cX1_list bl Q Y (22, lv, st, σ) = (mLdA Y 23 lv st σ 0) := mStep_d dX1_list_22
theorem vX1_list_23 : mStep h k cX1_list bl Q Y (23, lv, st, σ) = (mGet h k Y 26 lv st σ 105) := mStep_d dX1_list_23
theorem vX1_list_26 : mStep h k cX1_list bl Q Y (26, lv, st, σ) = (Y (38, lv, st, σ)) := (mStep_d dX1_list_26).trans (mJ_J jt_26_12 jp_26_12)
theorem vX1_list_29 : mStep h k cX1_list bl Q Y (29, lv, st, σ) = (mLdA Y 30 lv st σ 0) := mStep_d dX1_list_29
theorem vX1_list_30 : mStep h k cX1_list bl Q Y (30, lv, st, σ) = (mGet h k Y 33 lv st σ 108) := mStep_d dX1_list_30
theorem vX1_list_33 : mStep h k cX1_list bl Q Y (33, lv, st, σ) = (Y (38, lv, st, σ)) := (mStep_d dX1_list_33).trans (mJ_J jt_33_5 jp_33_5)
theorem vX1_list_36 : mStep h k cX1_list bl Q Y (36, lv, st, σ) = (mKon k Y 38 lv st σ 94) := mStep_d dX1_list_36
theorem vX1_list_38 : mStep h k cX1_list bl Q Y (38, lv, st, σ) = (mRetI bl Q st σ) := mStep_d dX1_list_38
theorem vX1_show_0 : mStep h k cX1_show bl Q Y (0, lv, st, σ) = (mLdA Y 1 lv st σ 0) := mStep_d dX1_show_0
theorem vX1_show_1 : mStep h k cX1_show bl Q Y (1, lv, st, σ) = (mLdI Y 2 lv st σ 1) := mStep_d dX1_show_1
theorem vX1_show_2 : mStep h k cX1_show bl Q Y (2, lv, st, σ) = (mLdI Y 3 lv st σ 2) := mStep_d dX1_show_2
theorem vX1_show_3 : mStep h k cX1_show bl Q Y (3, lv, st, σ) = (mCaV k Y 6 lv st σ 117) := mStep_d dX1_show_3
theorem vX1_show_6 : mStep h k cX1_show bl Q Y (6, lv, st, σ) = (mN1 Y 11 9 lv st σ) := (mStep_d dX1_show_6).trans (mIfN1_J jt_6_5 jp_6_5)
theorem vX1_show_9 : mStep h k cX1_show bl Q Y (9, lv, st, σ) = (Y (10, lv, .int (-1) :: st, σ)) := by rw [mStep_d dX1_show_9, ← mx_cm1]; rfl
theorem vX1_show_10 : mStep h k cX1_show bl Q Y (10, lv, st, σ) = (mRetI bl Q st σ) := mStep_d dX1_show_10
theorem vX1_show_11 : mStep h k cX1_show bl Q Y (11, lv, st, σ) = (mLdA Y 12 lv st σ 0) := mStep_d dX1_show_11
theorem vX1_show_12 : mStep h k cX1_show bl Q Y (12, lv, st, σ) = (mGet h k Y 15 lv st σ 41) := mStep_d dX1_show_12
theorem vX1_show_15 : mStep h k cX1_show bl Q Y (15, lv, st, σ) = (mLdI Y 16 lv st σ 1) := mStep_d dX1_show_15
theorem vX1_show_16 : mStep h k cX1_show bl Q Y (16, lv, st, σ) = (mDup2 Y 17 lv st σ) := mStep_d dX1_show_16
theorem vX1_show_17 : mStep h k cX1_show bl Q Y (17, lv, st, σ) = (mLdE h Y 18 lv st σ) := mStep_d dX1_show_17
theorem vX1_show_18 : mStep h k cX1_show bl Q Y (18, lv, st, σ) = (Y (19, lv, .int (1) :: st, σ)) := by rw [mStep_d dX1_show_18, ← mx_c1]; rfl
theorem vX1_show_19 : mStep h k cX1_show bl Q Y (19, lv, st, σ) = (mBin Y 20 lv st σ (fun x y => x + y)) := mStep_d dX1_show_19
theorem vX1_show_20 : mStep h k cX1_show bl Q Y (20, lv, st, σ) = (mStE h Y 21 lv st σ) := mStep_d dX1_show_20
theorem vX1_show_21 : mStep h k cX1_show bl Q Y (21, lv, st, σ) = (Y (22, lv, .int (0) :: st, σ)) := by rw [mStep_d dX1_show_21, ← mx_c0]; rfl
theorem vX1_show_22 : mStep h k cX1_show bl Q Y (22, lv, st, σ) = (mStI Y 23 lv st σ 3) := mStep_d dX1_show_22
theorem vX1_show_23 : mStep h k cX1_show bl Q Y (23, lv, st, σ) = (mLdI Y 24 lv st σ 3) := mStep_d dX1_show_23
theorem vX1_show_24 : mStep h k cX1_show bl Q Y (24, lv, st, σ) = (mLdA Y 25 lv st σ 0) := mStep_d dX1_show_24
theorem vX1_show_25 : mStep h k cX1_show bl Q Y (25, lv, st, σ) = (mGet h k Y 28 lv st σ 53) := mStep_d dX1_show_25
theorem vX1_show_28 : mStep h k cX1_show bl Q Y (28, lv, st, σ) = (mJ2 Y 109 31 lv st σ (fun x y => y ≤ x)) := (mStep_d dX1_show_28).trans (mIf2_J jt_28_81 jp_28_81)
theorem vX1_show_31 : mStep h k cX1_show bl Q Y (31, lv, st, σ) = (mLdA Y 32 lv st σ 0) := mStep_d dX1_show_31
theorem vX1_show_32 : mStep h k cX1_show bl Q Y (32, lv, st, σ) = (mGet h k Y 35 lv st σ 105) := mStep_d dX1_show_32
theorem vX1_show_35 : mStep h k cX1_show bl Q Y (35, lv, st, σ) = (mLdI Y 36 lv st σ 3) := mStep_d dX1_show_35
theorem vX1_show_36 : mStep h k cX1_show bl Q Y (36, lv, st, σ) = (mBin Y 37 lv st σ (fun x y => x >>> (y &&& 31))) := mStep_d dX1_show_36
theorem vX1_show_37 : mStep h k cX1_show bl Q Y (37, lv, st, σ) = (Y (38, lv, .int (1) :: st, σ)) := by rw [mStep_d dX1_show_37, ← mx_c1]; rfl
theorem vX1_show_38 : mStep h k cX1_show bl Q Y (38, lv, st, σ) = (mBin Y 39 lv st σ (fun x y => x &&& y)) := mStep_d dX1_show_38
theorem vX1_show_39 : mStep h k cX1_show bl Q Y (39, lv, st, σ) = (mN1 Y 45 42 lv st σ) := (mStep_d dX1_show_39).trans (mIfN1_J jt_39_6 jp_39_6)
theorem vX1_show_42 : mStep h k cX1_show bl Q Y (42, lv, st, σ) = (Y (103, lv, st, σ)) := (mStep_d dX1_show_42).trans (mJ_J jt_42_61 jp_42_61)
theorem vX1_show_45 : mStep h k cX1_show bl Q Y (45, lv, st, σ) = (Y (47, lv, .int (12) :: st, σ)) := by rw [mStep_d dX1_show_45, ← mx_b12]; rfl
theorem vX1_show_47 : mStep h k cX1_show bl Q Y (47, lv, st, σ) = (mLdI Y 48 lv st σ 1) := mStep_d dX1_show_47
theorem vX1_show_48 : mStep h k cX1_show bl Q Y (48, lv, st, σ) = (mBin Y 49 lv st σ (fun x y => x * y)) := mStep_d dX1_show_48
theorem vX1_show_49 : mStep h k cX1_show bl Q Y (49, lv, st, σ) = (mLdI Y 50 lv st σ 3) := mStep_d dX1_show_49
theorem vX1_show_50 : mStep h k cX1_show bl Q Y (50, lv, st, σ) = (mBin Y 51 lv st σ (fun x y => x + y)) := mStep_d dX1_show_50
theorem vX1_show_51 : mStep h k cX1_show bl Q Y (51, lv, st, σ) = (mStI Y 53 lv st σ 4) := mStep_d dX1_show_51
theorem vX1_show_53 : mStep h k cX1_show bl Q Y (53, lv, st, σ) = (mLdA Y 54 lv st σ 0) := mStep_d dX1_show_53
theorem vX1_show_54 : mStep h k cX1_show bl Q Y (54, lv, st, σ) = (mGet h k Y 57 lv st σ 44) := mStep_d dX1_show_54
theorem vX1_show_57 : mStep h k cX1_show bl Q Y (57, lv, st, σ) = (mLdI Y 59 lv st σ 4) := mStep_d dX1_show_57
theorem vX1_show_59 : mStep h k cX1_show bl Q Y (59, lv, st, σ) = (mDup2 Y 60 lv st σ) := mStep_d dX1_show_59
theorem vX1_show_60 : mStep h k cX1_show bl Q Y (60, lv, st, σ) = (mLdE h Y 61 lv st σ) := mStep_d dX1_show_60
theorem vX1_show_61 : mStep h k cX1_show bl Q Y (61, lv, st, σ) = (Y (62, lv, .int (1) :: st, σ)) := by rw [mStep_d dX1_show_61, ← mx_c1]; rfl
theorem vX1_show_62 : mStep h k cX1_show bl Q Y (62, lv, st, σ) = (mBin Y 63 lv st σ (fun x y => x + y)) := mStep_d dX1_show_62
theorem vX1_show_63 : mStep h k cX1_show bl Q Y (63, lv, st, σ) = (mStE h Y 64 lv st σ) := mStep_d dX1_show_63
theorem vX1_show_64 : mStep h k cX1_show bl Q Y (64, lv, st, σ) = (mLdA Y 65 lv st σ 0) := mStep_d dX1_show_64
theorem vX1_show_65 : mStep h k cX1_show bl Q Y (65, lv, st, σ) = (mGet h k Y 68 lv st σ 44) := mStep_d dX1_show_65
theorem vX1_show_68 : mStep h k cX1_show bl Q Y (68, lv, st, σ) = (mLdI Y 70 lv st σ 4) := mStep_d dX1_show_68
theorem vX1_show_70 : mStep h k cX1_show bl Q Y (70, lv, st, σ) = (mLdE h Y 71 lv st σ) := mStep_d dX1_show_70
theorem vX1_show_71 : mStep h k cX1_show bl Q Y (71, lv, st, σ) = (mLdA Y 72 lv st σ 0) := mStep_d dX1_show_71
theorem vX1_show_72 : mStep h k cX1_show bl Q Y (72, lv, st, σ) = (mGet h k Y 75 lv st σ 19) := mStep_d dX1_show_72
theorem vX1_show_75 : mStep h k cX1_show bl Q Y (75, lv, st, σ) = (mJ2 Y 81 78 lv st σ (fun x y => y ≤ x)) := (mStep_d dX1_show_75).trans (mIf2_J jt_75_6 jp_75_6)
theorem vX1_show_78 : mStep h k cX1_show bl Q Y (78, lv, st, σ) = (Y (103, lv, st, σ)) := (mStep_d dX1_show_78).trans (mJ_J jt_78_25 jp_78_25)
theorem vX1_show_81 : mStep h k cX1_show bl Q Y (81, lv, st, σ) = (mLdA Y 82 lv st σ 0) := mStep_d dX1_show_81
theorem vX1_show_82 : mStep h k cX1_show bl Q Y (82, lv, st, σ) = (mGet h k Y 85 lv st σ 44) := mStep_d dX1_show_82
theorem vX1_show_85 : mStep h k cX1_show bl Q Y (85, lv, st, σ) = (mLdI Y 87 lv st σ 4) := mStep_d dX1_show_85
theorem vX1_show_87 : mStep h k cX1_show bl Q Y (87, lv, st, σ) = (Y (88, lv, .int (0) :: st, σ)) := by rw [mStep_d dX1_show_87, ← mx_c0]; rfl
theorem vX1_show_88 : mStep h k cX1_show bl Q Y (88, lv, st, σ) = (mStE h Y 89 lv st σ) := mStep_d dX1_show_88
theorem vX1_show_89 : mStep h k cX1_show bl Q Y (89, lv, st, σ) = (mLdA Y 90 lv st σ 0) := mStep_d dX1_show_89
theorem vX1_show_90 : mStep h k cX1_show bl Q Y (90, lv, st, σ) = (mGet h k Y 93 lv st σ 47) := mStep_d dX1_show_90
theorem vX1_show_93 : mStep h k cX1_show bl Q Y (93, lv, st, σ) = (mLdI Y 95 lv st σ 4) := mStep_d dX1_show_93
theorem vX1_show_95 : mStep h k cX1_show bl Q Y (95, lv, st, σ) = (mLdA Y 96 lv st σ 0) := mStep_d dX1_show_95
theorem vX1_show_96 : mStep h k cX1_show bl Q Y (96, lv, st, σ) = (mGet h k Y 99 lv st σ 60) := mStep_d dX1_show_96
theorem vX1_show_99 : mStep h k cX1_show bl Q Y (99, lv, st, σ) = (Y (101, lv, .int (7) :: st, σ)) := by rw [mStep_d dX1_show_99, ← mx_b7]; rfl
theorem vX1_show_101 : mStep h k cX1_show bl Q Y (101, lv, st, σ) = (mBin Y 102 lv st σ (fun x y => x + y)) := mStep_d dX1_show_101
theorem vX1_show_102 : mStep h k cX1_show bl Q Y (102, lv, st, σ) = (mStE h Y 103 lv st σ) := mStep_d dX1_show_102
theorem vX1_show_103 : mStep h k cX1_show bl Q Y (103, lv, st, σ) = (mInc Y 106 lv st σ 3 (1)) := by rw [mStep_d dX1_show_103, ← mx_c1]; rfl
theorem vX1_show_106 : mStep h k cX1_show bl Q Y (106, lv, st, σ) = (Y (23, lv, st, σ)) := (mStep_d dX1_show_106).trans (mJ_J jt_106_m83 jp_106_m83)
theorem vX1_show_109 : mStep h k cX1_show bl Q Y (109, lv, st, σ) = (mLdA Y 110 lv st σ 0) := mStep_d dX1_show_109
theorem vX1_show_110 : mStep h k cX1_show bl Q Y (110, lv, st, σ) = (mGet h k Y 113 lv st σ 105) := mStep_d dX1_show_110
theorem vX1_show_113 : mStep h k cX1_show bl Q Y (113, lv, st, σ) = (mRetI bl Q st σ) := mStep_d dX1_show_113
theorem vX1_shown_0 : mStep h k cX1_shown bl Q Y (0, lv, st, σ) = (mLdI Y 1 lv st σ 1) := mStep_d dX1_shown_0
theorem vX1_shown_1 : mStep h k cX1_shown bl Q Y (1, lv, st, σ) = (mCaS k Y 4 lv st σ 70) := mStep_d dX1_shown_1
theorem vX1_shown_4 : mStep h k cX1_shown bl Q Y (4, lv, st, σ) = (mN1 Y 9 7 lv st σ) := (mStep_d dX1_shown_4).trans (mIfN1_J jt_4_5 jp_4_5)
theorem vX1_shown_7 : mStep h k cX1_shown bl Q Y (7, lv, st, σ) = (Y (8, lv, .int (-1) :: st, σ)) := by rw [mStep_d dX1_shown_7, ← mx_cm1]; rfl
theorem vX1_shown_8 : mStep h k cX1_shown bl Q Y (8, lv, st, σ) = (mRetI bl Q st σ) := mStep_d dX1_shown_8
theorem vX1_shown_9 : mStep h k cX1_shown bl Q Y (9, lv, st, σ) = (mLdI Y 10 lv st σ 3) := mStep_d dX1_shown_9
theorem vX1_shown_10 : mStep h k cX1_shown bl Q Y (10, lv, st, σ) = (Y (11, lv, .int (2) :: st, σ)) := by rw [mStep_d dX1_shown_10, ← mx_c2]; rfl
theorem vX1_shown_11 : mStep h k cX1_shown bl Q Y (11, lv, st, σ) = (mN2 Y 30 14 lv st σ) := (mStep_d dX1_shown_11).trans (mIfN2_J jt_11_19 jp_11_19)
theorem vX1_shown_14 : mStep h k cX1_shown bl Q Y (14, lv, st, σ) = (mLdI Y 15 lv st σ 2) := mStep_d dX1_shown_14
theorem vX1_shown_15 : mStep h k cX1_shown bl Q Y (15, lv, st, σ) = (Y (16, lv, .int (-1) :: st, σ)) := by rw [mStep_d dX1_shown_15, ← mx_cm1]; rfl
theorem vX1_shown_16 : mStep h k cX1_shown bl Q Y (16, lv, st, σ) = (mN2 Y 28 19 lv st σ) := (mStep_d dX1_shown_16).trans (mIfN2_J jt_16_12 jp_16_12)
theorem vX1_shown_19 : mStep h k cX1_shown bl Q Y (19, lv, st, σ) = (mLdA Y 20 lv st σ 0) := mStep_d dX1_shown_19
theorem vX1_shown_20 : mStep h k cX1_shown bl Q Y (20, lv, st, σ) = (mGet h k Y 23 lv st σ 41) := mStep_d dX1_shown_20
theorem vX1_shown_23 : mStep h k cX1_shown bl Q Y (23, lv, st, σ) = (mLdI Y 24 lv st σ 1) := mStep_d dX1_shown_23
theorem vX1_shown_24 : mStep h k cX1_shown bl Q Y (24, lv, st, σ) = (mLdE h Y 25 lv st σ) := mStep_d dX1_shown_24
theorem vX1_shown_25 : mStep h k cX1_shown bl Q Y (25, lv, st, σ) = (Y (29, lv, st, σ)) := (mStep_d dX1_shown_25).trans (mJ_J jt_25_4 jp_25_4)
theorem vX1_shown_28 : mStep h k cX1_shown bl Q Y (28, lv, st, σ) = (Y (29, lv, .int (-1) :: st, σ)) := by rw [mStep_d dX1_shown_28, ← mx_cm1]; rfl
theorem vX1_shown_29 : mStep h k cX1_shown bl Q Y (29, lv, st, σ) = (mRetI bl Q st σ) := mStep_d dX1_shown_29
theorem vX1_shown_30 : mStep h k cX1_shown bl Q Y (30, lv, st, σ) = (mLdA Y 31 lv st σ 0) := mStep_d dX1_shown_30
theorem vX1_shown_31 : mStep h k cX1_shown bl Q Y (31, lv, st, σ) = (mLdI Y 32 lv st σ 2) := mStep_d dX1_shown_31
theorem vX1_shown_32 : mStep h k cX1_shown bl Q Y (32, lv, st, σ) = (mCaV k Y 35 lv st σ 66) := mStep_d dX1_shown_32
theorem vX1_shown_35 : mStep h k cX1_shown bl Q Y (35, lv, st, σ) = (mN1 Y 40 38 lv st σ) := (mStep_d dX1_shown_35).trans (mIfN1_J jt_35_5 jp_35_5)
theorem vX1_shown_38 : mStep h k cX1_shown bl Q Y (38, lv, st, σ) = (Y (39, lv, .int (-1) :: st, σ)) := by rw [mStep_d dX1_shown_38, ← mx_cm1]; rfl
theorem vX1_shown_39 : mStep h k cX1_shown bl Q Y (39, lv, st, σ) = (mRetI bl Q st σ) := mStep_d dX1_shown_39
theorem vX1_shown_40 : mStep h k cX1_shown bl Q Y (40, lv, st, σ) = (Y (42, lv, .int (12) :: st, σ)) := by rw [mStep_d dX1_shown_40, ← mx_b12]; rfl
theorem vX1_shown_42 : mStep h k cX1_shown bl Q Y (42, lv, st, σ) = (mLdI Y 43 lv st σ 1) := mStep_d dX1_shown_42
theorem vX1_shown_43 : mStep h k cX1_shown bl Q Y (43, lv, st, σ) = (mBin Y 44 lv st σ (fun x y => x * y)) := mStep_d dX1_shown_43
theorem vX1_shown_44 : mStep h k cX1_shown bl Q Y (44, lv, st, σ) = (mLdI Y 45 lv st σ 2) := mStep_d dX1_shown_44
theorem vX1_shown_45 : mStep h k cX1_shown bl Q Y (45, lv, st, σ) = (mBin Y 46 lv st σ (fun x y => x + y)) := mStep_d dX1_shown_45
theorem vX1_shown_46 : mStep h k cX1_shown bl Q Y (46, lv, st, σ) = (mStI Y 48 lv st σ 4) := mStep_d dX1_shown_46
theorem vX1_shown_48 : mStep h k cX1_shown bl Q Y (48, lv, st, σ) = (mLdI Y 49 lv st σ 3) := mStep_d dX1_shown_48
theorem vX1_shown_49 : mStep h k cX1_shown bl Q Y (49, lv, st, σ) = (mN1 Y 62 52 lv st σ) := (mStep_d dX1_shown_49).trans (mIfN1_J jt_49_13 jp_49_13)
theorem vX1_shown_52 : mStep h k cX1_shown bl Q Y (52, lv, st, σ) = (mLdA Y 53 lv st σ 0) := mStep_d dX1_shown_52
theorem vX1_shown_53 : mStep h k cX1_shown bl Q Y (53, lv, st, σ) = (mGet h k Y 56 lv st σ 44) := mStep_d dX1_shown_53
theorem vX1_shown_56 : mStep h k cX1_shown bl Q Y (56, lv, st, σ) = (mLdI Y 58 lv st σ 4) := mStep_d dX1_shown_56
theorem vX1_shown_58 : mStep h k cX1_shown bl Q Y (58, lv, st, σ) = (mLdE h Y 59 lv st σ) := mStep_d dX1_shown_58
theorem vX1_shown_59 : mStep h k cX1_shown bl Q Y (59, lv, st, σ) = (Y (101, lv, st, σ)) := (mStep_d dX1_shown_59).trans (mJ_J jt_59_42 jp_59_42)
theorem vX1_shown_62 : mStep h k cX1_shown bl Q Y (62, lv, st, σ) = (mLdI Y 63 lv st σ 3) := mStep_d dX1_shown_62
theorem vX1_shown_63 : mStep h k cX1_shown bl Q Y (63, lv, st, σ) = (Y (64, lv, .int (1) :: st, σ)) := by rw [mStep_d dX1_shown_63, ← mx_c1]; rfl
theorem vX1_shown_64 : mStep h k cX1_shown bl Q Y (64, lv, st, σ) = (mN2 Y 100 67 lv st σ) := (mStep_d dX1_shown_64).trans (mIfN2_J jt_64_36 jp_64_36)
theorem vX1_shown_67 : mStep h k cX1_shown bl Q Y (67, lv, st, σ) = (mLdA Y 68 lv st σ 0) := mStep_d dX1_shown_67
theorem vX1_shown_68 : mStep h k cX1_shown bl Q Y (68, lv, st, σ) = (mGet h k Y 71 lv st σ 60) := mStep_d dX1_shown_68
theorem vX1_shown_71 : mStep h k cX1_shown bl Q Y (71, lv, st, σ) = (mLdA Y 72 lv st σ 0) := mStep_d dX1_shown_71
theorem vX1_shown_72 : mStep h k cX1_shown bl Q Y (72, lv, st, σ) = (mGet h k Y 75 lv st σ 47) := mStep_d dX1_shown_72
theorem vX1_shown_75 : mStep h k cX1_shown bl Q Y (75, lv, st, σ) = (mLdI Y 77 lv st σ 4) := mStep_d dX1_shown_75
theorem vX1_shown_77 : mStep h k cX1_shown bl Q Y (77, lv, st, σ) = (mLdE h Y 78 lv st σ) := mStep_d dX1_shown_77
theorem vX1_shown_78 : mStep h k cX1_shown bl Q Y (78, lv, st, σ) = (mJ2 Y 96 81 lv st σ (fun x y => y ≤ x)) := (mStep_d dX1_shown_78).trans (mIf2_J jt_78_18 jp_78_18)
theorem vX1_shown_81 : mStep h k cX1_shown bl Q Y (81, lv, st, σ) = (mLdA Y 82 lv st σ 0) := mStep_d dX1_shown_81
theorem vX1_shown_82 : mStep h k cX1_shown bl Q Y (82, lv, st, σ) = (mGet h k Y 85 lv st σ 47) := mStep_d dX1_shown_82
theorem vX1_shown_85 : mStep h k cX1_shown bl Q Y (85, lv, st, σ) = (mLdI Y 87 lv st σ 4) := mStep_d dX1_shown_85
theorem vX1_shown_87 : mStep h k cX1_shown bl Q Y (87, lv, st, σ) = (mLdE h Y 88 lv st σ) := mStep_d dX1_shown_87
theorem vX1_shown_88 : mStep h k cX1_shown bl Q Y (88, lv, st, σ) = (mLdA Y 89 lv st σ 0) := mStep_d dX1_shown_88
theorem vX1_shown_89 : mStep h k cX1_shown bl Q Y (89, lv, st, σ) = (mGet h k Y 92 lv st σ 60) := mStep_d dX1_shown_89
theorem vX1_shown_92 : mStep h k cX1_shown bl Q Y (92, lv, st, σ) = (mBin Y 93 lv st σ (fun x y => x - y)) := mStep_d dX1_shown_92
theorem vX1_shown_93 : mStep h k cX1_shown bl Q Y (93, lv, st, σ) = (Y (101, lv, st, σ)) := (mStep_d dX1_shown_93).trans (mJ_J jt_93_8 jp_93_8)
theorem vX1_shown_96 : mStep h k cX1_shown bl Q Y (96, lv, st, σ) = (Y (97, lv, .int (0) :: st, σ)) := by rw [mStep_d dX1_shown_96, ← mx_c0]; rfl
theorem vX1_shown_97 : mStep h k cX1_shown bl Q Y (97, lv, st, σ) = (Y (101, lv, st, σ)) := (mStep_d dX1_shown_97).trans (mJ_J jt_97_4 jp_97_4)
theorem vX1_shown_100 : mStep h k cX1_shown bl Q Y (100, lv, st, σ) = (Y (101, lv, .int (-1) :: st, σ)) := by rw [mStep_d dX1_shown_100, ← mx_cm1]; rfl
theorem vX1_shown_101 : mStep h k cX1_shown bl Q Y (101, lv, st, σ) = (mRetI bl Q st σ) := mStep_d dX1_shown_101
theorem vX1_why_0 : mStep h k cX1_why bl Q Y (0, lv, st, σ) = (mLdI Y 1 lv st σ 1) := mStep_d dX1_why_0
theorem vX1_why_1 : mStep h k cX1_why bl Q Y (1, lv, st, σ) = (mCaS k Y 4 lv st σ 70) := mStep_d dX1_why_1
theorem vX1_why_4 : mStep h k cX1_why bl Q Y (4, lv, st, σ) = (mJ1 Y 24 7 lv st σ (fun x => x = 0)) := (mStep_d dX1_why_4).trans (mIf1_J jt_4_20 jp_4_20)
theorem vX1_why_7 : mStep h k cX1_why bl Q Y (7, lv, st, σ) = (mLdA Y 8 lv st σ 0) := mStep_d dX1_why_7
theorem vX1_why_8 : mStep h k cX1_why bl Q Y (8, lv, st, σ) = (mLdI Y 9 lv st σ 2) := mStep_d dX1_why_8
theorem vX1_why_9 : mStep h k cX1_why bl Q Y (9, lv, st, σ) = (mCaV k Y 12 lv st σ 66) := mStep_d dX1_why_9
theorem vX1_why_12 : mStep h k cX1_why bl Q Y (12, lv, st, σ) = (mJ1 Y 24 15 lv st σ (fun x => x = 0)) := (mStep_d dX1_why_12).trans (mIf1_J jt_12_12 jp_12_12)
theorem vX1_why_15 : mStep h k cX1_why bl Q Y (15, lv, st, σ) = (mLdI Y 16 lv st σ 3) := mStep_d dX1_why_15
theorem vX1_why_16 : mStep h k cX1_why bl Q Y (16, lv, st, σ) = (Y (17, lv, .int (0) :: st, σ)) := by rw [mStep_d dX1_why_16, ← mx_c0]; rfl
theorem vX1_why_17 : mStep h k cX1_why bl Q Y (17, lv, st, σ) = (Y (18, lv, .int (2) :: st, σ)) := by rw [mStep_d dX1_why_17, ← mx_c2]; rfl
theorem vX1_why_18 : mStep h k cX1_why bl Q Y (18, lv, st, σ) = (mCaS k Y 21 lv st σ 56) := mStep_d dX1_why_18
theorem vX1_why_21 : mStep h k cX1_why bl Q Y (21, lv, st, σ) = (mN1 Y 27 24 lv st σ) := (mStep_d dX1_why_21).trans (mIfN1_J jt_21_6 jp_21_6)
theorem vX1_why_24 : mStep h k cX1_why bl Q Y (24, lv, st, σ) = (mKon k Y 26 lv st σ 94) := mStep_d dX1_why_24
theorem vX1_why_26 : mStep h k cX1_why bl Q Y (26, lv, st, σ) = (mRetI bl Q st σ) := mStep_d dX1_why_26
theorem vX1_why_27 : mStep h k cX1_why bl Q Y (27, lv, st, σ) = (mLdA Y 28 lv st σ 0) := mStep_d dX1_why_27
theorem vX1_why_28 : mStep h k cX1_why bl Q Y (28, lv, st, σ) = (mLdI Y 29 lv st σ 1) := mStep_d dX1_why_28
theorem vX1_why_29 : mStep h k cX1_why bl Q Y (29, lv, st, σ) = (mCaV k Y 32 lv st σ 95) := mStep_d dX1_why_29
theorem vX1_why_32 : mStep h k cX1_why bl Q Y (32, lv, st, σ) = (Y (33, lv, .int (1) :: st, σ)) := by rw [mStep_d dX1_why_32, ← mx_c1]; rfl
theorem vX1_why_33 : mStep h k cX1_why bl Q Y (33, lv, st, σ) = (mLdI Y 34 lv st σ 2) := mStep_d dX1_why_33
theorem vX1_why_34 : mStep h k cX1_why bl Q Y (34, lv, st, σ) = (mBin Y 35 lv st σ (fun x y => x <<< (y &&& 31))) := mStep_d dX1_why_34
theorem vX1_why_35 : mStep h k cX1_why bl Q Y (35, lv, st, σ) = (Y (36, lv, .int (-1) :: st, σ)) := by rw [mStep_d dX1_why_35, ← mx_cm1]; rfl
theorem vX1_why_36 : mStep h k cX1_why bl Q Y (36, lv, st, σ) = (mBin Y 37 lv st σ (fun x y => x ^^^ y)) := mStep_d dX1_why_36
theorem vX1_why_37 : mStep h k cX1_why bl Q Y (37, lv, st, σ) = (mBin Y 38 lv st σ (fun x y => x &&& y)) := mStep_d dX1_why_37
theorem vX1_why_38 : mStep h k cX1_why bl Q Y (38, lv, st, σ) = (mStI Y 40 lv st σ 4) := mStep_d dX1_why_38
theorem vX1_why_40 : mStep h k cX1_why bl Q Y (40, lv, st, σ) = (Y (41, lv, .int (-1) :: st, σ)) := by rw [mStep_d dX1_why_40, ← mx_cm1]; rfl
theorem vX1_why_41 : mStep h k cX1_why bl Q Y (41, lv, st, σ) = (mStI Y 43 lv st σ 5) := mStep_d dX1_why_41
theorem vX1_why_43 : mStep h k cX1_why bl Q Y (43, lv, st, σ) = (Y (44, lv, .int (0) :: st, σ)) := by rw [mStep_d dX1_why_43, ← mx_c0]; rfl
theorem vX1_why_44 : mStep h k cX1_why bl Q Y (44, lv, st, σ) = (mStI Y 46 lv st σ 6) := mStep_d dX1_why_44
theorem vX1_why_46 : mStep h k cX1_why bl Q Y (46, lv, st, σ) = (mLdI Y 48 lv st σ 6) := mStep_d dX1_why_46
theorem vX1_why_48 : mStep h k cX1_why bl Q Y (48, lv, st, σ) = (mLdA Y 49 lv st σ 0) := mStep_d dX1_why_48
theorem vX1_why_49 : mStep h k cX1_why bl Q Y (49, lv, st, σ) = (mGet h k Y 52 lv st σ 53) := mStep_d dX1_why_49
theorem vX1_why_52 : mStep h k cX1_why bl Q Y (52, lv, st, σ) = (mJ2 Y 99 55 lv st σ (fun x y => y ≤ x)) := (mStep_d dX1_why_52).trans (mIf2_J jt_52_47 jp_52_47)
theorem vX1_why_55 : mStep h k cX1_why bl Q Y (55, lv, st, σ) = (mLdI Y 57 lv st σ 4) := mStep_d dX1_why_55
theorem vX1_why_57 : mStep h k cX1_why bl Q Y (57, lv, st, σ) = (mLdI Y 59 lv st σ 6) := mStep_d dX1_why_57
theorem vX1_why_59 : mStep h k cX1_why bl Q Y (59, lv, st, σ) = (mBin Y 60 lv st σ (fun x y => x >>> (y &&& 31))) := mStep_d dX1_why_59
theorem vX1_why_60 : mStep h k cX1_why bl Q Y (60, lv, st, σ) = (Y (61, lv, .int (1) :: st, σ)) := by rw [mStep_d dX1_why_60, ← mx_c1]; rfl
theorem vX1_why_61 : mStep h k cX1_why bl Q Y (61, lv, st, σ) = (mBin Y 62 lv st σ (fun x y => x &&& y)) := mStep_d dX1_why_61
theorem vX1_why_62 : mStep h k cX1_why bl Q Y (62, lv, st, σ) = (Y (63, lv, .int (1) :: st, σ)) := by rw [mStep_d dX1_why_62, ← mx_c1]; rfl
theorem vX1_why_63 : mStep h k cX1_why bl Q Y (63, lv, st, σ) = (mN2 Y 93 66 lv st σ) := (mStep_d dX1_why_63).trans (mIfN2_J jt_63_30 jp_63_30)
theorem vX1_why_66 : mStep h k cX1_why bl Q Y (66, lv, st, σ) = (mLdI Y 68 lv st σ 5) := mStep_d dX1_why_66
theorem vX1_why_68 : mStep h k cX1_why bl Q Y (68, lv, st, σ) = (Y (69, lv, .int (-1) :: st, σ)) := by rw [mStep_d dX1_why_68, ← mx_cm1]; rfl
theorem vX1_why_69 : mStep h k cX1_why bl Q Y (69, lv, st, σ) = (mJ2 Y 89 72 lv st σ (fun x y => x = y)) := (mStep_d dX1_why_69).trans (mIf2_J jt_69_20 jp_69_20)
theorem vX1_why_72 : mStep h k cX1_why bl Q Y (72, lv, st, σ) = (mLdA Y 73 lv st σ 0) := mStep_d dX1_why_72
theorem vX1_why_73 : mStep h k cX1_why bl Q Y (73, lv, st, σ) = (mLdI Y 74 lv st σ 2) := mStep_d dX1_why_73
theorem vX1_why_74 : mStep h k cX1_why bl Q Y (74, lv, st, σ) = (mLdI Y 76 lv st σ 6) := mStep_d dX1_why_74
theorem vX1_why_76 : mStep h k cX1_why bl Q Y (76, lv, st, σ) = (mCaV k Y 79 lv st σ 91) := mStep_d dX1_why_76
theorem vX1_why_79 : mStep h k cX1_why bl Q Y (79, lv, st, σ) = (mLdA Y 80 lv st σ 0) := mStep_d dX1_why_79
theorem vX1_why_80 : mStep h k cX1_why bl Q Y (80, lv, st, σ) = (mLdI Y 81 lv st σ 2) := mStep_d dX1_why_80
theorem vX1_why_81 : mStep h k cX1_why bl Q Y (81, lv, st, σ) = (mLdI Y 83 lv st σ 5) := mStep_d dX1_why_81
theorem vX1_why_83 : mStep h k cX1_why bl Q Y (83, lv, st, σ) = (mCaV k Y 86 lv st σ 91) := mStep_d dX1_why_83
theorem vX1_why_86 : mStep h k cX1_why bl Q Y (86, lv, st, σ) = (mJ2 Y 93 89 lv st σ (fun x y => x ≤ y)) := (mStep_d dX1_why_86).trans (mIf2_J jt_86_7 jp_86_7)
theorem vX1_why_89 : mStep h k cX1_why bl Q Y (89, lv, st, σ) = (mLdI Y 91 lv st σ 6) := mStep_d dX1_why_89
theorem vX1_why_91 : mStep h k cX1_why bl Q Y (91, lv, st, σ) = (mStI Y 93 lv st σ 5) := mStep_d dX1_why_91
theorem vX1_why_93 : mStep h k cX1_why bl Q Y (93, lv, st, σ) = (mInc Y 96 lv st σ 6 (1)) := by rw [mStep_d dX1_why_93, ← mx_c1]; rfl
theorem vX1_why_96 : mStep h k cX1_why bl Q Y (96, lv, st, σ) = (Y (46, lv, st, σ)) := (mStep_d dX1_why_96).trans (mJ_J jt_96_m50 jp_96_m50)
theorem vX1_why_99 : mStep h k cX1_why bl Q Y (99, lv, st, σ) = (mLdI Y 101 lv st σ 5) := mStep_d dX1_why_99
theorem vX1_why_101 : mStep h k cX1_why bl Q Y (101, lv, st, σ) = (Y (102, lv, .int (-1) :: st, σ)) := by rw [mStep_d dX1_why_101, ← mx_cm1]; rfl
theorem vX1_why_102 : mStep h k cX1_why bl Q Y (102, lv, st, σ) = (mN2 Y 108 105 lv st σ) := (mStep_d dX1_why_102).trans (mIfN2_J jt_102_6 jp_102_6)
theorem vX1_why_105 : mStep h k cX1_why bl Q Y (105, lv, st, σ) = (mKon k Y 107 lv st σ 94) := mStep_d dX1_why_105
theorem vX1_why_107 : mStep h k cX1_why bl Q Y (107, lv, st, σ) = (mRetI bl Q st σ) := mStep_d dX1_why_107
theorem vX1_why_108 : mStep h k cX1_why bl Q Y (108, lv, st, σ) = (mLdI Y 109 lv st σ 3) := mStep_d dX1_why_108
theorem vX1_why_109 : mStep h k cX1_why bl Q Y (109, lv, st, σ) = (mN1 Y 117 112 lv st σ) := (mStep_d dX1_why_109).trans (mIfN1_J jt_109_8 jp_109_8)
theorem vX1_why_112 : mStep h k cX1_why bl Q Y (112, lv, st, σ) = (mLdI Y 114 lv st σ 5) := mStep_d dX1_why_112
theorem vX1_why_114 : mStep h k cX1_why bl Q Y (114, lv, st, σ) = (Y (139, lv, st, σ)) := (mStep_d dX1_why_114).trans (mJ_J jt_114_25 jp_114_25)
theorem vX1_why_117 : mStep h k cX1_why bl Q Y (117, lv, st, σ) = (mLdI Y 118 lv st σ 3) := mStep_d dX1_why_117
theorem vX1_why_118 : mStep h k cX1_why bl Q Y (118, lv, st, σ) = (Y (119, lv, .int (1) :: st, σ)) := by rw [mStep_d dX1_why_118, ← mx_c1]; rfl
theorem vX1_why_119 : mStep h k cX1_why bl Q Y (119, lv, st, σ) = (mN2 Y 132 122 lv st σ) := (mStep_d dX1_why_119).trans (mIfN2_J jt_119_13 jp_119_13)
theorem vX1_why_122 : mStep h k cX1_why bl Q Y (122, lv, st, σ) = (mLdA Y 123 lv st σ 0) := mStep_d dX1_why_122
theorem vX1_why_123 : mStep h k cX1_why bl Q Y (123, lv, st, σ) = (mLdI Y 124 lv st σ 2) := mStep_d dX1_why_123
theorem vX1_why_124 : mStep h k cX1_why bl Q Y (124, lv, st, σ) = (mLdI Y 126 lv st σ 5) := mStep_d dX1_why_124
theorem vX1_why_126 : mStep h k cX1_why bl Q Y (126, lv, st, σ) = (mCaV k Y 129 lv st σ 91) := mStep_d dX1_why_126
theorem vX1_why_129 : mStep h k cX1_why bl Q Y (129, lv, st, σ) = (Y (139, lv, st, σ)) := (mStep_d dX1_why_129).trans (mJ_J jt_129_10 jp_129_10)
theorem vX1_why_132 : mStep h k cX1_why bl Q Y (132, lv, st, σ) = (mLdA Y 133 lv st σ 0) := mStep_d dX1_why_132
theorem vX1_why_133 : mStep h k cX1_why bl Q Y (133, lv, st, σ) = (mLdI Y 134 lv st σ 2) := mStep_d dX1_why_133
theorem vX1_why_134 : mStep h k cX1_why bl Q Y (134, lv, st, σ) = (mLdI Y 136 lv st σ 5) := mStep_d dX1_why_134
theorem vX1_why_136 : mStep h k cX1_why bl Q Y (136, lv, st, σ) = (mCaV k Y 139 lv st σ 84) := mStep_d dX1_why_136
theorem vX1_why_139 : mStep h k cX1_why bl Q Y (139, lv, st, σ) = (mRetI bl Q st σ) := mStep_d dX1_why_139
end MROWS
end
section
def spX1_isIn : mC := mF 3 true (fun _ _ => True) (fun _ xs => b32 (isInF (mArg xs 0) (mArg xs 1) (mArg xs 2)))
set_option maxHeartbeats 8000000 in
set_option maxRecDepth 100000 in
theorem ctX1_isIn : mCt hX1 1 20 vwC yX1_isIn cX1_isIn 3 (some .boolean) 0 spX1_isIn := by
  refine mMeet (k := (kX1 [])) (bl := 1) (own := RX1) (C := RX1) (T := TX1) (ty0 := tyX1) (by decide +kernel) rfl (tbX1 _) mCal_nil (Or.inr (Or.inl ⟨rfl, rfl, rfl⟩)) (by decide) ?_
  intro σ xs hlen hpre X hX
  obtain ⟨a0, a1, a2, rfl⟩ := mx_l3 xs hlen
  change X (0, [some (.int a0), some (.int a1), some (.int a2)], [], σ)
  refine mWalk hX [] 30 ?_
  simp only [mRun, mCut, mAt, mSet, mArgs, mFind, mLdI, mLdA, mStI, mInc, mBin, mDiv, mJ1, mJ2, mN1, mN2, mGet, mPut, mLdE, mStE, mLdR, mKon, mDup, mDup2, mAft, mCaV, mCaS, mRetI, mRetV, fX1_7, fX1_13, fX1_16, fX1_19, fX1_22, fX1_26, fX1_29, fX1_32, fX1_35, fX1_38, fX1_41, fX1_44, fX1_47, fX1_50, fX1_53, fX1_60, fX1_63, fX1_73, fX1_105, fX1_108, oX1_94, cX1_c, nX1_0, vX1_0, nX1_1, vX1_1, nX1_2, vX1_2, nX1_3, vX1_3, nX1_4, vX1_4, nX1_5, vX1_5, nX1_6, vX1_6, nX1_7, vX1_7, vX1_8, vX1_9, vX1_10, vX1_11, vX1_12, vX1_13, vX1_14, vX1_15, vX1_16, vX1_17, nX1_18, vX1_18, nX1_19, vX1_19, lX1_1, aX1_1, lX1_2, aX1_2, lX1_3, aX1_3, lX1_4, aX1_4, lX1_5, aX1_5, lX1_6, aX1_6, lX1_7, aX1_7, lX1_8, aX1_8, lX1_9, aX1_9, lX1_10, aX1_10, gX1_n, vX1_isIn_0, vX1_isIn_1, vX1_isIn_2, vX1_isIn_5, vX1_isIn_6, vX1_isIn_7, vX1_isIn_10, vX1_isIn_11, vX1_isIn_14, vX1_isIn_15, Nat.reduceAdd, Nat.reduceSub, Nat.reduceBEq, Nat.reduceEqDiff, Nat.reduceLeDiff, Int.reduceAdd, Int.reduceSub, Int.reduceNeg, Int.reduceToNat, Int.reduceLE, Int.reduceLT, Int.zero_add, Nat.zero_add, List.toList_toArray, Option.map_some, Bool.or_false, Bool.or_true, Bool.false_or, Bool.true_or, Bool.or_self, cond_false, cond_true, List.length_cons, List.length_nil, true_and, and_true, forall_eq, forall_eq_apply_imp_iff, and_imp, ite_true, ite_false, reduceIte, true_or, or_true, false_or, or_false, false_and, and_false, eq_self, List.drop_succ_cons, List.drop_zero, List.zip_cons_cons, List.zip_nil_right, List.all_cons, List.all_nil, false_implies, true_implies, Bool.true_eq_false, Bool.false_eq_true, not_false_eq_true, not_true_eq_false, mx_u, mx_u2, mx_b0, mx_b1, Bool.not_eq_false, Bool.not_eq_true, Nat.le_refl, ne_eq, mG, mF, mGv, Int32.add_sub_cancel, spX1_isIn, mArg]
  refine ⟨fun h => ?_, fun h => ⟨fun h2 => ?_, fun h2 => ?_⟩⟩
  · have := Int32.not_le.mpr h
    simp [isInF, b32, this]
  · have := Int32.not_le.mpr h2
    simp [isInF, b32, this]
  · have h3 := Int32.not_lt.mp h
    have h4 := Int32.not_lt.mp h2
    simp [isInF, b32, h3, h4]
set_option maxRecDepth 100000 in
theorem okX1_56 {d : Nat} (hd : 0 + 1 ≤ d) : mOK hX1 1 20 vwC RX1 RX1 d 56 spX1_isIn := ⟨yX1_isIn, cX1_isIn, 3, (some .boolean), 0, ctX1_isIn, hd, by decide, by decide +kernel, by decide +kernel, by decide +kernel, by decide +kernel, fun _ => by decide +kernel, fun h => by cases h⟩
def spX1_isThing : mC := mF 1 false (fun _ _ => True) (fun σ xs => b32 (isInF (mArg xs 0) 0 (σ.1 0 - 1)))
set_option maxHeartbeats 8000000 in
set_option maxRecDepth 100000 in
theorem ctX1_isThing : mCt hX1 1 20 vwC yX1_isThing cX1_isThing 2 (some .boolean) 1 spX1_isThing := by
  refine mMeet (k := (kX1 [(56, spX1_isIn)])) (bl := 1) (own := RX1) (C := RX1) (T := TX1) (ty0 := tyX1) (by decide +kernel) rfl (tbX1 _) (mCal_cons (okX1_56 (by decide)) mCal_nil) (Or.inr (Or.inl ⟨rfl, rfl, rfl⟩)) (by decide) ?_
  intro σ xs hlen hpre X hX
  obtain ⟨a0, rfl⟩ := mx_l1 xs hlen
  change X (0, [some (.ref 0), some (.int a0)], [], σ)
  refine mWalk hX [] 30 ?_
  simp only [mRun, mCut, mAt, mSet, mArgs, mFind, mLdI, mLdA, mStI, mInc, mBin, mDiv, mJ1, mJ2, mN1, mN2, mGet, mPut, mLdE, mStE, mLdR, mKon, mDup, mDup2, mAft, mCaV, mCaS, mRetI, mRetV, fX1_7, fX1_13, fX1_16, fX1_19, fX1_22, fX1_26, fX1_29, fX1_32, fX1_35, fX1_38, fX1_41, fX1_44, fX1_47, fX1_50, fX1_53, fX1_60, fX1_63, fX1_73, fX1_105, fX1_108, oX1_94, cX1_c, nX1_0, vX1_0, nX1_1, vX1_1, nX1_2, vX1_2, nX1_3, vX1_3, nX1_4, vX1_4, nX1_5, vX1_5, nX1_6, vX1_6, nX1_7, vX1_7, vX1_8, vX1_9, vX1_10, vX1_11, vX1_12, vX1_13, vX1_14, vX1_15, vX1_16, vX1_17, nX1_18, vX1_18, nX1_19, vX1_19, lX1_1, aX1_1, lX1_2, aX1_2, lX1_3, aX1_3, lX1_4, aX1_4, lX1_5, aX1_5, lX1_6, aX1_6, lX1_7, aX1_7, lX1_8, aX1_8, lX1_9, aX1_9, lX1_10, aX1_10, gX1_n, vX1_isThing_0, vX1_isThing_1, vX1_isThing_2, vX1_isThing_3, vX1_isThing_6, vX1_isThing_7, vX1_isThing_8, vX1_isThing_11, Nat.reduceAdd, Nat.reduceSub, Nat.reduceBEq, Nat.reduceEqDiff, Nat.reduceLeDiff, Int.reduceAdd, Int.reduceSub, Int.reduceNeg, Int.reduceToNat, Int.reduceLE, Int.reduceLT, Int.zero_add, Nat.zero_add, List.toList_toArray, Option.map_some, Bool.or_false, Bool.or_true, Bool.false_or, Bool.true_or, Bool.or_self, cond_false, cond_true, List.length_cons, List.length_nil, true_and, and_true, forall_eq, forall_eq_apply_imp_iff, and_imp, ite_true, ite_false, reduceIte, true_or, or_true, false_or, or_false, false_and, and_false, eq_self, List.drop_succ_cons, List.drop_zero, List.zip_cons_cons, List.zip_nil_right, List.all_cons, List.all_nil, false_implies, true_implies, Bool.true_eq_false, Bool.false_eq_true, not_false_eq_true, not_true_eq_false, mx_u, mx_u2, mx_b0, mx_b1, Bool.not_eq_false, Bool.not_eq_true, Nat.le_refl, ne_eq, mG, mF, mGv, Int32.add_sub_cancel, spX1_isThing, spX1_isIn, mArg]
  cases isInF a0 0 (σ.1 0 - 1) <;> simp
set_option maxRecDepth 100000 in
theorem okX1_66 {d : Nat} (hd : 1 + 1 ≤ d) : mOK hX1 1 20 vwC RX1 RX1 d 66 spX1_isThing := ⟨yX1_isThing, cX1_isThing, 2, (some .boolean), 1, ctX1_isThing, hd, by decide, by decide +kernel, by decide +kernel, by decide +kernel, by decide +kernel, fun h => (by cases h), fun _ => ⟨by decide +kernel, by decide +kernel⟩⟩
def spX1_isPerson : mC := mF 1 true (fun _ _ => True) (fun _ xs => b32 (isInF (mArg xs 0) 0 7))
set_option maxHeartbeats 8000000 in
set_option maxRecDepth 100000 in
theorem ctX1_isPerson : mCt hX1 1 20 vwC yX1_isPerson cX1_isPerson 1 (some .boolean) 1 spX1_isPerson := by
  refine mMeet (k := (kX1 [(56, spX1_isIn)])) (bl := 1) (own := RX1) (C := RX1) (T := TX1) (ty0 := tyX1) (by decide +kernel) rfl (tbX1 _) (mCal_cons (okX1_56 (by decide)) mCal_nil) (Or.inr (Or.inl ⟨rfl, rfl, rfl⟩)) (by decide) ?_
  intro σ xs hlen hpre X hX
  obtain ⟨a0, rfl⟩ := mx_l1 xs hlen
  change X (0, [some (.int a0)], [], σ)
  refine mWalk hX [] 30 ?_
  simp only [mRun, mCut, mAt, mSet, mArgs, mFind, mLdI, mLdA, mStI, mInc, mBin, mDiv, mJ1, mJ2, mN1, mN2, mGet, mPut, mLdE, mStE, mLdR, mKon, mDup, mDup2, mAft, mCaV, mCaS, mRetI, mRetV, fX1_7, fX1_13, fX1_16, fX1_19, fX1_22, fX1_26, fX1_29, fX1_32, fX1_35, fX1_38, fX1_41, fX1_44, fX1_47, fX1_50, fX1_53, fX1_60, fX1_63, fX1_73, fX1_105, fX1_108, oX1_94, cX1_c, nX1_0, vX1_0, nX1_1, vX1_1, nX1_2, vX1_2, nX1_3, vX1_3, nX1_4, vX1_4, nX1_5, vX1_5, nX1_6, vX1_6, nX1_7, vX1_7, vX1_8, vX1_9, vX1_10, vX1_11, vX1_12, vX1_13, vX1_14, vX1_15, vX1_16, vX1_17, nX1_18, vX1_18, nX1_19, vX1_19, lX1_1, aX1_1, lX1_2, aX1_2, lX1_3, aX1_3, lX1_4, aX1_4, lX1_5, aX1_5, lX1_6, aX1_6, lX1_7, aX1_7, lX1_8, aX1_8, lX1_9, aX1_9, lX1_10, aX1_10, gX1_n, vX1_isPerson_0, vX1_isPerson_1, vX1_isPerson_2, vX1_isPerson_4, vX1_isPerson_7, Nat.reduceAdd, Nat.reduceSub, Nat.reduceBEq, Nat.reduceEqDiff, Nat.reduceLeDiff, Int.reduceAdd, Int.reduceSub, Int.reduceNeg, Int.reduceToNat, Int.reduceLE, Int.reduceLT, Int.zero_add, Nat.zero_add, List.toList_toArray, Option.map_some, Bool.or_false, Bool.or_true, Bool.false_or, Bool.true_or, Bool.or_self, cond_false, cond_true, List.length_cons, List.length_nil, true_and, and_true, forall_eq, forall_eq_apply_imp_iff, and_imp, ite_true, ite_false, reduceIte, true_or, or_true, false_or, or_false, false_and, and_false, eq_self, List.drop_succ_cons, List.drop_zero, List.zip_cons_cons, List.zip_nil_right, List.all_cons, List.all_nil, false_implies, true_implies, Bool.true_eq_false, Bool.false_eq_true, not_false_eq_true, not_true_eq_false, mx_u, mx_u2, mx_b0, mx_b1, Bool.not_eq_false, Bool.not_eq_true, Nat.le_refl, ne_eq, mG, mF, mGv, Int32.add_sub_cancel, spX1_isPerson, spX1_isIn, mArg]
  cases isInF a0 0 7 <;> simp
set_option maxRecDepth 100000 in
theorem okX1_70 {d : Nat} (hd : 1 + 1 ≤ d) : mOK hX1 1 20 vwC RX1 RX1 d 70 spX1_isPerson := ⟨yX1_isPerson, cX1_isPerson, 1, (some .boolean), 1, ctX1_isPerson, hd, by decide, by decide +kernel, by decide +kernel, by decide +kernel, by decide +kernel, fun _ => by decide +kernel, fun h => by cases h⟩
def mThingF (σ : mS) (s : Int32) : Int32 × mS := if isInF s 0 3 = true ∧ ¬ σ.1 0 = 12 then (σ.1 0, (upd (upd σ.1 7 (σ.1 7 ||| 1 <<< (σ.1 0 &&& 31))) 0 (σ.1 0 + 1), up2 (up2 σ.2 1 (σ.1 0).toNatClampNeg s) 2 (σ.1 0).toNatClampNeg (σ.1 1))) else (-1, σ)
def spX1_thing : mC := mG 1 false (fun σ _ => mOk σ) (fun σ xs => mThingF σ (mArg xs 0))
set_option maxHeartbeats 8000000 in
set_option maxRecDepth 100000 in
theorem ctX1_thing : mCt hX1 1 20 vwC yX1_thing cX1_thing 2 (some .int) 1 spX1_thing := by
  refine mMeet (k := (kX1 [(56, spX1_isIn)])) (bl := 0) (own := RX1) (C := RX1) (T := TX1) (ty0 := tyX1) (by decide +kernel) rfl (tbX1 _) (mCal_cons (okX1_56 (by decide)) mCal_nil) (Or.inl ⟨rfl, rfl, rfl⟩) (by decide) ?_
  intro σ xs hlen hpre X hX
  obtain ⟨a0, rfl⟩ := mx_l1 xs hlen
  change X (0, [some (.ref 0), some (.int a0)], [], σ)
  have hpre : mOk σ := hpre
  refine mWalk hX [] 60 ?_
  simp only [mRun, mCut, mAt, mSet, mArgs, mFind, mLdI, mLdA, mStI, mInc, mBin, mDiv, mJ1, mJ2, mN1, mN2, mGet, mPut, mLdE, mStE, mLdR, mKon, mDup, mDup2, mAft, mCaV, mCaS, mRetI, mRetV, fX1_7, fX1_13, fX1_16, fX1_19, fX1_22, fX1_26, fX1_29, fX1_32, fX1_35, fX1_38, fX1_41, fX1_44, fX1_47, fX1_50, fX1_53, fX1_60, fX1_63, fX1_73, fX1_105, fX1_108, oX1_94, cX1_c, nX1_0, vX1_0, nX1_1, vX1_1, nX1_2, vX1_2, nX1_3, vX1_3, nX1_4, vX1_4, nX1_5, vX1_5, nX1_6, vX1_6, nX1_7, vX1_7, vX1_8, vX1_9, vX1_10, vX1_11, vX1_12, vX1_13, vX1_14, vX1_15, vX1_16, vX1_17, nX1_18, vX1_18, nX1_19, vX1_19, lX1_1, aX1_1, lX1_2, aX1_2, lX1_3, aX1_3, lX1_4, aX1_4, lX1_5, aX1_5, lX1_6, aX1_6, lX1_7, aX1_7, lX1_8, aX1_8, lX1_9, aX1_9, lX1_10, aX1_10, gX1_n, vX1_thing_0, vX1_thing_1, vX1_thing_2, vX1_thing_3, vX1_thing_6, vX1_thing_9, vX1_thing_10, vX1_thing_13, vX1_thing_15, vX1_thing_18, vX1_thing_19, vX1_thing_20, vX1_thing_21, vX1_thing_24, vX1_thing_25, vX1_thing_28, vX1_thing_29, vX1_thing_30, vX1_thing_31, vX1_thing_34, vX1_thing_35, vX1_thing_38, vX1_thing_39, vX1_thing_42, vX1_thing_43, vX1_thing_44, vX1_thing_45, vX1_thing_48, vX1_thing_49, vX1_thing_50, vX1_thing_53, vX1_thing_54, vX1_thing_55, vX1_thing_58, vX1_thing_59, vX1_thing_60, vX1_thing_63, vX1_thing_64, vX1_thing_65, vX1_thing_68, vX1_thing_69, vX1_thing_72, vX1_thing_73, vX1_thing_74, Nat.reduceAdd, Nat.reduceSub, Nat.reduceBEq, Nat.reduceEqDiff, Nat.reduceLeDiff, Int.reduceAdd, Int.reduceSub, Int.reduceNeg, Int.reduceToNat, Int.reduceLE, Int.reduceLT, Int.zero_add, Nat.zero_add, List.toList_toArray, Option.map_some, Bool.or_false, Bool.or_true, Bool.false_or, Bool.true_or, Bool.or_self, cond_false, cond_true, List.length_cons, List.length_nil, true_and, and_true, forall_eq, forall_eq_apply_imp_iff, and_imp, ite_true, ite_false, reduceIte, true_or, or_true, false_or, or_false, false_and, and_false, eq_self, List.drop_succ_cons, List.drop_zero, List.zip_cons_cons, List.zip_nil_right, List.all_cons, List.all_nil, false_implies, true_implies, Bool.true_eq_false, Bool.false_eq_true, not_false_eq_true, not_true_eq_false, mx_u, mx_u2, mx_b0, mx_b1, Bool.not_eq_false, Bool.not_eq_true, Nat.le_refl, ne_eq, mG, mF, mGv, Int32.add_sub_cancel, spX1_thing, spX1_isIn, mArg]
  refine ⟨fun h => ?_, fun h => ⟨fun h2 => ?_, fun h2 => ?_⟩⟩
  · simp [mThingF, h]
  · simp [mThingF, h2]
  · obtain ⟨⟨h3, h4⟩, -⟩ := hpre
    have h5 : ¬ mTn σ = 12 := fun q => h2 (by rw [h3, q]; rfl)
    have h6 : vp_in (σ.1 0) 12 := by rw [h3]; exact (nI_i (n := 12) (by omega) (by omega)).1
    refine ⟨h6, h6, ?_⟩
    simp [mThingF, h, h2]
def mStockF (σ : mS) (x b : Int32) : Int32 × mS := if isInF x 0 (σ.1 0 - 1) = true ∧ ¬ b32 (hB (σ.1 7) x) = b then (1, (upd σ.1 7 (σ.1 7 ^^^ 1 <<< (x &&& 31)), σ.2)) else (0, σ)
def spX1_stock : mC := mG 2 false (fun _ _ => True) (fun σ xs => mStockF σ (mArg xs 0) (mArg xs 1))
set_option maxHeartbeats 8000000 in
set_option maxRecDepth 100000 in
theorem ctX1_stock : mCt hX1 1 20 vwC yX1_stock cX1_stock 3 (some .boolean) 2 spX1_stock := by
  refine mMeet (k := (kX1 [(66, spX1_isThing)])) (bl := 1) (own := RX1) (C := RX1) (T := TX1) (ty0 := tyX1) (by decide +kernel) rfl (tbX1 _) (mCal_cons (okX1_66 (by decide)) mCal_nil) (Or.inr (Or.inl ⟨rfl, rfl, rfl⟩)) (by decide) ?_
  intro σ xs hlen hpre X hX
  obtain ⟨a0, a1, rfl⟩ := mx_l2 xs hlen
  change X (0, [some (.ref 0), some (.int a0), some (.int a1)], [], σ)
  refine mWalk hX [] 60 ?_
  simp only [mRun, mCut, mAt, mSet, mArgs, mFind, mLdI, mLdA, mStI, mInc, mBin, mDiv, mJ1, mJ2, mN1, mN2, mGet, mPut, mLdE, mStE, mLdR, mKon, mDup, mDup2, mAft, mCaV, mCaS, mRetI, mRetV, fX1_7, fX1_13, fX1_16, fX1_19, fX1_22, fX1_26, fX1_29, fX1_32, fX1_35, fX1_38, fX1_41, fX1_44, fX1_47, fX1_50, fX1_53, fX1_60, fX1_63, fX1_73, fX1_105, fX1_108, oX1_94, cX1_c, nX1_0, vX1_0, nX1_1, vX1_1, nX1_2, vX1_2, nX1_3, vX1_3, nX1_4, vX1_4, nX1_5, vX1_5, nX1_6, vX1_6, nX1_7, vX1_7, vX1_8, vX1_9, vX1_10, vX1_11, vX1_12, vX1_13, vX1_14, vX1_15, vX1_16, vX1_17, nX1_18, vX1_18, nX1_19, vX1_19, lX1_1, aX1_1, lX1_2, aX1_2, lX1_3, aX1_3, lX1_4, aX1_4, lX1_5, aX1_5, lX1_6, aX1_6, lX1_7, aX1_7, lX1_8, aX1_8, lX1_9, aX1_9, lX1_10, aX1_10, gX1_n, vX1_stock_0, vX1_stock_1, vX1_stock_2, vX1_stock_5, vX1_stock_8, vX1_stock_9, vX1_stock_12, vX1_stock_13, vX1_stock_14, vX1_stock_15, vX1_stock_16, vX1_stock_17, vX1_stock_20, vX1_stock_21, vX1_stock_24, vX1_stock_25, vX1_stock_26, vX1_stock_29, vX1_stock_30, vX1_stock_31, vX1_stock_32, vX1_stock_33, vX1_stock_36, vX1_stock_37, vX1_stock_38, vX1_stock_39, vX1_stock_40, vX1_stock_43, vX1_stock_44, Nat.reduceAdd, Nat.reduceSub, Nat.reduceBEq, Nat.reduceEqDiff, Nat.reduceLeDiff, Int.reduceAdd, Int.reduceSub, Int.reduceNeg, Int.reduceToNat, Int.reduceLE, Int.reduceLT, Int.zero_add, Nat.zero_add, List.toList_toArray, Option.map_some, Bool.or_false, Bool.or_true, Bool.false_or, Bool.true_or, Bool.or_self, cond_false, cond_true, List.length_cons, List.length_nil, true_and, and_true, forall_eq, forall_eq_apply_imp_iff, and_imp, ite_true, ite_false, reduceIte, true_or, or_true, false_or, or_false, false_and, and_false, eq_self, List.drop_succ_cons, List.drop_zero, List.zip_cons_cons, List.zip_nil_right, List.all_cons, List.all_nil, false_implies, true_implies, Bool.true_eq_false, Bool.false_eq_true, not_false_eq_true, not_true_eq_false, mx_u, mx_u2, mx_b0, mx_b1, Bool.not_eq_false, Bool.not_eq_true, Nat.le_refl, ne_eq, mG, mF, mGv, Int32.add_sub_cancel, spX1_stock, spX1_isThing, mArg]
  refine ⟨fun h => ?_, fun h => ⟨fun h2 => ⟨fun h3 => ?_, fun h3 => ?_⟩, fun h2 => ⟨fun h3 => ?_, fun h3 => ?_⟩⟩⟩
  · simp [mStockF, h]
  · subst h3; simp [mStockF, hB, h2, b32]
  · simp [mStockF, h, hB, h2, h3, b32]
  · subst h3; simp [mStockF, hB, h2, b32]
  · simp [mStockF, h, hB, h2, h3, b32]
def mSetF (σ : mS) (w v : Int32) : Int32 × mS := if isInF w 0 3 = true ∧ isInF v 1 (if w = 0 then 4 else if w = 1 then 5 else 9) = true then (1, (upd σ.1 (if w = 0 then 3 else if w = 1 then 4 else if w = 2 then 5 else 6) v, σ.2)) else (0, σ)
def spX1_set : mC := mG 2 false (fun _ _ => True) (fun σ xs => mSetF σ (mArg xs 0) (mArg xs 1))
set_option maxHeartbeats 8000000 in
set_option maxRecDepth 100000 in
theorem ctX1_set : mCt hX1 1 20 vwC yX1_set cX1_set 3 (some .boolean) 1 spX1_set := by
  refine mMeet (k := (kX1 [(56, spX1_isIn)])) (bl := 1) (own := RX1) (C := RX1) (T := TX1) (ty0 := tyX1) (by decide +kernel) rfl (tbX1 _) (mCal_cons (okX1_56 (by decide)) mCal_nil) (Or.inr (Or.inl ⟨rfl, rfl, rfl⟩)) (by decide) ?_
  intro σ xs hlen hpre X hX
  obtain ⟨a0, a1, rfl⟩ := mx_l2 xs hlen
  change X (0, [some (.ref 0), some (.int a0), some (.int a1)], [], σ)
  refine mWalk hX [] 60 ?_
  simp only [mRun, mCut, mAt, mSet, mArgs, mFind, mLdI, mLdA, mStI, mInc, mBin, mDiv, mJ1, mJ2, mN1, mN2, mGet, mPut, mLdE, mStE, mLdR, mKon, mDup, mDup2, mAft, mCaV, mCaS, mRetI, mRetV, fX1_7, fX1_13, fX1_16, fX1_19, fX1_22, fX1_26, fX1_29, fX1_32, fX1_35, fX1_38, fX1_41, fX1_44, fX1_47, fX1_50, fX1_53, fX1_60, fX1_63, fX1_73, fX1_105, fX1_108, oX1_94, cX1_c, nX1_0, vX1_0, nX1_1, vX1_1, nX1_2, vX1_2, nX1_3, vX1_3, nX1_4, vX1_4, nX1_5, vX1_5, nX1_6, vX1_6, nX1_7, vX1_7, vX1_8, vX1_9, vX1_10, vX1_11, vX1_12, vX1_13, vX1_14, vX1_15, vX1_16, vX1_17, nX1_18, vX1_18, nX1_19, vX1_19, lX1_1, aX1_1, lX1_2, aX1_2, lX1_3, aX1_3, lX1_4, aX1_4, lX1_5, aX1_5, lX1_6, aX1_6, lX1_7, aX1_7, lX1_8, aX1_8, lX1_9, aX1_9, lX1_10, aX1_10, gX1_n, vX1_set_0, vX1_set_1, vX1_set_2, vX1_set_3, vX1_set_6, vX1_set_9, vX1_set_10, vX1_set_11, vX1_set_12, vX1_set_15, vX1_set_16, vX1_set_19, vX1_set_20, vX1_set_21, vX1_set_24, vX1_set_25, vX1_set_28, vX1_set_30, vX1_set_33, vX1_set_36, vX1_set_37, vX1_set_38, vX1_set_39, vX1_set_42, vX1_set_43, vX1_set_44, vX1_set_47, vX1_set_50, vX1_set_51, vX1_set_52, vX1_set_55, vX1_set_56, vX1_set_57, vX1_set_60, vX1_set_63, vX1_set_64, vX1_set_65, vX1_set_68, vX1_set_69, vX1_set_70, vX1_set_73, vX1_set_76, vX1_set_77, vX1_set_78, vX1_set_81, vX1_set_82, Nat.reduceAdd, Nat.reduceSub, Nat.reduceBEq, Nat.reduceEqDiff, Nat.reduceLeDiff, Int.reduceAdd, Int.reduceSub, Int.reduceNeg, Int.reduceToNat, Int.reduceLE, Int.reduceLT, Int.zero_add, Nat.zero_add, List.toList_toArray, Option.map_some, Bool.or_false, Bool.or_true, Bool.false_or, Bool.true_or, Bool.or_self, cond_false, cond_true, List.length_cons, List.length_nil, true_and, and_true, forall_eq, forall_eq_apply_imp_iff, and_imp, ite_true, ite_false, reduceIte, true_or, or_true, false_or, or_false, false_and, and_false, eq_self, List.drop_succ_cons, List.drop_zero, List.zip_cons_cons, List.zip_nil_right, List.all_cons, List.all_nil, false_implies, true_implies, Bool.true_eq_false, Bool.false_eq_true, not_false_eq_true, not_true_eq_false, mx_u, mx_u2, mx_b0, mx_b1, Bool.not_eq_false, Bool.not_eq_true, Nat.le_refl, ne_eq, mG, mF, mGv, Int32.add_sub_cancel, spX1_set, spX1_isIn, mArg]
  by_cases q : isInF a0 0 3 = true
  · by_cases w0 : a0 = 0
    · subst w0
      by_cases z : isInF a1 1 4 = true <;> simp [mSetF, q, z]
    · by_cases w1 : a0 = 1
      · subst w1
        by_cases z : isInF a1 1 5 = true <;> simp [mSetF, q, z]
      · by_cases w2 : a0 = 2
        · subst w2
          by_cases z : isInF a1 1 9 = true <;> simp [mSetF, q, z]
        · by_cases z : isInF a1 1 9 = true <;> simp [mSetF, q, z, w0, w1, w2]
  · simp [mSetF, q]
def mApartF (σ : mS) (a b i : Int32) : Int32 × mS := if isInF a 0 (σ.1 0 - 1) = true ∧ isInF b 0 (σ.1 0 - 1) = true ∧ ¬ a = b ∧ ¬ b32 (hB (σ.2 3 a.toNatClampNeg) b) = i then (1, (σ.1, up2 (up2 σ.2 3 a.toNatClampNeg (σ.2 3 a.toNatClampNeg ^^^ 1 <<< (b &&& 31))) 3 b.toNatClampNeg (σ.2 3 b.toNatClampNeg ^^^ 1 <<< (a &&& 31)))) else (0, σ)
def spX1_apart : mC := mG 3 false (fun σ _ => mOk σ) (fun σ xs => mApartF σ (mArg xs 0) (mArg xs 1) (mArg xs 2))
set_option maxHeartbeats 8000000 in
set_option maxRecDepth 100000 in
theorem ctX1_apart : mCt hX1 1 20 vwC yX1_apart cX1_apart 4 (some .boolean) 2 spX1_apart := by
  refine mMeet (k := (kX1 [(66, spX1_isThing)])) (bl := 1) (own := RX1) (C := RX1) (T := TX1) (ty0 := tyX1) (by decide +kernel) rfl (tbX1 _) (mCal_cons (okX1_66 (by decide)) mCal_nil) (Or.inr (Or.inl ⟨rfl, rfl, rfl⟩)) (by decide) ?_
  intro σ xs hlen hpre X hX
  obtain ⟨a0, a1, a2, rfl⟩ := mx_l3 xs hlen
  change X (0, [some (.ref 0), some (.int a0), some (.int a1), some (.int a2)], [], σ)
  have hpre : mOk σ := hpre
  refine mWalk hX [] 60 ?_
  simp only [mRun, mCut, mAt, mSet, mArgs, mFind, mLdI, mLdA, mStI, mInc, mBin, mDiv, mJ1, mJ2, mN1, mN2, mGet, mPut, mLdE, mStE, mLdR, mKon, mDup, mDup2, mAft, mCaV, mCaS, mRetI, mRetV, fX1_7, fX1_13, fX1_16, fX1_19, fX1_22, fX1_26, fX1_29, fX1_32, fX1_35, fX1_38, fX1_41, fX1_44, fX1_47, fX1_50, fX1_53, fX1_60, fX1_63, fX1_73, fX1_105, fX1_108, oX1_94, cX1_c, nX1_0, vX1_0, nX1_1, vX1_1, nX1_2, vX1_2, nX1_3, vX1_3, nX1_4, vX1_4, nX1_5, vX1_5, nX1_6, vX1_6, nX1_7, vX1_7, vX1_8, vX1_9, vX1_10, vX1_11, vX1_12, vX1_13, vX1_14, vX1_15, vX1_16, vX1_17, nX1_18, vX1_18, nX1_19, vX1_19, lX1_1, aX1_1, lX1_2, aX1_2, lX1_3, aX1_3, lX1_4, aX1_4, lX1_5, aX1_5, lX1_6, aX1_6, lX1_7, aX1_7, lX1_8, aX1_8, lX1_9, aX1_9, lX1_10, aX1_10, gX1_n, vX1_apart_0, vX1_apart_1, vX1_apart_2, vX1_apart_5, vX1_apart_8, vX1_apart_9, vX1_apart_10, vX1_apart_13, vX1_apart_16, vX1_apart_17, vX1_apart_18, vX1_apart_21, vX1_apart_22, vX1_apart_25, vX1_apart_26, vX1_apart_27, vX1_apart_28, vX1_apart_29, vX1_apart_30, vX1_apart_31, vX1_apart_32, vX1_apart_35, vX1_apart_36, vX1_apart_39, vX1_apart_40, vX1_apart_41, vX1_apart_44, vX1_apart_45, vX1_apart_46, vX1_apart_47, vX1_apart_50, vX1_apart_51, vX1_apart_52, vX1_apart_53, vX1_apart_54, vX1_apart_55, vX1_apart_56, vX1_apart_57, vX1_apart_58, vX1_apart_59, vX1_apart_62, vX1_apart_63, vX1_apart_64, vX1_apart_65, vX1_apart_66, vX1_apart_67, vX1_apart_68, vX1_apart_69, vX1_apart_70, vX1_apart_71, Nat.reduceAdd, Nat.reduceSub, Nat.reduceBEq, Nat.reduceEqDiff, Nat.reduceLeDiff, Int.reduceAdd, Int.reduceSub, Int.reduceNeg, Int.reduceToNat, Int.reduceLE, Int.reduceLT, Int.zero_add, Nat.zero_add, List.toList_toArray, Option.map_some, Bool.or_false, Bool.or_true, Bool.false_or, Bool.true_or, Bool.or_self, cond_false, cond_true, List.length_cons, List.length_nil, true_and, and_true, forall_eq, forall_eq_apply_imp_iff, and_imp, ite_true, ite_false, reduceIte, true_or, or_true, false_or, or_false, false_and, and_false, eq_self, List.drop_succ_cons, List.drop_zero, List.zip_cons_cons, List.zip_nil_right, List.all_cons, List.all_nil, false_implies, true_implies, Bool.true_eq_false, Bool.false_eq_true, not_false_eq_true, not_true_eq_false, mx_u, mx_u2, mx_b0, mx_b1, Bool.not_eq_false, Bool.not_eq_true, Nat.le_refl, ne_eq, mG, mF, mGv, Int32.add_sub_cancel, spX1_apart, spX1_isThing, mArg]
  refine ⟨fun h => by simp [mApartF, h], fun h => ⟨fun h2 => by simp [mApartF, h2], fun h2 => ⟨fun h3 => by simp [mApartF, h3], fun h3 => ?_⟩⟩⟩
  obtain ⟨j, hj, e1, v1, t1⟩ := mThing_ix hpre h
  obtain ⟨i, hi, e2, v2, t2⟩ := mThing_ix hpre h2
  have ne : ¬ a1.toNatClampNeg = a0.toNatClampNeg := by
    rw [t1, t2]
    intro q
    exact h3 (by rw [e1, e2, q])
  refine ⟨v1, fun h4 => ⟨fun h5 => ?_, fun h5 => ⟨v1, v1, v2, v2, ?_⟩⟩, fun h4 => ⟨fun h5 => ?_, fun h5 => ⟨v1, v1, v2, v2, ?_⟩⟩⟩
  · subst h5; simp [mApartF, hB, h4, b32]
  · simp [mApartF, h, h2, h3, hB, h4, b32, h5, ne]
  · subst h5; simp [mApartF, hB, h4, b32]
  · simp [mApartF, h, h2, h3, hB, h4, b32, h5, ne]
end
section
def spX1_both : mC := mF 2 false (fun σ _ => mOk σ) (fun σ xs => bothF (σ.2 6) (mBn σ) (mArg xs 0) (mArg xs 1))
set_option maxHeartbeats 8000000 in
set_option maxRecDepth 100000 in
theorem ctX1_both : mCt hX1 1 20 vwC yX1_both cX1_both 5 (some .int) 0 spX1_both := by
  refine mMeet (k := (kX1 [])) (bl := 0) (own := RX1) (C := RX1) (T := TX1) (ty0 := tyX1) (by decide +kernel) rfl (tbX1 _) mCal_nil (Or.inl ⟨rfl, rfl, rfl⟩) (by decide) ?_
  intro σ xs hlen hpre X hX
  obtain ⟨a0, a1, rfl⟩ := mx_l2 xs hlen
  change X (0, [some (.ref 0), some (.int a0), some (.int a1), none, none], [], σ)
  obtain ⟨-, ⟨hb, hn⟩, -, -⟩ := hpre
  have key := mFor (X := X) (mBn σ) (fun i => (5, [some (.ref 0), some (.int a0), some (.int a1), some (.int (nI (cN (fun i => hB (σ.2 6 i) a0 && hB (σ.2 6 i) a1) i))), some (.int (nI i))], [], σ)) ?_ ?_ 0 (Nat.zero_le _)
  · refine mWalk hX [5] 40 ?_
    simp only [mRun, mCut, mAt, mSet, mArgs, mFind, mLdI, mLdA, mStI, mInc, mBin, mDiv, mJ1, mJ2, mN1, mN2, mGet, mPut, mLdE, mStE, mLdR, mKon, mDup, mDup2, mAft, mCaV, mCaS, mRetI, mRetV, fX1_7, fX1_13, fX1_16, fX1_19, fX1_22, fX1_26, fX1_29, fX1_32, fX1_35, fX1_38, fX1_41, fX1_44, fX1_47, fX1_50, fX1_53, fX1_60, fX1_63, fX1_73, fX1_105, fX1_108, oX1_94, cX1_c, nX1_0, vX1_0, nX1_1, vX1_1, nX1_2, vX1_2, nX1_3, vX1_3, nX1_4, vX1_4, nX1_5, vX1_5, nX1_6, vX1_6, nX1_7, vX1_7, vX1_8, vX1_9, vX1_10, vX1_11, vX1_12, vX1_13, vX1_14, vX1_15, vX1_16, vX1_17, nX1_18, vX1_18, nX1_19, vX1_19, lX1_1, aX1_1, lX1_2, aX1_2, lX1_3, aX1_3, lX1_4, aX1_4, lX1_5, aX1_5, lX1_6, aX1_6, lX1_7, aX1_7, lX1_8, aX1_8, lX1_9, aX1_9, lX1_10, aX1_10, gX1_n, vX1_both_0, vX1_both_1, vX1_both_2, vX1_both_3, vX1_both_5, vX1_both_7, vX1_both_8, vX1_both_11, vX1_both_14, vX1_both_15, vX1_both_16, vX1_both_19, vX1_both_21, vX1_both_22, vX1_both_23, vX1_both_24, vX1_both_25, vX1_both_26, vX1_both_27, vX1_both_30, vX1_both_31, vX1_both_34, vX1_both_36, vX1_both_37, vX1_both_38, vX1_both_39, vX1_both_40, vX1_both_41, vX1_both_42, vX1_both_45, vX1_both_46, vX1_both_49, vX1_both_50, vX1_both_51, vX1_both_52, vX1_both_55, vX1_both_58, vX1_both_59, Nat.reduceAdd, Nat.reduceSub, Nat.reduceBEq, Nat.reduceEqDiff, Nat.reduceLeDiff, Int.reduceAdd, Int.reduceSub, Int.reduceNeg, Int.reduceToNat, Int.reduceLE, Int.reduceLT, Int.zero_add, Nat.zero_add, List.toList_toArray, Option.map_some, Bool.or_false, Bool.or_true, Bool.false_or, Bool.true_or, Bool.or_self, cond_false, cond_true, List.length_cons, List.length_nil, true_and, and_true, forall_eq, forall_eq_apply_imp_iff, and_imp, ite_true, ite_false, reduceIte, true_or, or_true, false_or, or_false, false_and, and_false, eq_self, List.drop_succ_cons, List.drop_zero, List.zip_cons_cons, List.zip_nil_right, List.all_cons, List.all_nil, false_implies, true_implies, Bool.true_eq_false, Bool.false_eq_true, not_false_eq_true, not_true_eq_false, mx_u, mx_u2, mx_b0, mx_b1, Bool.not_eq_false, Bool.not_eq_true, Nat.le_refl, ne_eq, mG, mF, mGv, Int32.add_sub_cancel, spX1_both, mArg]
    exact key
  · refine mWalk hX [5] 40 ?_
    simp only [mRun, mCut, mAt, mSet, mArgs, mFind, mLdI, mLdA, mStI, mInc, mBin, mDiv, mJ1, mJ2, mN1, mN2, mGet, mPut, mLdE, mStE, mLdR, mKon, mDup, mDup2, mAft, mCaV, mCaS, mRetI, mRetV, fX1_7, fX1_13, fX1_16, fX1_19, fX1_22, fX1_26, fX1_29, fX1_32, fX1_35, fX1_38, fX1_41, fX1_44, fX1_47, fX1_50, fX1_53, fX1_60, fX1_63, fX1_73, fX1_105, fX1_108, oX1_94, cX1_c, nX1_0, vX1_0, nX1_1, vX1_1, nX1_2, vX1_2, nX1_3, vX1_3, nX1_4, vX1_4, nX1_5, vX1_5, nX1_6, vX1_6, nX1_7, vX1_7, vX1_8, vX1_9, vX1_10, vX1_11, vX1_12, vX1_13, vX1_14, vX1_15, vX1_16, vX1_17, nX1_18, vX1_18, nX1_19, vX1_19, lX1_1, aX1_1, lX1_2, aX1_2, lX1_3, aX1_3, lX1_4, aX1_4, lX1_5, aX1_5, lX1_6, aX1_6, lX1_7, aX1_7, lX1_8, aX1_8, lX1_9, aX1_9, lX1_10, aX1_10, gX1_n, vX1_both_0, vX1_both_1, vX1_both_2, vX1_both_3, vX1_both_5, vX1_both_7, vX1_both_8, vX1_both_11, vX1_both_14, vX1_both_15, vX1_both_16, vX1_both_19, vX1_both_21, vX1_both_22, vX1_both_23, vX1_both_24, vX1_both_25, vX1_both_26, vX1_both_27, vX1_both_30, vX1_both_31, vX1_both_34, vX1_both_36, vX1_both_37, vX1_both_38, vX1_both_39, vX1_both_40, vX1_both_41, vX1_both_42, vX1_both_45, vX1_both_46, vX1_both_49, vX1_both_50, vX1_both_51, vX1_both_52, vX1_both_55, vX1_both_58, vX1_both_59, Nat.reduceAdd, Nat.reduceSub, Nat.reduceBEq, Nat.reduceEqDiff, Nat.reduceLeDiff, Int.reduceAdd, Int.reduceSub, Int.reduceNeg, Int.reduceToNat, Int.reduceLE, Int.reduceLT, Int.zero_add, Nat.zero_add, List.toList_toArray, Option.map_some, Bool.or_false, Bool.or_true, Bool.false_or, Bool.true_or, Bool.or_self, cond_false, cond_true, List.length_cons, List.length_nil, true_and, and_true, forall_eq, forall_eq_apply_imp_iff, and_imp, ite_true, ite_false, reduceIte, true_or, or_true, false_or, or_false, false_and, and_false, eq_self, List.drop_succ_cons, List.drop_zero, List.zip_cons_cons, List.zip_nil_right, List.all_cons, List.all_nil, false_implies, true_implies, Bool.true_eq_false, Bool.false_eq_true, not_false_eq_true, not_true_eq_false, mx_u, mx_u2, mx_b0, mx_b1, Bool.not_eq_false, Bool.not_eq_true, Nat.le_refl, ne_eq, mG, mF, mGv, Int32.add_sub_cancel, spX1_both, mArg, hb, Int32.le_refl]
    rfl
  · intro i hi ih
    have c1 : ¬ nI (mBn σ) ≤ nI i := nI_ge hi (by omega)
    have v1 : vp_in (nI i) 60 := vp_in_nI (by omega) (by omega)
    have e1 : (nI i).toNatClampNeg = i := nI_clamp (by omega)
    refine mWalk hX [5] 40 ?_
    simp only [mRun, mCut, mAt, mSet, mArgs, mFind, mLdI, mLdA, mStI, mInc, mBin, mDiv, mJ1, mJ2, mN1, mN2, mGet, mPut, mLdE, mStE, mLdR, mKon, mDup, mDup2, mAft, mCaV, mCaS, mRetI, mRetV, fX1_7, fX1_13, fX1_16, fX1_19, fX1_22, fX1_26, fX1_29, fX1_32, fX1_35, fX1_38, fX1_41, fX1_44, fX1_47, fX1_50, fX1_53, fX1_60, fX1_63, fX1_73, fX1_105, fX1_108, oX1_94, cX1_c, nX1_0, vX1_0, nX1_1, vX1_1, nX1_2, vX1_2, nX1_3, vX1_3, nX1_4, vX1_4, nX1_5, vX1_5, nX1_6, vX1_6, nX1_7, vX1_7, vX1_8, vX1_9, vX1_10, vX1_11, vX1_12, vX1_13, vX1_14, vX1_15, vX1_16, vX1_17, nX1_18, vX1_18, nX1_19, vX1_19, lX1_1, aX1_1, lX1_2, aX1_2, lX1_3, aX1_3, lX1_4, aX1_4, lX1_5, aX1_5, lX1_6, aX1_6, lX1_7, aX1_7, lX1_8, aX1_8, lX1_9, aX1_9, lX1_10, aX1_10, gX1_n, vX1_both_0, vX1_both_1, vX1_both_2, vX1_both_3, vX1_both_5, vX1_both_7, vX1_both_8, vX1_both_11, vX1_both_14, vX1_both_15, vX1_both_16, vX1_both_19, vX1_both_21, vX1_both_22, vX1_both_23, vX1_both_24, vX1_both_25, vX1_both_26, vX1_both_27, vX1_both_30, vX1_both_31, vX1_both_34, vX1_both_36, vX1_both_37, vX1_both_38, vX1_both_39, vX1_both_40, vX1_both_41, vX1_both_42, vX1_both_45, vX1_both_46, vX1_both_49, vX1_both_50, vX1_both_51, vX1_both_52, vX1_both_55, vX1_both_58, vX1_both_59, Nat.reduceAdd, Nat.reduceSub, Nat.reduceBEq, Nat.reduceEqDiff, Nat.reduceLeDiff, Int.reduceAdd, Int.reduceSub, Int.reduceNeg, Int.reduceToNat, Int.reduceLE, Int.reduceLT, Int.zero_add, Nat.zero_add, List.toList_toArray, Option.map_some, Bool.or_false, Bool.or_true, Bool.false_or, Bool.true_or, Bool.or_self, cond_false, cond_true, List.length_cons, List.length_nil, true_and, and_true, forall_eq, forall_eq_apply_imp_iff, and_imp, ite_true, ite_false, reduceIte, true_or, or_true, false_or, or_false, false_and, and_false, eq_self, List.drop_succ_cons, List.drop_zero, List.zip_cons_cons, List.zip_nil_right, List.all_cons, List.all_nil, false_implies, true_implies, Bool.true_eq_false, Bool.false_eq_true, not_false_eq_true, not_true_eq_false, mx_u, mx_u2, mx_b0, mx_b1, Bool.not_eq_false, Bool.not_eq_true, Nat.le_refl, ne_eq, mG, mF, mGv, Int32.add_sub_cancel, spX1_both, mArg, hb, c1, v1, e1, nI_1, Int32.add_zero]
    refine ⟨fun h1 => ⟨fun h2 => ?_, fun h2 => ?_⟩, fun h1 => ?_⟩
    · simpa [cN, hB, h1, h2] using ih
    · simpa [cN, hB, h1, h2] using ih
    · simpa [cN, hB, h1] using ih
set_option maxRecDepth 100000 in
theorem okX1_84 {d : Nat} (hd : 0 + 1 ≤ d) : mOK hX1 1 20 vwC RX1 RX1 d 84 spX1_both := ⟨yX1_both, cX1_both, 5, (some .int), 0, ctX1_both, hd, by decide, by decide +kernel, by decide +kernel, by decide +kernel, by decide +kernel, fun h => (by cases h), fun _ => ⟨by decide +kernel, by decide +kernel⟩⟩
def spX1_people : mC := mF 2 false (fun σ _ => mOk σ) (fun σ xs => peopF (σ.2 6) (σ.2 4) (mBn σ) (mArg xs 0) (mArg xs 1))
set_option maxHeartbeats 8000000 in
set_option maxRecDepth 100000 in
theorem ctX1_people : mCt hX1 1 20 vwC yX1_people cX1_people 7 (some .int) 0 spX1_people := by
  refine mMeet (k := (kX1 [])) (bl := 0) (own := RX1) (C := RX1) (T := TX1) (ty0 := tyX1) (by decide +kernel) rfl (tbX1 _) mCal_nil (Or.inl ⟨rfl, rfl, rfl⟩) (by decide) ?_
  intro σ xs hlen hpre X hX
  obtain ⟨a0, a1, rfl⟩ := mx_l2 xs hlen
  change X (0, [some (.ref 0), some (.int a0), some (.int a1), none, none, none, none], [], σ)
  obtain ⟨-, ⟨hb, hn⟩, -, -⟩ := hpre
  have key := mFor (X := X) 8 (fun p => (5, [some (.ref 0), some (.int a0), some (.int a1), some (.int (nI (cN (fun p => anyN (fun i => decide (σ.2 4 i = nI p) && (hB (σ.2 6 i) a0 && hB (σ.2 6 i) a1)) (mBn σ)) p))), some (.int (nI p)), none, none], [], σ)) ?_ ?_ 0 (Nat.zero_le _)
  · refine mWalk hX [5] 40 ?_
    simp only [mRun, mCut, mAt, mSet, mArgs, mFind, mLdI, mLdA, mStI, mInc, mBin, mDiv, mJ1, mJ2, mN1, mN2, mGet, mPut, mLdE, mStE, mLdR, mKon, mDup, mDup2, mAft, mCaV, mCaS, mRetI, mRetV, fX1_7, fX1_13, fX1_16, fX1_19, fX1_22, fX1_26, fX1_29, fX1_32, fX1_35, fX1_38, fX1_41, fX1_44, fX1_47, fX1_50, fX1_53, fX1_60, fX1_63, fX1_73, fX1_105, fX1_108, oX1_94, cX1_c, nX1_0, vX1_0, nX1_1, vX1_1, nX1_2, vX1_2, nX1_3, vX1_3, nX1_4, vX1_4, nX1_5, vX1_5, nX1_6, vX1_6, nX1_7, vX1_7, vX1_8, vX1_9, vX1_10, vX1_11, vX1_12, vX1_13, vX1_14, vX1_15, vX1_16, vX1_17, nX1_18, vX1_18, nX1_19, vX1_19, lX1_1, aX1_1, lX1_2, aX1_2, lX1_3, aX1_3, lX1_4, aX1_4, lX1_5, aX1_5, lX1_6, aX1_6, lX1_7, aX1_7, lX1_8, aX1_8, lX1_9, aX1_9, lX1_10, aX1_10, gX1_n, vX1_people_0, vX1_people_1, vX1_people_2, vX1_people_3, vX1_people_5, vX1_people_7, vX1_people_9, vX1_people_12, vX1_people_13, vX1_people_15, vX1_people_16, vX1_people_18, vX1_people_20, vX1_people_21, vX1_people_24, vX1_people_27, vX1_people_29, vX1_people_32, vX1_people_33, vX1_people_36, vX1_people_38, vX1_people_39, vX1_people_41, vX1_people_44, vX1_people_45, vX1_people_48, vX1_people_50, vX1_people_51, vX1_people_52, vX1_people_53, vX1_people_54, vX1_people_55, vX1_people_56, vX1_people_59, vX1_people_60, vX1_people_63, vX1_people_65, vX1_people_66, vX1_people_67, vX1_people_68, vX1_people_69, vX1_people_70, vX1_people_71, vX1_people_74, vX1_people_75, vX1_people_78, vX1_people_79, vX1_people_81, vX1_people_84, vX1_people_87, vX1_people_88, vX1_people_90, vX1_people_93, vX1_people_94, vX1_people_97, vX1_people_98, vX1_people_99, vX1_people_100, vX1_people_103, vX1_people_106, vX1_people_107, Nat.reduceAdd, Nat.reduceSub, Nat.reduceBEq, Nat.reduceEqDiff, Nat.reduceLeDiff, Int.reduceAdd, Int.reduceSub, Int.reduceNeg, Int.reduceToNat, Int.reduceLE, Int.reduceLT, Int.zero_add, Nat.zero_add, List.toList_toArray, Option.map_some, Bool.or_false, Bool.or_true, Bool.false_or, Bool.true_or, Bool.or_self, cond_false, cond_true, List.length_cons, List.length_nil, true_and, and_true, forall_eq, forall_eq_apply_imp_iff, and_imp, ite_true, ite_false, reduceIte, true_or, or_true, false_or, or_false, false_and, and_false, eq_self, List.drop_succ_cons, List.drop_zero, List.zip_cons_cons, List.zip_nil_right, List.all_cons, List.all_nil, false_implies, true_implies, Bool.true_eq_false, Bool.false_eq_true, not_false_eq_true, not_true_eq_false, mx_u, mx_u2, mx_b0, mx_b1, Bool.not_eq_false, Bool.not_eq_true, Nat.le_refl, ne_eq, mG, mF, mGv, Int32.add_sub_cancel, spX1_people, mArg]
    exact key
  · refine mWalk hX [5] 40 ?_
    have c1 : (8 : Int32) ≤ nI 8 := by decide +kernel
    simp only [mRun, mCut, mAt, mSet, mArgs, mFind, mLdI, mLdA, mStI, mInc, mBin, mDiv, mJ1, mJ2, mN1, mN2, mGet, mPut, mLdE, mStE, mLdR, mKon, mDup, mDup2, mAft, mCaV, mCaS, mRetI, mRetV, fX1_7, fX1_13, fX1_16, fX1_19, fX1_22, fX1_26, fX1_29, fX1_32, fX1_35, fX1_38, fX1_41, fX1_44, fX1_47, fX1_50, fX1_53, fX1_60, fX1_63, fX1_73, fX1_105, fX1_108, oX1_94, cX1_c, nX1_0, vX1_0, nX1_1, vX1_1, nX1_2, vX1_2, nX1_3, vX1_3, nX1_4, vX1_4, nX1_5, vX1_5, nX1_6, vX1_6, nX1_7, vX1_7, vX1_8, vX1_9, vX1_10, vX1_11, vX1_12, vX1_13, vX1_14, vX1_15, vX1_16, vX1_17, nX1_18, vX1_18, nX1_19, vX1_19, lX1_1, aX1_1, lX1_2, aX1_2, lX1_3, aX1_3, lX1_4, aX1_4, lX1_5, aX1_5, lX1_6, aX1_6, lX1_7, aX1_7, lX1_8, aX1_8, lX1_9, aX1_9, lX1_10, aX1_10, gX1_n, vX1_people_0, vX1_people_1, vX1_people_2, vX1_people_3, vX1_people_5, vX1_people_7, vX1_people_9, vX1_people_12, vX1_people_13, vX1_people_15, vX1_people_16, vX1_people_18, vX1_people_20, vX1_people_21, vX1_people_24, vX1_people_27, vX1_people_29, vX1_people_32, vX1_people_33, vX1_people_36, vX1_people_38, vX1_people_39, vX1_people_41, vX1_people_44, vX1_people_45, vX1_people_48, vX1_people_50, vX1_people_51, vX1_people_52, vX1_people_53, vX1_people_54, vX1_people_55, vX1_people_56, vX1_people_59, vX1_people_60, vX1_people_63, vX1_people_65, vX1_people_66, vX1_people_67, vX1_people_68, vX1_people_69, vX1_people_70, vX1_people_71, vX1_people_74, vX1_people_75, vX1_people_78, vX1_people_79, vX1_people_81, vX1_people_84, vX1_people_87, vX1_people_88, vX1_people_90, vX1_people_93, vX1_people_94, vX1_people_97, vX1_people_98, vX1_people_99, vX1_people_100, vX1_people_103, vX1_people_106, vX1_people_107, Nat.reduceAdd, Nat.reduceSub, Nat.reduceBEq, Nat.reduceEqDiff, Nat.reduceLeDiff, Int.reduceAdd, Int.reduceSub, Int.reduceNeg, Int.reduceToNat, Int.reduceLE, Int.reduceLT, Int.zero_add, Nat.zero_add, List.toList_toArray, Option.map_some, Bool.or_false, Bool.or_true, Bool.false_or, Bool.true_or, Bool.or_self, cond_false, cond_true, List.length_cons, List.length_nil, true_and, and_true, forall_eq, forall_eq_apply_imp_iff, and_imp, ite_true, ite_false, reduceIte, true_or, or_true, false_or, or_false, false_and, and_false, eq_self, List.drop_succ_cons, List.drop_zero, List.zip_cons_cons, List.zip_nil_right, List.all_cons, List.all_nil, false_implies, true_implies, Bool.true_eq_false, Bool.false_eq_true, not_false_eq_true, not_true_eq_false, mx_u, mx_u2, mx_b0, mx_b1, Bool.not_eq_false, Bool.not_eq_true, Nat.le_refl, ne_eq, mG, mF, mGv, Int32.add_sub_cancel, spX1_people, mArg, hb, c1]
    rfl
  · intro p hp ih
    have c0 : ¬ (8 : Int32) ≤ nI p := nI_ge (b := 8) hp (by omega)
    have inner := mFor (X := X) (mBn σ) (fun i => (18, [some (.ref 0), some (.int a0), some (.int a1), some (.int (nI (cN (fun p => anyN (fun i => decide (σ.2 4 i = nI p) && (hB (σ.2 6 i) a0 && hB (σ.2 6 i) a1)) (mBn σ)) p))), some (.int (nI p)), some (.int (b32 (anyN (fun i => decide (σ.2 4 i = nI p) && (hB (σ.2 6 i) a0 && hB (σ.2 6 i) a1)) i))), some (.int (nI i))], [], σ)) ?_ ?_ 0 (Nat.zero_le _)
    · refine mWalk hX [5, 18] 40 ?_
      simp only [mRun, mCut, mAt, mSet, mArgs, mFind, mLdI, mLdA, mStI, mInc, mBin, mDiv, mJ1, mJ2, mN1, mN2, mGet, mPut, mLdE, mStE, mLdR, mKon, mDup, mDup2, mAft, mCaV, mCaS, mRetI, mRetV, fX1_7, fX1_13, fX1_16, fX1_19, fX1_22, fX1_26, fX1_29, fX1_32, fX1_35, fX1_38, fX1_41, fX1_44, fX1_47, fX1_50, fX1_53, fX1_60, fX1_63, fX1_73, fX1_105, fX1_108, oX1_94, cX1_c, nX1_0, vX1_0, nX1_1, vX1_1, nX1_2, vX1_2, nX1_3, vX1_3, nX1_4, vX1_4, nX1_5, vX1_5, nX1_6, vX1_6, nX1_7, vX1_7, vX1_8, vX1_9, vX1_10, vX1_11, vX1_12, vX1_13, vX1_14, vX1_15, vX1_16, vX1_17, nX1_18, vX1_18, nX1_19, vX1_19, lX1_1, aX1_1, lX1_2, aX1_2, lX1_3, aX1_3, lX1_4, aX1_4, lX1_5, aX1_5, lX1_6, aX1_6, lX1_7, aX1_7, lX1_8, aX1_8, lX1_9, aX1_9, lX1_10, aX1_10, gX1_n, vX1_people_0, vX1_people_1, vX1_people_2, vX1_people_3, vX1_people_5, vX1_people_7, vX1_people_9, vX1_people_12, vX1_people_13, vX1_people_15, vX1_people_16, vX1_people_18, vX1_people_20, vX1_people_21, vX1_people_24, vX1_people_27, vX1_people_29, vX1_people_32, vX1_people_33, vX1_people_36, vX1_people_38, vX1_people_39, vX1_people_41, vX1_people_44, vX1_people_45, vX1_people_48, vX1_people_50, vX1_people_51, vX1_people_52, vX1_people_53, vX1_people_54, vX1_people_55, vX1_people_56, vX1_people_59, vX1_people_60, vX1_people_63, vX1_people_65, vX1_people_66, vX1_people_67, vX1_people_68, vX1_people_69, vX1_people_70, vX1_people_71, vX1_people_74, vX1_people_75, vX1_people_78, vX1_people_79, vX1_people_81, vX1_people_84, vX1_people_87, vX1_people_88, vX1_people_90, vX1_people_93, vX1_people_94, vX1_people_97, vX1_people_98, vX1_people_99, vX1_people_100, vX1_people_103, vX1_people_106, vX1_people_107, Nat.reduceAdd, Nat.reduceSub, Nat.reduceBEq, Nat.reduceEqDiff, Nat.reduceLeDiff, Int.reduceAdd, Int.reduceSub, Int.reduceNeg, Int.reduceToNat, Int.reduceLE, Int.reduceLT, Int.zero_add, Nat.zero_add, List.toList_toArray, Option.map_some, Bool.or_false, Bool.or_true, Bool.false_or, Bool.true_or, Bool.or_self, cond_false, cond_true, List.length_cons, List.length_nil, true_and, and_true, forall_eq, forall_eq_apply_imp_iff, and_imp, ite_true, ite_false, reduceIte, true_or, or_true, false_or, or_false, false_and, and_false, eq_self, List.drop_succ_cons, List.drop_zero, List.zip_cons_cons, List.zip_nil_right, List.all_cons, List.all_nil, false_implies, true_implies, Bool.true_eq_false, Bool.false_eq_true, not_false_eq_true, not_true_eq_false, mx_u, mx_u2, mx_b0, mx_b1, Bool.not_eq_false, Bool.not_eq_true, Nat.le_refl, ne_eq, mG, mF, mGv, Int32.add_sub_cancel, spX1_people, mArg, hb, c0]
      exact inner
    · refine mWalk hX [5, 18] 40 ?_
      simp only [mRun, mCut, mAt, mSet, mArgs, mFind, mLdI, mLdA, mStI, mInc, mBin, mDiv, mJ1, mJ2, mN1, mN2, mGet, mPut, mLdE, mStE, mLdR, mKon, mDup, mDup2, mAft, mCaV, mCaS, mRetI, mRetV, fX1_7, fX1_13, fX1_16, fX1_19, fX1_22, fX1_26, fX1_29, fX1_32, fX1_35, fX1_38, fX1_41, fX1_44, fX1_47, fX1_50, fX1_53, fX1_60, fX1_63, fX1_73, fX1_105, fX1_108, oX1_94, cX1_c, nX1_0, vX1_0, nX1_1, vX1_1, nX1_2, vX1_2, nX1_3, vX1_3, nX1_4, vX1_4, nX1_5, vX1_5, nX1_6, vX1_6, nX1_7, vX1_7, vX1_8, vX1_9, vX1_10, vX1_11, vX1_12, vX1_13, vX1_14, vX1_15, vX1_16, vX1_17, nX1_18, vX1_18, nX1_19, vX1_19, lX1_1, aX1_1, lX1_2, aX1_2, lX1_3, aX1_3, lX1_4, aX1_4, lX1_5, aX1_5, lX1_6, aX1_6, lX1_7, aX1_7, lX1_8, aX1_8, lX1_9, aX1_9, lX1_10, aX1_10, gX1_n, vX1_people_0, vX1_people_1, vX1_people_2, vX1_people_3, vX1_people_5, vX1_people_7, vX1_people_9, vX1_people_12, vX1_people_13, vX1_people_15, vX1_people_16, vX1_people_18, vX1_people_20, vX1_people_21, vX1_people_24, vX1_people_27, vX1_people_29, vX1_people_32, vX1_people_33, vX1_people_36, vX1_people_38, vX1_people_39, vX1_people_41, vX1_people_44, vX1_people_45, vX1_people_48, vX1_people_50, vX1_people_51, vX1_people_52, vX1_people_53, vX1_people_54, vX1_people_55, vX1_people_56, vX1_people_59, vX1_people_60, vX1_people_63, vX1_people_65, vX1_people_66, vX1_people_67, vX1_people_68, vX1_people_69, vX1_people_70, vX1_people_71, vX1_people_74, vX1_people_75, vX1_people_78, vX1_people_79, vX1_people_81, vX1_people_84, vX1_people_87, vX1_people_88, vX1_people_90, vX1_people_93, vX1_people_94, vX1_people_97, vX1_people_98, vX1_people_99, vX1_people_100, vX1_people_103, vX1_people_106, vX1_people_107, Nat.reduceAdd, Nat.reduceSub, Nat.reduceBEq, Nat.reduceEqDiff, Nat.reduceLeDiff, Int.reduceAdd, Int.reduceSub, Int.reduceNeg, Int.reduceToNat, Int.reduceLE, Int.reduceLT, Int.zero_add, Nat.zero_add, List.toList_toArray, Option.map_some, Bool.or_false, Bool.or_true, Bool.false_or, Bool.true_or, Bool.or_self, cond_false, cond_true, List.length_cons, List.length_nil, true_and, and_true, forall_eq, forall_eq_apply_imp_iff, and_imp, ite_true, ite_false, reduceIte, true_or, or_true, false_or, or_false, false_and, and_false, eq_self, List.drop_succ_cons, List.drop_zero, List.zip_cons_cons, List.zip_nil_right, List.all_cons, List.all_nil, false_implies, true_implies, Bool.true_eq_false, Bool.false_eq_true, not_false_eq_true, not_true_eq_false, mx_u, mx_u2, mx_b0, mx_b1, Bool.not_eq_false, Bool.not_eq_true, Nat.le_refl, ne_eq, mG, mF, mGv, Int32.add_sub_cancel, spX1_people, mArg, hb, Int32.le_refl, nI_1, Int32.add_zero]
      refine ⟨fun h1 => ?_, fun h1 => ?_⟩
      · refine hX.2 _ _ _ _ _ ?_ ih
        simp [mLe, cN, h1]
      · refine hX.2 _ _ _ _ _ ?_ ih
        simp [mLe, cN, h1]
    · intro i hi ih2
      have c1 : ¬ nI (mBn σ) ≤ nI i := nI_ge hi (by omega)
      have v1 : vp_in (nI i) 60 := vp_in_nI (by omega) (by omega)
      have e1 : (nI i).toNatClampNeg = i := nI_clamp (by omega)
      refine mWalk hX [5, 18] 40 ?_
      simp only [mRun, mCut, mAt, mSet, mArgs, mFind, mLdI, mLdA, mStI, mInc, mBin, mDiv, mJ1, mJ2, mN1, mN2, mGet, mPut, mLdE, mStE, mLdR, mKon, mDup, mDup2, mAft, mCaV, mCaS, mRetI, mRetV, fX1_7, fX1_13, fX1_16, fX1_19, fX1_22, fX1_26, fX1_29, fX1_32, fX1_35, fX1_38, fX1_41, fX1_44, fX1_47, fX1_50, fX1_53, fX1_60, fX1_63, fX1_73, fX1_105, fX1_108, oX1_94, cX1_c, nX1_0, vX1_0, nX1_1, vX1_1, nX1_2, vX1_2, nX1_3, vX1_3, nX1_4, vX1_4, nX1_5, vX1_5, nX1_6, vX1_6, nX1_7, vX1_7, vX1_8, vX1_9, vX1_10, vX1_11, vX1_12, vX1_13, vX1_14, vX1_15, vX1_16, vX1_17, nX1_18, vX1_18, nX1_19, vX1_19, lX1_1, aX1_1, lX1_2, aX1_2, lX1_3, aX1_3, lX1_4, aX1_4, lX1_5, aX1_5, lX1_6, aX1_6, lX1_7, aX1_7, lX1_8, aX1_8, lX1_9, aX1_9, lX1_10, aX1_10, gX1_n, vX1_people_0, vX1_people_1, vX1_people_2, vX1_people_3, vX1_people_5, vX1_people_7, vX1_people_9, vX1_people_12, vX1_people_13, vX1_people_15, vX1_people_16, vX1_people_18, vX1_people_20, vX1_people_21, vX1_people_24, vX1_people_27, vX1_people_29, vX1_people_32, vX1_people_33, vX1_people_36, vX1_people_38, vX1_people_39, vX1_people_41, vX1_people_44, vX1_people_45, vX1_people_48, vX1_people_50, vX1_people_51, vX1_people_52, vX1_people_53, vX1_people_54, vX1_people_55, vX1_people_56, vX1_people_59, vX1_people_60, vX1_people_63, vX1_people_65, vX1_people_66, vX1_people_67, vX1_people_68, vX1_people_69, vX1_people_70, vX1_people_71, vX1_people_74, vX1_people_75, vX1_people_78, vX1_people_79, vX1_people_81, vX1_people_84, vX1_people_87, vX1_people_88, vX1_people_90, vX1_people_93, vX1_people_94, vX1_people_97, vX1_people_98, vX1_people_99, vX1_people_100, vX1_people_103, vX1_people_106, vX1_people_107, Nat.reduceAdd, Nat.reduceSub, Nat.reduceBEq, Nat.reduceEqDiff, Nat.reduceLeDiff, Int.reduceAdd, Int.reduceSub, Int.reduceNeg, Int.reduceToNat, Int.reduceLE, Int.reduceLT, Int.zero_add, Nat.zero_add, List.toList_toArray, Option.map_some, Bool.or_false, Bool.or_true, Bool.false_or, Bool.true_or, Bool.or_self, cond_false, cond_true, List.length_cons, List.length_nil, true_and, and_true, forall_eq, forall_eq_apply_imp_iff, and_imp, ite_true, ite_false, reduceIte, true_or, or_true, false_or, or_false, false_and, and_false, eq_self, List.drop_succ_cons, List.drop_zero, List.zip_cons_cons, List.zip_nil_right, List.all_cons, List.all_nil, false_implies, true_implies, Bool.true_eq_false, Bool.false_eq_true, not_false_eq_true, not_true_eq_false, mx_u, mx_u2, mx_b0, mx_b1, Bool.not_eq_false, Bool.not_eq_true, Nat.le_refl, ne_eq, mG, mF, mGv, Int32.add_sub_cancel, spX1_people, mArg, hb, c1, v1, e1, nI_1, Int32.add_zero]
      refine ⟨fun h1 => ⟨fun h2 => ⟨fun h3 => ⟨fun h4 => ?_, fun h4 => ?_⟩, fun h3 => ?_⟩, fun h2 => ?_⟩, fun h1 => ?_⟩
      all_goals simp only [anyN, hB] at ih2 h1 ⊢
      all_goals simp_all [b32]
set_option maxRecDepth 100000 in
theorem okX1_88 {d : Nat} (hd : 0 + 1 ≤ d) : mOK hX1 1 20 vwC RX1 RX1 d 88 spX1_people := ⟨yX1_people, cX1_people, 7, (some .int), 0, ctX1_people, hd, by decide, by decide +kernel, by decide +kernel, by decide +kernel, by decide +kernel, fun h => (by cases h), fun _ => ⟨by decide +kernel, by decide +kernel⟩⟩
theorem cN_le (p : Nat → Bool) : ∀ n, cN p n ≤ n
  | 0 => Nat.le_refl 0
  | n + 1 => by
    have := cN_le p n
    unfold cN
    cases p n <;> simp <;> omega
theorem nI_mul0 {a b : Nat} (ha : a ≤ 60) (hb : b ≤ 60) : nI a * nI b = 0 ↔ nI a = 0 ∨ nI b = 0 := by
  have h : a * b ≤ 60 * 60 := Nat.mul_le_mul ha hb
  rw [pk_mul, show (0 : Int32) = nI 0 from rfl, nI_eq (by omega) (by omega), nI_eq (by omega) (by omega), nI_eq (by omega) (by omega), Nat.mul_eq_zero]
theorem both_mul0 {st : Nat → Int32} {n : Nat} (hn : n ≤ 60) (a b : Int32) : bothF st n a a * bothF st n b b = 0 ↔ bothF st n a a = 0 ∨ bothF st n b b = 0 :=
  nI_mul0 (Nat.le_trans (cN_le _ _) hn) (Nat.le_trans (cN_le _ _) hn)
def spX1_kinOf : mC := mF 2 false (fun σ _ => mOk σ) (fun σ xs => mKin σ (mArg xs 0) (mArg xs 1))
set_option maxHeartbeats 8000000 in
set_option maxRecDepth 100000 in
theorem ctX1_kinOf : mCt hX1 1 20 vwC yX1_kinOf cX1_kinOf 5 (some .int) 1 spX1_kinOf := by
  refine mMeet (k := (kX1 [(84, spX1_both), (88, spX1_people)])) (bl := 0) (own := RX1) (C := RX1) (T := TX1) (ty0 := tyX1) (by decide +kernel) rfl (tbX1 _) (mCal_cons (okX1_84 (by decide)) (mCal_cons (okX1_88 (by decide)) mCal_nil)) (Or.inl ⟨rfl, rfl, rfl⟩) (by decide) ?_
  intro σ xs hlen hpre X hX
  obtain ⟨a0, a1, rfl⟩ := mx_l2 xs hlen
  change X (0, [some (.ref 0), some (.int a0), some (.int a1), none, none], [], σ)
  have hpre : mOk σ := hpre
  refine mWalk hX [] 60 ?_
  simp only [mRun, mCut, mAt, mSet, mArgs, mFind, mLdI, mLdA, mStI, mInc, mBin, mDiv, mJ1, mJ2, mN1, mN2, mGet, mPut, mLdE, mStE, mLdR, mKon, mDup, mDup2, mAft, mCaV, mCaS, mRetI, mRetV, fX1_7, fX1_13, fX1_16, fX1_19, fX1_22, fX1_26, fX1_29, fX1_32, fX1_35, fX1_38, fX1_41, fX1_44, fX1_47, fX1_50, fX1_53, fX1_60, fX1_63, fX1_73, fX1_105, fX1_108, oX1_94, cX1_c, nX1_0, vX1_0, nX1_1, vX1_1, nX1_2, vX1_2, nX1_3, vX1_3, nX1_4, vX1_4, nX1_5, vX1_5, nX1_6, vX1_6, nX1_7, vX1_7, vX1_8, vX1_9, vX1_10, vX1_11, vX1_12, vX1_13, vX1_14, vX1_15, vX1_16, vX1_17, nX1_18, vX1_18, nX1_19, vX1_19, lX1_1, aX1_1, lX1_2, aX1_2, lX1_3, aX1_3, lX1_4, aX1_4, lX1_5, aX1_5, lX1_6, aX1_6, lX1_7, aX1_7, lX1_8, aX1_8, lX1_9, aX1_9, lX1_10, aX1_10, gX1_n, vX1_kinOf_0, vX1_kinOf_1, vX1_kinOf_2, vX1_kinOf_3, vX1_kinOf_6, vX1_kinOf_7, vX1_kinOf_8, vX1_kinOf_9, vX1_kinOf_10, vX1_kinOf_13, vX1_kinOf_15, vX1_kinOf_16, vX1_kinOf_19, vX1_kinOf_21, vX1_kinOf_24, vX1_kinOf_25, vX1_kinOf_26, vX1_kinOf_27, vX1_kinOf_30, vX1_kinOf_31, vX1_kinOf_34, vX1_kinOf_37, vX1_kinOf_38, vX1_kinOf_39, vX1_kinOf_42, vX1_kinOf_43, vX1_kinOf_44, vX1_kinOf_45, vX1_kinOf_48, vX1_kinOf_49, vX1_kinOf_50, vX1_kinOf_53, vX1_kinOf_54, vX1_kinOf_55, vX1_kinOf_57, vX1_kinOf_58, vX1_kinOf_59, vX1_kinOf_62, vX1_kinOf_63, Nat.reduceAdd, Nat.reduceSub, Nat.reduceBEq, Nat.reduceEqDiff, Nat.reduceLeDiff, Int.reduceAdd, Int.reduceSub, Int.reduceNeg, Int.reduceToNat, Int.reduceLE, Int.reduceLT, Int.zero_add, Nat.zero_add, List.toList_toArray, Option.map_some, Bool.or_false, Bool.or_true, Bool.false_or, Bool.true_or, Bool.or_self, cond_false, cond_true, List.length_cons, List.length_nil, true_and, and_true, forall_eq, forall_eq_apply_imp_iff, and_imp, ite_true, ite_false, reduceIte, true_or, or_true, false_or, or_false, false_and, and_false, eq_self, List.drop_succ_cons, List.drop_zero, List.zip_cons_cons, List.zip_nil_right, List.all_cons, List.all_nil, false_implies, true_implies, Bool.true_eq_false, Bool.false_eq_true, not_false_eq_true, not_true_eq_false, mx_u, mx_u2, mx_b0, mx_b1, Bool.not_eq_false, Bool.not_eq_true, Nat.le_refl, ne_eq, mG, mF, mGv, Int32.add_sub_cancel, spX1_kinOf, spX1_both, spX1_people, mArg, hpre]
  have hm := both_mul0 (st := σ.2 6) hpre.2.1.2 a0 a1
  refine ⟨fun h => by simp [mKin, kinF, h], fun h => ⟨fun h2 => by simp [mKin, kinF, h2], fun h2 => ⟨fun h3 => ?_, fun h3 => ?_⟩⟩⟩
  · refine ⟨fun q => (hm.mp q).elim h h2, ?_⟩
    have := Int32.not_lt.mpr h3
    simp [mKin, kinF, h, h2, this]
  · have := Int32.not_le.mp h3
    simp [mKin, kinF, this]
set_option maxRecDepth 100000 in
theorem okX1_91 {d : Nat} (hd : 1 + 1 ≤ d) : mOK hX1 1 20 vwC RX1 RX1 d 91 spX1_kinOf := ⟨yX1_kinOf, cX1_kinOf, 5, (some .int), 1, ctX1_kinOf, hd, by decide, by decide +kernel, by decide +kernel, by decide +kernel, by decide +kernel, fun h => (by cases h), fun _ => ⟨by decide +kernel, by decide +kernel⟩⟩
def spX1_takenBy : mC := mF 1 false (fun σ _ => mOk σ) (fun σ xs => mTak σ (mArg xs 0))
set_option maxHeartbeats 8000000 in
set_option maxRecDepth 100000 in
theorem ctX1_takenBy : mCt hX1 1 20 vwC yX1_takenBy cX1_takenBy 4 (some .int) 0 spX1_takenBy := by
  refine mMeet (k := (kX1 [])) (bl := 0) (own := RX1) (C := RX1) (T := TX1) (ty0 := tyX1) (by decide +kernel) rfl (tbX1 _) mCal_nil (Or.inl ⟨rfl, rfl, rfl⟩) (by decide) ?_
  intro σ xs hlen hpre X hX
  obtain ⟨a0, rfl⟩ := mx_l1 xs hlen
  change X (0, [some (.ref 0), some (.int a0), none, none], [], σ)
  obtain ⟨-, ⟨hb, hn⟩, -, -⟩ := hpre
  have key := mFor (X := X) (mBn σ) (fun i => (4, [some (.ref 0), some (.int a0), some (.int (takF (σ.2 6) (σ.2 4) i a0)), some (.int (nI i))], [], σ)) ?_ ?_ 0 (Nat.zero_le _)
  · refine mWalk hX [4] 40 ?_
    simp only [mRun, mCut, mAt, mSet, mArgs, mFind, mLdI, mLdA, mStI, mInc, mBin, mDiv, mJ1, mJ2, mN1, mN2, mGet, mPut, mLdE, mStE, mLdR, mKon, mDup, mDup2, mAft, mCaV, mCaS, mRetI, mRetV, fX1_7, fX1_13, fX1_16, fX1_19, fX1_22, fX1_26, fX1_29, fX1_32, fX1_35, fX1_38, fX1_41, fX1_44, fX1_47, fX1_50, fX1_53, fX1_60, fX1_63, fX1_73, fX1_105, fX1_108, oX1_94, cX1_c, nX1_0, vX1_0, nX1_1, vX1_1, nX1_2, vX1_2, nX1_3, vX1_3, nX1_4, vX1_4, nX1_5, vX1_5, nX1_6, vX1_6, nX1_7, vX1_7, vX1_8, vX1_9, vX1_10, vX1_11, vX1_12, vX1_13, vX1_14, vX1_15, vX1_16, vX1_17, nX1_18, vX1_18, nX1_19, vX1_19, lX1_1, aX1_1, lX1_2, aX1_2, lX1_3, aX1_3, lX1_4, aX1_4, lX1_5, aX1_5, lX1_6, aX1_6, lX1_7, aX1_7, lX1_8, aX1_8, lX1_9, aX1_9, lX1_10, aX1_10, gX1_n, vX1_takenBy_0, vX1_takenBy_1, vX1_takenBy_2, vX1_takenBy_3, vX1_takenBy_4, vX1_takenBy_5, vX1_takenBy_6, vX1_takenBy_9, vX1_takenBy_12, vX1_takenBy_13, vX1_takenBy_14, vX1_takenBy_17, vX1_takenBy_18, vX1_takenBy_19, vX1_takenBy_20, vX1_takenBy_23, vX1_takenBy_24, vX1_takenBy_27, vX1_takenBy_28, vX1_takenBy_29, vX1_takenBy_32, vX1_takenBy_33, vX1_takenBy_34, vX1_takenBy_35, vX1_takenBy_38, vX1_takenBy_41, vX1_takenBy_42, Nat.reduceAdd, Nat.reduceSub, Nat.reduceBEq, Nat.reduceEqDiff, Nat.reduceLeDiff, Int.reduceAdd, Int.reduceSub, Int.reduceNeg, Int.reduceToNat, Int.reduceLE, Int.reduceLT, Int.zero_add, Nat.zero_add, List.toList_toArray, Option.map_some, Bool.or_false, Bool.or_true, Bool.false_or, Bool.true_or, Bool.or_self, cond_false, cond_true, List.length_cons, List.length_nil, true_and, and_true, forall_eq, forall_eq_apply_imp_iff, and_imp, ite_true, ite_false, reduceIte, true_or, or_true, false_or, or_false, false_and, and_false, eq_self, List.drop_succ_cons, List.drop_zero, List.zip_cons_cons, List.zip_nil_right, List.all_cons, List.all_nil, false_implies, true_implies, Bool.true_eq_false, Bool.false_eq_true, not_false_eq_true, not_true_eq_false, mx_u, mx_u2, mx_b0, mx_b1, Bool.not_eq_false, Bool.not_eq_true, Nat.le_refl, ne_eq, mG, mF, mGv, Int32.add_sub_cancel, spX1_takenBy, mArg]
    exact key
  · refine mWalk hX [4] 40 ?_
    simp only [mRun, mCut, mAt, mSet, mArgs, mFind, mLdI, mLdA, mStI, mInc, mBin, mDiv, mJ1, mJ2, mN1, mN2, mGet, mPut, mLdE, mStE, mLdR, mKon, mDup, mDup2, mAft, mCaV, mCaS, mRetI, mRetV, fX1_7, fX1_13, fX1_16, fX1_19, fX1_22, fX1_26, fX1_29, fX1_32, fX1_35, fX1_38, fX1_41, fX1_44, fX1_47, fX1_50, fX1_53, fX1_60, fX1_63, fX1_73, fX1_105, fX1_108, oX1_94, cX1_c, nX1_0, vX1_0, nX1_1, vX1_1, nX1_2, vX1_2, nX1_3, vX1_3, nX1_4, vX1_4, nX1_5, vX1_5, nX1_6, vX1_6, nX1_7, vX1_7, vX1_8, vX1_9, vX1_10, vX1_11, vX1_12, vX1_13, vX1_14, vX1_15, vX1_16, vX1_17, nX1_18, vX1_18, nX1_19, vX1_19, lX1_1, aX1_1, lX1_2, aX1_2, lX1_3, aX1_3, lX1_4, aX1_4, lX1_5, aX1_5, lX1_6, aX1_6, lX1_7, aX1_7, lX1_8, aX1_8, lX1_9, aX1_9, lX1_10, aX1_10, gX1_n, vX1_takenBy_0, vX1_takenBy_1, vX1_takenBy_2, vX1_takenBy_3, vX1_takenBy_4, vX1_takenBy_5, vX1_takenBy_6, vX1_takenBy_9, vX1_takenBy_12, vX1_takenBy_13, vX1_takenBy_14, vX1_takenBy_17, vX1_takenBy_18, vX1_takenBy_19, vX1_takenBy_20, vX1_takenBy_23, vX1_takenBy_24, vX1_takenBy_27, vX1_takenBy_28, vX1_takenBy_29, vX1_takenBy_32, vX1_takenBy_33, vX1_takenBy_34, vX1_takenBy_35, vX1_takenBy_38, vX1_takenBy_41, vX1_takenBy_42, Nat.reduceAdd, Nat.reduceSub, Nat.reduceBEq, Nat.reduceEqDiff, Nat.reduceLeDiff, Int.reduceAdd, Int.reduceSub, Int.reduceNeg, Int.reduceToNat, Int.reduceLE, Int.reduceLT, Int.zero_add, Nat.zero_add, List.toList_toArray, Option.map_some, Bool.or_false, Bool.or_true, Bool.false_or, Bool.true_or, Bool.or_self, cond_false, cond_true, List.length_cons, List.length_nil, true_and, and_true, forall_eq, forall_eq_apply_imp_iff, and_imp, ite_true, ite_false, reduceIte, true_or, or_true, false_or, or_false, false_and, and_false, eq_self, List.drop_succ_cons, List.drop_zero, List.zip_cons_cons, List.zip_nil_right, List.all_cons, List.all_nil, false_implies, true_implies, Bool.true_eq_false, Bool.false_eq_true, not_false_eq_true, not_true_eq_false, mx_u, mx_u2, mx_b0, mx_b1, Bool.not_eq_false, Bool.not_eq_true, Nat.le_refl, ne_eq, mG, mF, mGv, Int32.add_sub_cancel, spX1_takenBy, mArg, hb, Int32.le_refl]
    rfl
  · intro i hi ih
    have c1 : ¬ nI (mBn σ) ≤ nI i := nI_ge hi (by omega)
    obtain ⟨v1, e1⟩ := nI_i (j := i) (n := 60) (by omega) (by omega)
    refine mWalk hX [4] 40 ?_
    simp only [mRun, mCut, mAt, mSet, mArgs, mFind, mLdI, mLdA, mStI, mInc, mBin, mDiv, mJ1, mJ2, mN1, mN2, mGet, mPut, mLdE, mStE, mLdR, mKon, mDup, mDup2, mAft, mCaV, mCaS, mRetI, mRetV, fX1_7, fX1_13, fX1_16, fX1_19, fX1_22, fX1_26, fX1_29, fX1_32, fX1_35, fX1_38, fX1_41, fX1_44, fX1_47, fX1_50, fX1_53, fX1_60, fX1_63, fX1_73, fX1_105, fX1_108, oX1_94, cX1_c, nX1_0, vX1_0, nX1_1, vX1_1, nX1_2, vX1_2, nX1_3, vX1_3, nX1_4, vX1_4, nX1_5, vX1_5, nX1_6, vX1_6, nX1_7, vX1_7, vX1_8, vX1_9, vX1_10, vX1_11, vX1_12, vX1_13, vX1_14, vX1_15, vX1_16, vX1_17, nX1_18, vX1_18, nX1_19, vX1_19, lX1_1, aX1_1, lX1_2, aX1_2, lX1_3, aX1_3, lX1_4, aX1_4, lX1_5, aX1_5, lX1_6, aX1_6, lX1_7, aX1_7, lX1_8, aX1_8, lX1_9, aX1_9, lX1_10, aX1_10, gX1_n, vX1_takenBy_0, vX1_takenBy_1, vX1_takenBy_2, vX1_takenBy_3, vX1_takenBy_4, vX1_takenBy_5, vX1_takenBy_6, vX1_takenBy_9, vX1_takenBy_12, vX1_takenBy_13, vX1_takenBy_14, vX1_takenBy_17, vX1_takenBy_18, vX1_takenBy_19, vX1_takenBy_20, vX1_takenBy_23, vX1_takenBy_24, vX1_takenBy_27, vX1_takenBy_28, vX1_takenBy_29, vX1_takenBy_32, vX1_takenBy_33, vX1_takenBy_34, vX1_takenBy_35, vX1_takenBy_38, vX1_takenBy_41, vX1_takenBy_42, Nat.reduceAdd, Nat.reduceSub, Nat.reduceBEq, Nat.reduceEqDiff, Nat.reduceLeDiff, Int.reduceAdd, Int.reduceSub, Int.reduceNeg, Int.reduceToNat, Int.reduceLE, Int.reduceLT, Int.zero_add, Nat.zero_add, List.toList_toArray, Option.map_some, Bool.or_false, Bool.or_true, Bool.false_or, Bool.true_or, Bool.or_self, cond_false, cond_true, List.length_cons, List.length_nil, true_and, and_true, forall_eq, forall_eq_apply_imp_iff, and_imp, ite_true, ite_false, reduceIte, true_or, or_true, false_or, or_false, false_and, and_false, eq_self, List.drop_succ_cons, List.drop_zero, List.zip_cons_cons, List.zip_nil_right, List.all_cons, List.all_nil, false_implies, true_implies, Bool.true_eq_false, Bool.false_eq_true, not_false_eq_true, not_true_eq_false, mx_u, mx_u2, mx_b0, mx_b1, Bool.not_eq_false, Bool.not_eq_true, Nat.le_refl, ne_eq, mG, mF, mGv, Int32.add_sub_cancel, spX1_takenBy, mArg, hb, c1, v1, e1, nI_1]
    refine ⟨fun h1 => ?_, fun h1 => ?_⟩
    · simpa [takF, orN, h1] using ih
    · simpa [takF, orN, h1] using ih
set_option maxRecDepth 100000 in
theorem okX1_95 {d : Nat} (hd : 0 + 1 ≤ d) : mOK hX1 1 20 vwC RX1 RX1 d 95 spX1_takenBy := ⟨yX1_takenBy, cX1_takenBy, 4, (some .int), 0, ctX1_takenBy, hd, by decide, by decide +kernel, by decide +kernel, by decide +kernel, by decide +kernel, fun h => (by cases h), fun _ => ⟨by decide +kernel, by decide +kernel⟩⟩
def spX1_scoreOf : mC := mF 2 false (fun σ _ => mOk σ) (fun σ xs => mSco σ (mArg xs 0) (mArg xs 1))
set_option maxHeartbeats 8000000 in
set_option maxRecDepth 100000 in
theorem ctX1_scoreOf : mCt hX1 1 20 vwC yX1_scoreOf cX1_scoreOf 6 (some .int) 2 spX1_scoreOf := by
  refine mMeet (k := (kX1 [(95, spX1_takenBy), (91, spX1_kinOf)])) (bl := 0) (own := RX1) (C := RX1) (T := TX1) (ty0 := tyX1) (by decide +kernel) rfl (tbX1 _) (mCal_cons (okX1_95 (by decide)) (mCal_cons (okX1_91 (by decide)) mCal_nil)) (Or.inl ⟨rfl, rfl, rfl⟩) (by decide) ?_
  intro σ xs hlen hpre X hX
  obtain ⟨a0, a1, rfl⟩ := mx_l2 xs hlen
  change X (0, [some (.ref 0), some (.int a0), some (.int a1), none, none, none], [], σ)
  have hpre : mOk σ := hpre
  obtain ⟨⟨ht, hn⟩, -, -, -⟩ := id hpre
  have key := mFor (X := X) (mTn σ) (fun i => (12, [some (.ref 0), some (.int a0), some (.int a1), some (.int (mTak σ a0)), some (.int (scoF (mKin σ) (mTak σ a0) i a1)), some (.int (nI i))], [], σ)) ?_ ?_ 0 (Nat.zero_le _)
  · refine mWalk hX [12] 40 ?_
    simp only [mRun, mCut, mAt, mSet, mArgs, mFind, mLdI, mLdA, mStI, mInc, mBin, mDiv, mJ1, mJ2, mN1, mN2, mGet, mPut, mLdE, mStE, mLdR, mKon, mDup, mDup2, mAft, mCaV, mCaS, mRetI, mRetV, fX1_7, fX1_13, fX1_16, fX1_19, fX1_22, fX1_26, fX1_29, fX1_32, fX1_35, fX1_38, fX1_41, fX1_44, fX1_47, fX1_50, fX1_53, fX1_60, fX1_63, fX1_73, fX1_105, fX1_108, oX1_94, cX1_c, nX1_0, vX1_0, nX1_1, vX1_1, nX1_2, vX1_2, nX1_3, vX1_3, nX1_4, vX1_4, nX1_5, vX1_5, nX1_6, vX1_6, nX1_7, vX1_7, vX1_8, vX1_9, vX1_10, vX1_11, vX1_12, vX1_13, vX1_14, vX1_15, vX1_16, vX1_17, nX1_18, vX1_18, nX1_19, vX1_19, lX1_1, aX1_1, lX1_2, aX1_2, lX1_3, aX1_3, lX1_4, aX1_4, lX1_5, aX1_5, lX1_6, aX1_6, lX1_7, aX1_7, lX1_8, aX1_8, lX1_9, aX1_9, lX1_10, aX1_10, gX1_n, vX1_scoreOf_0, vX1_scoreOf_1, vX1_scoreOf_2, vX1_scoreOf_5, vX1_scoreOf_6, vX1_scoreOf_7, vX1_scoreOf_9, vX1_scoreOf_10, vX1_scoreOf_12, vX1_scoreOf_14, vX1_scoreOf_15, vX1_scoreOf_18, vX1_scoreOf_21, vX1_scoreOf_23, vX1_scoreOf_25, vX1_scoreOf_26, vX1_scoreOf_29, vX1_scoreOf_30, vX1_scoreOf_32, vX1_scoreOf_33, vX1_scoreOf_34, vX1_scoreOf_35, vX1_scoreOf_36, vX1_scoreOf_39, vX1_scoreOf_40, vX1_scoreOf_41, vX1_scoreOf_43, vX1_scoreOf_46, vX1_scoreOf_49, vX1_scoreOf_50, vX1_scoreOf_51, vX1_scoreOf_53, vX1_scoreOf_56, vX1_scoreOf_59, vX1_scoreOf_61, Nat.reduceAdd, Nat.reduceSub, Nat.reduceBEq, Nat.reduceEqDiff, Nat.reduceLeDiff, Int.reduceAdd, Int.reduceSub, Int.reduceNeg, Int.reduceToNat, Int.reduceLE, Int.reduceLT, Int.zero_add, Nat.zero_add, List.toList_toArray, Option.map_some, Bool.or_false, Bool.or_true, Bool.false_or, Bool.true_or, Bool.or_self, cond_false, cond_true, List.length_cons, List.length_nil, true_and, and_true, forall_eq, forall_eq_apply_imp_iff, and_imp, ite_true, ite_false, reduceIte, true_or, or_true, false_or, or_false, false_and, and_false, eq_self, List.drop_succ_cons, List.drop_zero, List.zip_cons_cons, List.zip_nil_right, List.all_cons, List.all_nil, false_implies, true_implies, Bool.true_eq_false, Bool.false_eq_true, not_false_eq_true, not_true_eq_false, mx_u, mx_u2, mx_b0, mx_b1, Bool.not_eq_false, Bool.not_eq_true, Nat.le_refl, ne_eq, mG, mF, mGv, Int32.add_sub_cancel, spX1_scoreOf, spX1_takenBy, spX1_kinOf, mArg, hpre]
    exact key
  · refine mWalk hX [12] 40 ?_
    simp only [mRun, mCut, mAt, mSet, mArgs, mFind, mLdI, mLdA, mStI, mInc, mBin, mDiv, mJ1, mJ2, mN1, mN2, mGet, mPut, mLdE, mStE, mLdR, mKon, mDup, mDup2, mAft, mCaV, mCaS, mRetI, mRetV, fX1_7, fX1_13, fX1_16, fX1_19, fX1_22, fX1_26, fX1_29, fX1_32, fX1_35, fX1_38, fX1_41, fX1_44, fX1_47, fX1_50, fX1_53, fX1_60, fX1_63, fX1_73, fX1_105, fX1_108, oX1_94, cX1_c, nX1_0, vX1_0, nX1_1, vX1_1, nX1_2, vX1_2, nX1_3, vX1_3, nX1_4, vX1_4, nX1_5, vX1_5, nX1_6, vX1_6, nX1_7, vX1_7, vX1_8, vX1_9, vX1_10, vX1_11, vX1_12, vX1_13, vX1_14, vX1_15, vX1_16, vX1_17, nX1_18, vX1_18, nX1_19, vX1_19, lX1_1, aX1_1, lX1_2, aX1_2, lX1_3, aX1_3, lX1_4, aX1_4, lX1_5, aX1_5, lX1_6, aX1_6, lX1_7, aX1_7, lX1_8, aX1_8, lX1_9, aX1_9, lX1_10, aX1_10, gX1_n, vX1_scoreOf_0, vX1_scoreOf_1, vX1_scoreOf_2, vX1_scoreOf_5, vX1_scoreOf_6, vX1_scoreOf_7, vX1_scoreOf_9, vX1_scoreOf_10, vX1_scoreOf_12, vX1_scoreOf_14, vX1_scoreOf_15, vX1_scoreOf_18, vX1_scoreOf_21, vX1_scoreOf_23, vX1_scoreOf_25, vX1_scoreOf_26, vX1_scoreOf_29, vX1_scoreOf_30, vX1_scoreOf_32, vX1_scoreOf_33, vX1_scoreOf_34, vX1_scoreOf_35, vX1_scoreOf_36, vX1_scoreOf_39, vX1_scoreOf_40, vX1_scoreOf_41, vX1_scoreOf_43, vX1_scoreOf_46, vX1_scoreOf_49, vX1_scoreOf_50, vX1_scoreOf_51, vX1_scoreOf_53, vX1_scoreOf_56, vX1_scoreOf_59, vX1_scoreOf_61, Nat.reduceAdd, Nat.reduceSub, Nat.reduceBEq, Nat.reduceEqDiff, Nat.reduceLeDiff, Int.reduceAdd, Int.reduceSub, Int.reduceNeg, Int.reduceToNat, Int.reduceLE, Int.reduceLT, Int.zero_add, Nat.zero_add, List.toList_toArray, Option.map_some, Bool.or_false, Bool.or_true, Bool.false_or, Bool.true_or, Bool.or_self, cond_false, cond_true, List.length_cons, List.length_nil, true_and, and_true, forall_eq, forall_eq_apply_imp_iff, and_imp, ite_true, ite_false, reduceIte, true_or, or_true, false_or, or_false, false_and, and_false, eq_self, List.drop_succ_cons, List.drop_zero, List.zip_cons_cons, List.zip_nil_right, List.all_cons, List.all_nil, false_implies, true_implies, Bool.true_eq_false, Bool.false_eq_true, not_false_eq_true, not_true_eq_false, mx_u, mx_u2, mx_b0, mx_b1, Bool.not_eq_false, Bool.not_eq_true, Nat.le_refl, ne_eq, mG, mF, mGv, Int32.add_sub_cancel, spX1_scoreOf, spX1_takenBy, spX1_kinOf, mArg, ht, Int32.le_refl]
    rfl
  · intro i hi ih
    have c1 : ¬ nI (mTn σ) ≤ nI i := nI_ge hi (by omega)
    refine mWalk hX [12] 40 ?_
    simp only [mRun, mCut, mAt, mSet, mArgs, mFind, mLdI, mLdA, mStI, mInc, mBin, mDiv, mJ1, mJ2, mN1, mN2, mGet, mPut, mLdE, mStE, mLdR, mKon, mDup, mDup2, mAft, mCaV, mCaS, mRetI, mRetV, fX1_7, fX1_13, fX1_16, fX1_19, fX1_22, fX1_26, fX1_29, fX1_32, fX1_35, fX1_38, fX1_41, fX1_44, fX1_47, fX1_50, fX1_53, fX1_60, fX1_63, fX1_73, fX1_105, fX1_108, oX1_94, cX1_c, nX1_0, vX1_0, nX1_1, vX1_1, nX1_2, vX1_2, nX1_3, vX1_3, nX1_4, vX1_4, nX1_5, vX1_5, nX1_6, vX1_6, nX1_7, vX1_7, vX1_8, vX1_9, vX1_10, vX1_11, vX1_12, vX1_13, vX1_14, vX1_15, vX1_16, vX1_17, nX1_18, vX1_18, nX1_19, vX1_19, lX1_1, aX1_1, lX1_2, aX1_2, lX1_3, aX1_3, lX1_4, aX1_4, lX1_5, aX1_5, lX1_6, aX1_6, lX1_7, aX1_7, lX1_8, aX1_8, lX1_9, aX1_9, lX1_10, aX1_10, gX1_n, vX1_scoreOf_0, vX1_scoreOf_1, vX1_scoreOf_2, vX1_scoreOf_5, vX1_scoreOf_6, vX1_scoreOf_7, vX1_scoreOf_9, vX1_scoreOf_10, vX1_scoreOf_12, vX1_scoreOf_14, vX1_scoreOf_15, vX1_scoreOf_18, vX1_scoreOf_21, vX1_scoreOf_23, vX1_scoreOf_25, vX1_scoreOf_26, vX1_scoreOf_29, vX1_scoreOf_30, vX1_scoreOf_32, vX1_scoreOf_33, vX1_scoreOf_34, vX1_scoreOf_35, vX1_scoreOf_36, vX1_scoreOf_39, vX1_scoreOf_40, vX1_scoreOf_41, vX1_scoreOf_43, vX1_scoreOf_46, vX1_scoreOf_49, vX1_scoreOf_50, vX1_scoreOf_51, vX1_scoreOf_53, vX1_scoreOf_56, vX1_scoreOf_59, vX1_scoreOf_61, Nat.reduceAdd, Nat.reduceSub, Nat.reduceBEq, Nat.reduceEqDiff, Nat.reduceLeDiff, Int.reduceAdd, Int.reduceSub, Int.reduceNeg, Int.reduceToNat, Int.reduceLE, Int.reduceLT, Int.zero_add, Nat.zero_add, List.toList_toArray, Option.map_some, Bool.or_false, Bool.or_true, Bool.false_or, Bool.true_or, Bool.or_self, cond_false, cond_true, List.length_cons, List.length_nil, true_and, and_true, forall_eq, forall_eq_apply_imp_iff, and_imp, ite_true, ite_false, reduceIte, true_or, or_true, false_or, or_false, false_and, and_false, eq_self, List.drop_succ_cons, List.drop_zero, List.zip_cons_cons, List.zip_nil_right, List.all_cons, List.all_nil, false_implies, true_implies, Bool.true_eq_false, Bool.false_eq_true, not_false_eq_true, not_true_eq_false, mx_u, mx_u2, mx_b0, mx_b1, Bool.not_eq_false, Bool.not_eq_true, Nat.le_refl, ne_eq, mG, mF, mGv, Int32.add_sub_cancel, spX1_scoreOf, spX1_takenBy, spX1_kinOf, mArg, ht, c1, hpre, nI_1]
    refine ⟨fun h1 => ?_, fun h1 => ⟨fun h2 => ?_, fun h2 => ?_⟩⟩
    · simpa [scoF, smN, h1] using ih
    · simpa [scoF, smN, hB, h1, h2] using ih
    · simpa [scoF, smN, hB, h1, h2] using ih
set_option maxRecDepth 100000 in
theorem okX1_99 {d : Nat} (hd : 2 + 1 ≤ d) : mOK hX1 1 20 vwC RX1 RX1 d 99 spX1_scoreOf := ⟨yX1_scoreOf, cX1_scoreOf, 6, (some .int), 2, ctX1_scoreOf, hd, by decide, by decide +kernel, by decide +kernel, by decide +kernel, by decide +kernel, fun h => (by cases h), fun _ => ⟨by decide +kernel, by decide +kernel⟩⟩
def spX1_news : mC := mF 0 false (fun σ _ => mOk σ) (fun σ _ => mNew σ)
set_option maxHeartbeats 8000000 in
set_option maxRecDepth 100000 in
theorem ctX1_news : mCt hX1 1 20 vwC yX1_news cX1_news 3 (some .int) 0 spX1_news := by
  refine mMeet (k := (kX1 [])) (bl := 0) (own := RX1) (C := RX1) (T := TX1) (ty0 := tyX1) (by decide +kernel) rfl (tbX1 _) mCal_nil (Or.inl ⟨rfl, rfl, rfl⟩) (by decide) ?_
  intro σ xs hlen hpre X hX
  obtain rfl := mx_l0 xs hlen
  change X (0, [some (.ref 0), none, none], [], σ)
  obtain ⟨⟨ht, hn⟩, -, -, -⟩ := hpre
  have key := mFor (X := X) (mTn σ) (fun i => (4, [some (.ref 0), some (.int (newF (σ.2 2) (σ.1 1) i)), some (.int (nI i))], [], σ)) ?_ ?_ 0 (Nat.zero_le _)
  · refine mWalk hX [4] 40 ?_
    simp only [mRun, mCut, mAt, mSet, mArgs, mFind, mLdI, mLdA, mStI, mInc, mBin, mDiv, mJ1, mJ2, mN1, mN2, mGet, mPut, mLdE, mStE, mLdR, mKon, mDup, mDup2, mAft, mCaV, mCaS, mRetI, mRetV, fX1_7, fX1_13, fX1_16, fX1_19, fX1_22, fX1_26, fX1_29, fX1_32, fX1_35, fX1_38, fX1_41, fX1_44, fX1_47, fX1_50, fX1_53, fX1_60, fX1_63, fX1_73, fX1_105, fX1_108, oX1_94, cX1_c, nX1_0, vX1_0, nX1_1, vX1_1, nX1_2, vX1_2, nX1_3, vX1_3, nX1_4, vX1_4, nX1_5, vX1_5, nX1_6, vX1_6, nX1_7, vX1_7, vX1_8, vX1_9, vX1_10, vX1_11, vX1_12, vX1_13, vX1_14, vX1_15, vX1_16, vX1_17, nX1_18, vX1_18, nX1_19, vX1_19, lX1_1, aX1_1, lX1_2, aX1_2, lX1_3, aX1_3, lX1_4, aX1_4, lX1_5, aX1_5, lX1_6, aX1_6, lX1_7, aX1_7, lX1_8, aX1_8, lX1_9, aX1_9, lX1_10, aX1_10, gX1_n, vX1_news_0, vX1_news_1, vX1_news_2, vX1_news_3, vX1_news_4, vX1_news_5, vX1_news_6, vX1_news_9, vX1_news_12, vX1_news_13, vX1_news_14, vX1_news_17, vX1_news_18, vX1_news_21, vX1_news_22, vX1_news_23, vX1_news_24, vX1_news_26, vX1_news_29, vX1_news_30, vX1_news_31, vX1_news_32, vX1_news_35, vX1_news_36, vX1_news_37, vX1_news_38, vX1_news_41, vX1_news_44, vX1_news_45, Nat.reduceAdd, Nat.reduceSub, Nat.reduceBEq, Nat.reduceEqDiff, Nat.reduceLeDiff, Int.reduceAdd, Int.reduceSub, Int.reduceNeg, Int.reduceToNat, Int.reduceLE, Int.reduceLT, Int.zero_add, Nat.zero_add, List.toList_toArray, Option.map_some, Bool.or_false, Bool.or_true, Bool.false_or, Bool.true_or, Bool.or_self, cond_false, cond_true, List.length_cons, List.length_nil, true_and, and_true, forall_eq, forall_eq_apply_imp_iff, and_imp, ite_true, ite_false, reduceIte, true_or, or_true, false_or, or_false, false_and, and_false, eq_self, List.drop_succ_cons, List.drop_zero, List.zip_cons_cons, List.zip_nil_right, List.all_cons, List.all_nil, false_implies, true_implies, Bool.true_eq_false, Bool.false_eq_true, not_false_eq_true, not_true_eq_false, mx_u, mx_u2, mx_b0, mx_b1, Bool.not_eq_false, Bool.not_eq_true, Nat.le_refl, ne_eq, mG, mF, mGv, Int32.add_sub_cancel, spX1_news, mArg]
    exact key
  · refine mWalk hX [4] 40 ?_
    simp only [mRun, mCut, mAt, mSet, mArgs, mFind, mLdI, mLdA, mStI, mInc, mBin, mDiv, mJ1, mJ2, mN1, mN2, mGet, mPut, mLdE, mStE, mLdR, mKon, mDup, mDup2, mAft, mCaV, mCaS, mRetI, mRetV, fX1_7, fX1_13, fX1_16, fX1_19, fX1_22, fX1_26, fX1_29, fX1_32, fX1_35, fX1_38, fX1_41, fX1_44, fX1_47, fX1_50, fX1_53, fX1_60, fX1_63, fX1_73, fX1_105, fX1_108, oX1_94, cX1_c, nX1_0, vX1_0, nX1_1, vX1_1, nX1_2, vX1_2, nX1_3, vX1_3, nX1_4, vX1_4, nX1_5, vX1_5, nX1_6, vX1_6, nX1_7, vX1_7, vX1_8, vX1_9, vX1_10, vX1_11, vX1_12, vX1_13, vX1_14, vX1_15, vX1_16, vX1_17, nX1_18, vX1_18, nX1_19, vX1_19, lX1_1, aX1_1, lX1_2, aX1_2, lX1_3, aX1_3, lX1_4, aX1_4, lX1_5, aX1_5, lX1_6, aX1_6, lX1_7, aX1_7, lX1_8, aX1_8, lX1_9, aX1_9, lX1_10, aX1_10, gX1_n, vX1_news_0, vX1_news_1, vX1_news_2, vX1_news_3, vX1_news_4, vX1_news_5, vX1_news_6, vX1_news_9, vX1_news_12, vX1_news_13, vX1_news_14, vX1_news_17, vX1_news_18, vX1_news_21, vX1_news_22, vX1_news_23, vX1_news_24, vX1_news_26, vX1_news_29, vX1_news_30, vX1_news_31, vX1_news_32, vX1_news_35, vX1_news_36, vX1_news_37, vX1_news_38, vX1_news_41, vX1_news_44, vX1_news_45, Nat.reduceAdd, Nat.reduceSub, Nat.reduceBEq, Nat.reduceEqDiff, Nat.reduceLeDiff, Int.reduceAdd, Int.reduceSub, Int.reduceNeg, Int.reduceToNat, Int.reduceLE, Int.reduceLT, Int.zero_add, Nat.zero_add, List.toList_toArray, Option.map_some, Bool.or_false, Bool.or_true, Bool.false_or, Bool.true_or, Bool.or_self, cond_false, cond_true, List.length_cons, List.length_nil, true_and, and_true, forall_eq, forall_eq_apply_imp_iff, and_imp, ite_true, ite_false, reduceIte, true_or, or_true, false_or, or_false, false_and, and_false, eq_self, List.drop_succ_cons, List.drop_zero, List.zip_cons_cons, List.zip_nil_right, List.all_cons, List.all_nil, false_implies, true_implies, Bool.true_eq_false, Bool.false_eq_true, not_false_eq_true, not_true_eq_false, mx_u, mx_u2, mx_b0, mx_b1, Bool.not_eq_false, Bool.not_eq_true, Nat.le_refl, ne_eq, mG, mF, mGv, Int32.add_sub_cancel, spX1_news, mArg, ht, Int32.le_refl]
    rfl
  · intro i hi ih
    have c1 : ¬ nI (mTn σ) ≤ nI i := nI_ge hi (by omega)
    obtain ⟨v1, e1⟩ := nI_i (j := i) (n := 12) (by omega) (by omega)
    refine mWalk hX [4] 40 ?_
    simp only [mRun, mCut, mAt, mSet, mArgs, mFind, mLdI, mLdA, mStI, mInc, mBin, mDiv, mJ1, mJ2, mN1, mN2, mGet, mPut, mLdE, mStE, mLdR, mKon, mDup, mDup2, mAft, mCaV, mCaS, mRetI, mRetV, fX1_7, fX1_13, fX1_16, fX1_19, fX1_22, fX1_26, fX1_29, fX1_32, fX1_35, fX1_38, fX1_41, fX1_44, fX1_47, fX1_50, fX1_53, fX1_60, fX1_63, fX1_73, fX1_105, fX1_108, oX1_94, cX1_c, nX1_0, vX1_0, nX1_1, vX1_1, nX1_2, vX1_2, nX1_3, vX1_3, nX1_4, vX1_4, nX1_5, vX1_5, nX1_6, vX1_6, nX1_7, vX1_7, vX1_8, vX1_9, vX1_10, vX1_11, vX1_12, vX1_13, vX1_14, vX1_15, vX1_16, vX1_17, nX1_18, vX1_18, nX1_19, vX1_19, lX1_1, aX1_1, lX1_2, aX1_2, lX1_3, aX1_3, lX1_4, aX1_4, lX1_5, aX1_5, lX1_6, aX1_6, lX1_7, aX1_7, lX1_8, aX1_8, lX1_9, aX1_9, lX1_10, aX1_10, gX1_n, vX1_news_0, vX1_news_1, vX1_news_2, vX1_news_3, vX1_news_4, vX1_news_5, vX1_news_6, vX1_news_9, vX1_news_12, vX1_news_13, vX1_news_14, vX1_news_17, vX1_news_18, vX1_news_21, vX1_news_22, vX1_news_23, vX1_news_24, vX1_news_26, vX1_news_29, vX1_news_30, vX1_news_31, vX1_news_32, vX1_news_35, vX1_news_36, vX1_news_37, vX1_news_38, vX1_news_41, vX1_news_44, vX1_news_45, Nat.reduceAdd, Nat.reduceSub, Nat.reduceBEq, Nat.reduceEqDiff, Nat.reduceLeDiff, Int.reduceAdd, Int.reduceSub, Int.reduceNeg, Int.reduceToNat, Int.reduceLE, Int.reduceLT, Int.zero_add, Nat.zero_add, List.toList_toArray, Option.map_some, Bool.or_false, Bool.or_true, Bool.false_or, Bool.true_or, Bool.or_self, cond_false, cond_true, List.length_cons, List.length_nil, true_and, and_true, forall_eq, forall_eq_apply_imp_iff, and_imp, ite_true, ite_false, reduceIte, true_or, or_true, false_or, or_false, false_and, and_false, eq_self, List.drop_succ_cons, List.drop_zero, List.zip_cons_cons, List.zip_nil_right, List.all_cons, List.all_nil, false_implies, true_implies, Bool.true_eq_false, Bool.false_eq_true, not_false_eq_true, not_true_eq_false, mx_u, mx_u2, mx_b0, mx_b1, Bool.not_eq_false, Bool.not_eq_true, Nat.le_refl, ne_eq, mG, mF, mGv, Int32.add_sub_cancel, spX1_news, mArg, ht, c1, v1, e1, nI_1]
    refine ⟨fun h1 => ?_, fun h1 => ?_⟩
    · have := Int32.not_lt.mpr h1
      simpa [newF, orN, this] using ih
    · have := Int32.not_le.mp h1
      simpa [newF, orN, this] using ih
set_option maxRecDepth 100000 in
theorem okX1_80 {d : Nat} (hd : 0 + 1 ≤ d) : mOK hX1 1 20 vwC RX1 RX1 d 80 spX1_news := ⟨yX1_news, cX1_news, 3, (some .int), 0, ctX1_news, hd, by decide, by decide +kernel, by decide +kernel, by decide +kernel, by decide +kernel, fun h => (by cases h), fun _ => ⟨by decide +kernel, by decide +kernel⟩⟩
def spX1_mayFor : mC := mF 1 false (fun σ xs => mOk σ ∧ isInF (mArg xs 0) 0 7 = true) (fun σ xs => mMay σ (mArg xs 0))
set_option maxHeartbeats 8000000 in
set_option maxRecDepth 100000 in
theorem ctX1_mayFor : mCt hX1 1 20 vwC yX1_mayFor cX1_mayFor 4 (some .int) 1 spX1_mayFor := by
  refine mMeet (k := (kX1 [(95, spX1_takenBy)])) (bl := 0) (own := RX1) (C := RX1) (T := TX1) (ty0 := tyX1) (by decide +kernel) rfl (tbX1 _) (mCal_cons (okX1_95 (by decide)) mCal_nil) (Or.inl ⟨rfl, rfl, rfl⟩) (by decide) ?_
  intro σ xs hlen hpre X hX
  obtain ⟨a0, rfl⟩ := mx_l1 xs hlen
  change X (0, [some (.ref 0), some (.int a0), none, none], [], σ)
  obtain ⟨hpre, hp⟩ : mOk σ ∧ isInF a0 0 7 = true := hpre
  obtain ⟨⟨ht, hn⟩, -, -, -⟩ := id hpre
  obtain ⟨p, hp1, rfl, -, hp3⟩ := mPers_ix hp
  have key := mFor (X := X) (mTn σ) (fun i => (15, [some (.ref 0), some (.int (nI p)), some (.int (mayF (fun x => σ.2 9 (12 * p + x)) (σ.1 1) (σ.1 7 &&& (mTak σ (nI p) ^^^ (-1))) i)), some (.int (nI i))], [], σ)) ?_ ?_ 0 (Nat.zero_le _)
  · refine mWalk hX [15] 40 ?_
    simp only [mRun, mCut, mAt, mSet, mArgs, mFind, mLdI, mLdA, mStI, mInc, mBin, mDiv, mJ1, mJ2, mN1, mN2, mGet, mPut, mLdE, mStE, mLdR, mKon, mDup, mDup2, mAft, mCaV, mCaS, mRetI, mRetV, fX1_7, fX1_13, fX1_16, fX1_19, fX1_22, fX1_26, fX1_29, fX1_32, fX1_35, fX1_38, fX1_41, fX1_44, fX1_47, fX1_50, fX1_53, fX1_60, fX1_63, fX1_73, fX1_105, fX1_108, oX1_94, cX1_c, nX1_0, vX1_0, nX1_1, vX1_1, nX1_2, vX1_2, nX1_3, vX1_3, nX1_4, vX1_4, nX1_5, vX1_5, nX1_6, vX1_6, nX1_7, vX1_7, vX1_8, vX1_9, vX1_10, vX1_11, vX1_12, vX1_13, vX1_14, vX1_15, vX1_16, vX1_17, nX1_18, vX1_18, nX1_19, vX1_19, lX1_1, aX1_1, lX1_2, aX1_2, lX1_3, aX1_3, lX1_4, aX1_4, lX1_5, aX1_5, lX1_6, aX1_6, lX1_7, aX1_7, lX1_8, aX1_8, lX1_9, aX1_9, lX1_10, aX1_10, gX1_n, vX1_mayFor_0, vX1_mayFor_1, vX1_mayFor_4, vX1_mayFor_5, vX1_mayFor_6, vX1_mayFor_9, vX1_mayFor_10, vX1_mayFor_11, vX1_mayFor_12, vX1_mayFor_13, vX1_mayFor_14, vX1_mayFor_15, vX1_mayFor_16, vX1_mayFor_17, vX1_mayFor_20, vX1_mayFor_23, vX1_mayFor_24, vX1_mayFor_27, vX1_mayFor_28, vX1_mayFor_31, vX1_mayFor_33, vX1_mayFor_34, vX1_mayFor_35, vX1_mayFor_36, vX1_mayFor_37, vX1_mayFor_38, vX1_mayFor_41, vX1_mayFor_42, vX1_mayFor_43, vX1_mayFor_44, vX1_mayFor_45, vX1_mayFor_46, vX1_mayFor_47, vX1_mayFor_48, vX1_mayFor_49, vX1_mayFor_52, vX1_mayFor_55, vX1_mayFor_56, Nat.reduceAdd, Nat.reduceSub, Nat.reduceBEq, Nat.reduceEqDiff, Nat.reduceLeDiff, Int.reduceAdd, Int.reduceSub, Int.reduceNeg, Int.reduceToNat, Int.reduceLE, Int.reduceLT, Int.zero_add, Nat.zero_add, List.toList_toArray, Option.map_some, Bool.or_false, Bool.or_true, Bool.false_or, Bool.true_or, Bool.or_self, cond_false, cond_true, List.length_cons, List.length_nil, true_and, and_true, forall_eq, forall_eq_apply_imp_iff, and_imp, ite_true, ite_false, reduceIte, true_or, or_true, false_or, or_false, false_and, and_false, eq_self, List.drop_succ_cons, List.drop_zero, List.zip_cons_cons, List.zip_nil_right, List.all_cons, List.all_nil, false_implies, true_implies, Bool.true_eq_false, Bool.false_eq_true, not_false_eq_true, not_true_eq_false, mx_u, mx_u2, mx_b0, mx_b1, Bool.not_eq_false, Bool.not_eq_true, Nat.le_refl, ne_eq, mG, mF, mGv, Int32.add_sub_cancel, spX1_mayFor, spX1_takenBy, mArg, hpre]
    exact key
  · refine mWalk hX [15] 40 ?_
    simp only [mRun, mCut, mAt, mSet, mArgs, mFind, mLdI, mLdA, mStI, mInc, mBin, mDiv, mJ1, mJ2, mN1, mN2, mGet, mPut, mLdE, mStE, mLdR, mKon, mDup, mDup2, mAft, mCaV, mCaS, mRetI, mRetV, fX1_7, fX1_13, fX1_16, fX1_19, fX1_22, fX1_26, fX1_29, fX1_32, fX1_35, fX1_38, fX1_41, fX1_44, fX1_47, fX1_50, fX1_53, fX1_60, fX1_63, fX1_73, fX1_105, fX1_108, oX1_94, cX1_c, nX1_0, vX1_0, nX1_1, vX1_1, nX1_2, vX1_2, nX1_3, vX1_3, nX1_4, vX1_4, nX1_5, vX1_5, nX1_6, vX1_6, nX1_7, vX1_7, vX1_8, vX1_9, vX1_10, vX1_11, vX1_12, vX1_13, vX1_14, vX1_15, vX1_16, vX1_17, nX1_18, vX1_18, nX1_19, vX1_19, lX1_1, aX1_1, lX1_2, aX1_2, lX1_3, aX1_3, lX1_4, aX1_4, lX1_5, aX1_5, lX1_6, aX1_6, lX1_7, aX1_7, lX1_8, aX1_8, lX1_9, aX1_9, lX1_10, aX1_10, gX1_n, vX1_mayFor_0, vX1_mayFor_1, vX1_mayFor_4, vX1_mayFor_5, vX1_mayFor_6, vX1_mayFor_9, vX1_mayFor_10, vX1_mayFor_11, vX1_mayFor_12, vX1_mayFor_13, vX1_mayFor_14, vX1_mayFor_15, vX1_mayFor_16, vX1_mayFor_17, vX1_mayFor_20, vX1_mayFor_23, vX1_mayFor_24, vX1_mayFor_27, vX1_mayFor_28, vX1_mayFor_31, vX1_mayFor_33, vX1_mayFor_34, vX1_mayFor_35, vX1_mayFor_36, vX1_mayFor_37, vX1_mayFor_38, vX1_mayFor_41, vX1_mayFor_42, vX1_mayFor_43, vX1_mayFor_44, vX1_mayFor_45, vX1_mayFor_46, vX1_mayFor_47, vX1_mayFor_48, vX1_mayFor_49, vX1_mayFor_52, vX1_mayFor_55, vX1_mayFor_56, Nat.reduceAdd, Nat.reduceSub, Nat.reduceBEq, Nat.reduceEqDiff, Nat.reduceLeDiff, Int.reduceAdd, Int.reduceSub, Int.reduceNeg, Int.reduceToNat, Int.reduceLE, Int.reduceLT, Int.zero_add, Nat.zero_add, List.toList_toArray, Option.map_some, Bool.or_false, Bool.or_true, Bool.false_or, Bool.true_or, Bool.or_self, cond_false, cond_true, List.length_cons, List.length_nil, true_and, and_true, forall_eq, forall_eq_apply_imp_iff, and_imp, ite_true, ite_false, reduceIte, true_or, or_true, false_or, or_false, false_and, and_false, eq_self, List.drop_succ_cons, List.drop_zero, List.zip_cons_cons, List.zip_nil_right, List.all_cons, List.all_nil, false_implies, true_implies, Bool.true_eq_false, Bool.false_eq_true, not_false_eq_true, not_true_eq_false, mx_u, mx_u2, mx_b0, mx_b1, Bool.not_eq_false, Bool.not_eq_true, Nat.le_refl, ne_eq, mG, mF, mGv, Int32.add_sub_cancel, spX1_mayFor, spX1_takenBy, mArg, ht, Int32.le_refl, mMay, hp3]
  · intro i hi ih
    have c1 : ¬ nI (mTn σ) ≤ nI i := nI_ge hi (by omega)
    obtain ⟨r1, r2, r3⟩ := nI_row hp1 (x := i) (by omega)
    refine mWalk hX [15] 40 ?_
    simp only [mRun, mCut, mAt, mSet, mArgs, mFind, mLdI, mLdA, mStI, mInc, mBin, mDiv, mJ1, mJ2, mN1, mN2, mGet, mPut, mLdE, mStE, mLdR, mKon, mDup, mDup2, mAft, mCaV, mCaS, mRetI, mRetV, fX1_7, fX1_13, fX1_16, fX1_19, fX1_22, fX1_26, fX1_29, fX1_32, fX1_35, fX1_38, fX1_41, fX1_44, fX1_47, fX1_50, fX1_53, fX1_60, fX1_63, fX1_73, fX1_105, fX1_108, oX1_94, cX1_c, nX1_0, vX1_0, nX1_1, vX1_1, nX1_2, vX1_2, nX1_3, vX1_3, nX1_4, vX1_4, nX1_5, vX1_5, nX1_6, vX1_6, nX1_7, vX1_7, vX1_8, vX1_9, vX1_10, vX1_11, vX1_12, vX1_13, vX1_14, vX1_15, vX1_16, vX1_17, nX1_18, vX1_18, nX1_19, vX1_19, lX1_1, aX1_1, lX1_2, aX1_2, lX1_3, aX1_3, lX1_4, aX1_4, lX1_5, aX1_5, lX1_6, aX1_6, lX1_7, aX1_7, lX1_8, aX1_8, lX1_9, aX1_9, lX1_10, aX1_10, gX1_n, vX1_mayFor_0, vX1_mayFor_1, vX1_mayFor_4, vX1_mayFor_5, vX1_mayFor_6, vX1_mayFor_9, vX1_mayFor_10, vX1_mayFor_11, vX1_mayFor_12, vX1_mayFor_13, vX1_mayFor_14, vX1_mayFor_15, vX1_mayFor_16, vX1_mayFor_17, vX1_mayFor_20, vX1_mayFor_23, vX1_mayFor_24, vX1_mayFor_27, vX1_mayFor_28, vX1_mayFor_31, vX1_mayFor_33, vX1_mayFor_34, vX1_mayFor_35, vX1_mayFor_36, vX1_mayFor_37, vX1_mayFor_38, vX1_mayFor_41, vX1_mayFor_42, vX1_mayFor_43, vX1_mayFor_44, vX1_mayFor_45, vX1_mayFor_46, vX1_mayFor_47, vX1_mayFor_48, vX1_mayFor_49, vX1_mayFor_52, vX1_mayFor_55, vX1_mayFor_56, Nat.reduceAdd, Nat.reduceSub, Nat.reduceBEq, Nat.reduceEqDiff, Nat.reduceLeDiff, Int.reduceAdd, Int.reduceSub, Int.reduceNeg, Int.reduceToNat, Int.reduceLE, Int.reduceLT, Int.zero_add, Nat.zero_add, List.toList_toArray, Option.map_some, Bool.or_false, Bool.or_true, Bool.false_or, Bool.true_or, Bool.or_self, cond_false, cond_true, List.length_cons, List.length_nil, true_and, and_true, forall_eq, forall_eq_apply_imp_iff, and_imp, ite_true, ite_false, reduceIte, true_or, or_true, false_or, or_false, false_and, and_false, eq_self, List.drop_succ_cons, List.drop_zero, List.zip_cons_cons, List.zip_nil_right, List.all_cons, List.all_nil, false_implies, true_implies, Bool.true_eq_false, Bool.false_eq_true, not_false_eq_true, not_true_eq_false, mx_u, mx_u2, mx_b0, mx_b1, Bool.not_eq_false, Bool.not_eq_true, Nat.le_refl, ne_eq, mG, mF, mGv, Int32.add_sub_cancel, spX1_mayFor, spX1_takenBy, mArg, ht, c1, r1, r2, r3, nI_1]
    refine ⟨fun h1 => ?_, fun h1 => ?_⟩
    · have := Int32.not_lt.mpr h1
      simpa [mayF, this] using ih
    · have := Int32.not_le.mp h1
      simpa [mayF, this] using ih
set_option maxRecDepth 100000 in
theorem okX1_102 {d : Nat} (hd : 1 + 1 ≤ d) : mOK hX1 1 20 vwC RX1 RX1 d 102 spX1_mayFor := ⟨yX1_mayFor, cX1_mayFor, 4, (some .int), 1, ctX1_mayFor, hd, by decide, by decide +kernel, by decide +kernel, by decide +kernel, by decide +kernel, fun h => (by cases h), fun _ => ⟨by decide +kernel, by decide +kernel⟩⟩
end
section
theorem mx_end : True := trivial
end
